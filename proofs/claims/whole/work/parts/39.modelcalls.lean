/-! the model's calls -/
theorem i_sub2 (a b c : Int32) : a - b - c = a - (b + c) := by simp only [Int32.sub_eq_add_neg, Int32.neg_add, Int32.add_assoc]
theorem mSum_up {A : Nat → Nat → Int32} {k : Nat} {x : Nat → Int32} {nl nu nm : Nat} {tn : Nat → Nat} {o by0 : Int32} {m : Nat} (h : 25 < k) : mSum (va_up A k x) nl nu nm tn o by0 m = mSum A nl nu nm tn o by0 m := by
  simp only [mSum, va_up_ne A x (show 4 ≠ k by omega), va_up_ne A x (show 5 ≠ k by omega), va_up_ne A x (show 6 ≠ k by omega), va_up_ne A x (show 7 ≠ k by omega), va_up_ne A x (show 15 ≠ k by omega), va_up_ne A x (show 16 ≠ k by omega), va_up_ne A x (show 17 ≠ k by omega), va_up_ne A x (show 19 ≠ k by omega), va_up_ne A x (show 20 ≠ k by omega), va_up_ne A x (show 22 ≠ k by omega), va_up_ne A x (show 23 ≠ k by omega), va_up_ne A x (show 24 ≠ k by omega), va_up_ne A x (show 25 ≠ k by omega)]
theorem nI120 (u i : Nat) : 120 * nI u + nI i = nI (120 * u + i) := by rw [show (120 : Int32) * nI u = nI (120 * u) from pk_mul 120 u, nI_add]

set_option maxHeartbeats 4000000 in
set_option maxRecDepth 100000 in
/-- sum -/
theorem c_X8_sum (l : Launch) (hl0 : l.stackTraces = false) (D : va_G) (y : Nat → ClassId) (b0 : Nat) (Ls : List Nat) (ad : Nat → Nat) (G : Nat → va_E) (F : Nat → Int32) (A : Nat → Nat → Int32) (hM : ModelAt y Ls ad G F A) (nu : Nat) (h14 : F 14 = nI nu) (nl : Nat) (h3 : F 3 = nI nl) (nm : Nat) (h21 : F 21 = nI nm) (hnu : nu ≤ 24) (hnl : nl ≤ 60) (hnm : nm ≤ 60) (tn : Nat → Nat) (htn : ∀ u, u < nu → A 18 u = nI (tn u) ∧ tn u ≤ 9) (o mo0 : Int32) : Met l yX8_sum wsX8_sum ({ frames := 4, cells := 0, slots := 0, locals := 100 }) (va_Pc [.ref (ad 100), .int o, .int mo0] (WdM D y b0 (wl Ls ad G))) (va_Qi (fun (r : Int32) (u : va_W) => (¬ (inR o 7 ∧ inR mo0 119) ∧ ∃ G2, u = wl Ls ad G2 ∧ ModelAt y Ls ad G2 (va_up F 0 1) A ∧ (∀ j, (j < 100 ∨ 134 < j) → G2 j = G j)) ∨ (inR o 7 ∧ ∃ m0, m0 < 120 ∧ mo0 = nI m0 ∧ r = mSum A nl nu nm tn o o m0 ∧ ∃ G2, u = wl Ls ad G2 ∧ ModelAt y Ls ad G2 (va_up F 0 0) A ∧ (∀ j, (j < 100 ∨ 134 < j) → G2 j = G j))) (WB D b0) (fun q => b0 ≤ q)) 0 0 (fun q => b0 ≤ q) := by
  refine Met.ofW (cc := cX8_sum) (maxL := 3) (ret := (some .int)) (by decide) rfl ?_
  intro p e s m args below meth c s₁ B hml hv
  obtain ⟨rfl, ⟨hP, hK, hN⟩, hD, hb0, hT⟩ := hv
  have hx := B.exec
  have hb := B.bytes
  have hr := B.returns
  have hts := atoms_spec (ws := wsX8_sum) B.pre
  have hown : s.vm.findClass RX8 = some m.cls := findClass_of_methodNamed B.named
  have hlocks := B.notSynchronized
  have hS : va_S (fun q => b0 ≤ q) s.heap s.heap [] := va_S.rf
  have hinX8 : ∀ w ∈ wsX80, w ∈ wsX8_sum := by decide +kernel
  have eM : G 100 = .inr (10, [.int (F 0), .int (F 1), .ref (ad 103), .int (F 3), .ref (ad 105), .ref (ad 106), .ref (ad 107), .ref (ad 108), .int (F 8), .ref (ad 110), .ref (ad 111), .ref (ad 112), .ref (ad 113), .int (F 13), .int (F 14), .ref (ad 116), .ref (ad 117), .ref (ad 118), .ref (ad 119), .ref (ad 120), .ref (ad 121), .int (F 21), .ref (ad 123), .ref (ad 124), .ref (ad 125), .ref (ad 126), .int (F 26), .ref (ad 128), .ref (ad 129), .ref (ad 130), .ref (ad 131), .ref (ad 132), .int (F 32), .ref (ad 134)]) := hM.2.1
  have hl := lv_entry ([.ref (ad 100), .int o, .int mo0]) (n := 3) (Nat.le_of_ble_eq_true rfl)
  rw [lg_entry_eq]
  generalize (lg_sl ([.ref (ad 100), .int o, .int mo0]) ++ List.replicate (3 - (lg_sl ([.ref (ad 100), .int o, .int mo0])).length) Slot.unset).toArray = ls at hl ⊢
  have hl : lv_has ls 3 [(0, .ref (ad 100)), (1, .int o), (2, .int mo0)] := hl
  refine lv_aload_n hx hb dX8_sum_0 rfl (lv_at hl 0 rfl) ?_
  refine lv_iload_n hx hb dX8_sum_1 rfl (lv_at hl 1 rfl) ?_
  refine vp_callSi (va_Run.run (va_runS (As := [.int o]) (rest := [.ref (ad 100)]) ⟨hx, hb, hml, hown, hts⟩ (c_X8_isOwner l o) (va_cwS 1 hts gX8_sum_X8_isOwner rfl rfl rfl (by decide +kernel) ⟨Nat.le_of_ble_eq_true rfl, Nat.le_of_ble_eq_true rfl⟩) ⟨fun _ _ _ _ q => q, fun U hU hW => ⟨rfl, trivial⟩⟩ rfl rfl hl.1 rfl (lv_room (Nat.le_of_ble_eq_true rfl)) dX8_sum_2 ⟨(Nat.le_of_ble_eq_true rfl), (Nat.le_of_ble_eq_true rfl)⟩)) (fun r_2 hr_2 => ?_)
  refine lv_if_eq (tgt := 19) hx hb dX8_sum_5 (by decide) (fun c_5 => ?_) (fun c_5 => ?_)
  · refine lv_iconst (v := 1) hx hb dX8_sum_19 (by decide) ?_
    refine pv_put (ci := 10) (v := .int 1) (ty := .int) (C := RX8) (T := TX8) (N := 34) hx hb hts hinX8 tyX8 tyX8_ok nmX8 hown hK hP hD hS hM.1 eM rfl 0 (by decide) (hts (.fieldLink RX8 86 "StorageChargeModel" "code" "I") (by decide +kernel)) (fun _ h9 => h9) rfl (by decide +kernel) rfl rfl (Nat.le_of_ble_eq_true rfl) dX8_sum_20 (fun H locs hP hD hS => ?_)
    obtain ⟨G_20, eG_20⟩ : ∃ gg9 : Nat → va_E, gg9 = va_up G 100 (.inr (10, [.int 1, .int (F 1), .ref (ad 103), .int (F 3), .ref (ad 105), .ref (ad 106), .ref (ad 107), .ref (ad 108), .int (F 8), .ref (ad 110), .ref (ad 111), .ref (ad 112), .ref (ad 113), .int (F 13), .int (F 14), .ref (ad 116), .ref (ad 117), .ref (ad 118), .ref (ad 119), .ref (ad 120), .ref (ad 121), .int (F 21), .ref (ad 123), .ref (ad 124), .ref (ad 125), .ref (ad 126), .int (F 26), .ref (ad 128), .ref (ad 129), .ref (ad 130), .ref (ad 131), .ref (ad 132), .int (F 32), .ref (ad 134)])) := ⟨_, rfl⟩
    have hP : va_P D vwCl (wl Ls ad G_20) H := by rw [eG_20]; exact hP
    have hD : va_D (fun q => b0 ≤ q) (wl Ls ad G_20) := by rw [eG_20]; exact hD
    have eM : G_20 100 = .inr (10, [.int 1, .int (F 1), .ref (ad 103), .int (F 3), .ref (ad 105), .ref (ad 106), .ref (ad 107), .ref (ad 108), .int (F 8), .ref (ad 110), .ref (ad 111), .ref (ad 112), .ref (ad 113), .int (F 13), .int (F 14), .ref (ad 116), .ref (ad 117), .ref (ad 118), .ref (ad 119), .ref (ad 120), .ref (ad 121), .int (F 21), .ref (ad 123), .ref (ad 124), .ref (ad 125), .ref (ad 126), .int (F 26), .ref (ad 128), .ref (ad 129), .ref (ad 130), .ref (ad 131), .ref (ad 132), .int (F 32), .ref (ad 134)]) := by rw [eG_20]; exact va_up_self _ _ _
    have hMc : ModelAt y Ls ad G_20 (va_up F 0 1) A := (ModelAt_w hM (eM) (fun k hk => Or.inl ⟨by rw [eG_20, va_up_ne _ _ (by omega)], rfl⟩))
    have hfrc : ∀ j, (j < 100 ∨ 134 < j) → G_20 j = G j := (fun j h9 => by rw [eG_20, va_up_ne _ _ (by omega)])
    refine lv_aload_n hx hb dX8_sum_23 rfl (lv_at hl 0 rfl) ?_
    refine pv_get (ci := 10) (C := RX8) (T := TX8) (N := 34) hx hb hts hinX8 hown hK hP hM.1 eM rfl 0 (by decide) (hts (.fieldLink RX8 86 "StorageChargeModel" "code" "I") (by decide +kernel)) (fun _ h9 => h9) rfl dX8_sum_24 ?_
    refine lv_if_le (tgt := 34) hx hb dX8_sum_27 (by decide) (fun c_27 => ?_) (fun c_27 => ?_)
    · exact absurd c_27 (by decide)
    · refine lv_iconst (v := 0) hx hb dX8_sum_30 (by decide) ?_
      refine lv_goto (tgt := 41) hx hb dX8_sum_31 (by decide) ?_
      refine W.widen (k := 0) (n := 0) (Nat.le_of_ble_eq_true rfl) (Nat.le_of_ble_eq_true rfl) ?_
      exact W.iret (v := 0) hx hb hr (fun t ht hW => ⟨⟨0, wl Ls ad G_20, rfl, (by first | exact Or.inl ⟨fun h => absurd h.1 (wI_eq0.mp (by rw [← hr_2]; exact c_5)), _, rfl, hMc, hfrc⟩ | exact Or.inl ⟨fun h => absurd h.2 (wI_eq0.mp (by rw [← hr_9]; exact c_12)), _, rfl, hMc, hfrc⟩), by rw [ht]; exact hP, hD⟩, hS.F ht⟩) hS.2.2 dX8_sum_41
  · refine lv_iload_n hx hb dX8_sum_8 rfl (lv_at hl 2 rfl) ?_
    refine vp_callSi (va_Run.run (va_runS (As := [.int mo0]) (rest := [.ref (ad 100)]) ⟨hx, hb, hml, hown, hts⟩ (c_X8_isMonth l mo0) (va_cwS 1 hts gX8_sum_X8_isMonth rfl rfl rfl (by decide +kernel) ⟨Nat.le_of_ble_eq_true rfl, Nat.le_of_ble_eq_true rfl⟩) ⟨fun _ _ _ _ q => q, fun U hU hW => ⟨rfl, trivial⟩⟩ rfl rfl hl.1 rfl (lv_room (Nat.le_of_ble_eq_true rfl)) dX8_sum_9 ⟨(Nat.le_of_ble_eq_true rfl), (Nat.le_of_ble_eq_true rfl)⟩)) (fun r_9 hr_9 => ?_)
    refine lv_if_eq (tgt := 19) hx hb dX8_sum_12 (by decide) (fun c_12 => ?_) (fun c_12 => ?_)
    · refine lv_iconst (v := 1) hx hb dX8_sum_19 (by decide) ?_
      refine pv_put (ci := 10) (v := .int 1) (ty := .int) (C := RX8) (T := TX8) (N := 34) hx hb hts hinX8 tyX8 tyX8_ok nmX8 hown hK hP hD hS hM.1 eM rfl 0 (by decide) (hts (.fieldLink RX8 86 "StorageChargeModel" "code" "I") (by decide +kernel)) (fun _ h9 => h9) rfl (by decide +kernel) rfl rfl (Nat.le_of_ble_eq_true rfl) dX8_sum_20 (fun H locs hP hD hS => ?_)
      obtain ⟨G_20, eG_20⟩ : ∃ gg9 : Nat → va_E, gg9 = va_up G 100 (.inr (10, [.int 1, .int (F 1), .ref (ad 103), .int (F 3), .ref (ad 105), .ref (ad 106), .ref (ad 107), .ref (ad 108), .int (F 8), .ref (ad 110), .ref (ad 111), .ref (ad 112), .ref (ad 113), .int (F 13), .int (F 14), .ref (ad 116), .ref (ad 117), .ref (ad 118), .ref (ad 119), .ref (ad 120), .ref (ad 121), .int (F 21), .ref (ad 123), .ref (ad 124), .ref (ad 125), .ref (ad 126), .int (F 26), .ref (ad 128), .ref (ad 129), .ref (ad 130), .ref (ad 131), .ref (ad 132), .int (F 32), .ref (ad 134)])) := ⟨_, rfl⟩
      have hP : va_P D vwCl (wl Ls ad G_20) H := by rw [eG_20]; exact hP
      have hD : va_D (fun q => b0 ≤ q) (wl Ls ad G_20) := by rw [eG_20]; exact hD
      have eM : G_20 100 = .inr (10, [.int 1, .int (F 1), .ref (ad 103), .int (F 3), .ref (ad 105), .ref (ad 106), .ref (ad 107), .ref (ad 108), .int (F 8), .ref (ad 110), .ref (ad 111), .ref (ad 112), .ref (ad 113), .int (F 13), .int (F 14), .ref (ad 116), .ref (ad 117), .ref (ad 118), .ref (ad 119), .ref (ad 120), .ref (ad 121), .int (F 21), .ref (ad 123), .ref (ad 124), .ref (ad 125), .ref (ad 126), .int (F 26), .ref (ad 128), .ref (ad 129), .ref (ad 130), .ref (ad 131), .ref (ad 132), .int (F 32), .ref (ad 134)]) := by rw [eG_20]; exact va_up_self _ _ _
      have hMc : ModelAt y Ls ad G_20 (va_up F 0 1) A := (ModelAt_w hM (eM) (fun k hk => Or.inl ⟨by rw [eG_20, va_up_ne _ _ (by omega)], rfl⟩))
      have hfrc : ∀ j, (j < 100 ∨ 134 < j) → G_20 j = G j := (fun j h9 => by rw [eG_20, va_up_ne _ _ (by omega)])
      refine lv_aload_n hx hb dX8_sum_23 rfl (lv_at hl 0 rfl) ?_
      refine pv_get (ci := 10) (C := RX8) (T := TX8) (N := 34) hx hb hts hinX8 hown hK hP hM.1 eM rfl 0 (by decide) (hts (.fieldLink RX8 86 "StorageChargeModel" "code" "I") (by decide +kernel)) (fun _ h9 => h9) rfl dX8_sum_24 ?_
      refine lv_if_le (tgt := 34) hx hb dX8_sum_27 (by decide) (fun c_27 => ?_) (fun c_27 => ?_)
      · exact absurd c_27 (by decide)
      · refine lv_iconst (v := 0) hx hb dX8_sum_30 (by decide) ?_
        refine lv_goto (tgt := 41) hx hb dX8_sum_31 (by decide) ?_
        refine W.widen (k := 0) (n := 0) (Nat.le_of_ble_eq_true rfl) (Nat.le_of_ble_eq_true rfl) ?_
        exact W.iret (v := 0) hx hb hr (fun t ht hW => ⟨⟨0, wl Ls ad G_20, rfl, (by first | exact Or.inl ⟨fun h => absurd h.1 (wI_eq0.mp (by rw [← hr_2]; exact c_5)), _, rfl, hMc, hfrc⟩ | exact Or.inl ⟨fun h => absurd h.2 (wI_eq0.mp (by rw [← hr_9]; exact c_12)), _, rfl, hMc, hfrc⟩), by rw [ht]; exact hP, hD⟩, hS.F ht⟩) hS.2.2 dX8_sum_41
    · have hqm0 : 0 ≤ mo0 ∧ mo0 ≤ 119 := (Decidable.byContradiction fun h => c_12 (by rw [hr_9]; exact wI_eq0.mpr h))
      obtain ⟨m0, hm0, rfl⟩ := within_nI (n := 120) (by decide) (by decide) hqm0
      refine lv_iconst (v := 0) hx hb dX8_sum_15 (by decide) ?_
      refine lv_goto (tgt := 20) hx hb dX8_sum_16 (by decide) ?_
      refine pv_put (ci := 10) (v := .int 0) (ty := .int) (C := RX8) (T := TX8) (N := 34) hx hb hts hinX8 tyX8 tyX8_ok nmX8 hown hK hP hD hS hM.1 eM rfl 0 (by decide) (hts (.fieldLink RX8 86 "StorageChargeModel" "code" "I") (by decide +kernel)) (fun _ h9 => h9) rfl (by decide +kernel) rfl rfl (Nat.le_of_ble_eq_true rfl) dX8_sum_20 (fun H locs hP hD hS => ?_)
      obtain ⟨G_20, eG_20⟩ : ∃ gg9 : Nat → va_E, gg9 = va_up G 100 (.inr (10, [.int 0, .int (F 1), .ref (ad 103), .int (F 3), .ref (ad 105), .ref (ad 106), .ref (ad 107), .ref (ad 108), .int (F 8), .ref (ad 110), .ref (ad 111), .ref (ad 112), .ref (ad 113), .int (F 13), .int (F 14), .ref (ad 116), .ref (ad 117), .ref (ad 118), .ref (ad 119), .ref (ad 120), .ref (ad 121), .int (F 21), .ref (ad 123), .ref (ad 124), .ref (ad 125), .ref (ad 126), .int (F 26), .ref (ad 128), .ref (ad 129), .ref (ad 130), .ref (ad 131), .ref (ad 132), .int (F 32), .ref (ad 134)])) := ⟨_, rfl⟩
      have hP : va_P D vwCl (wl Ls ad G_20) H := by rw [eG_20]; exact hP
      have hD : va_D (fun q => b0 ≤ q) (wl Ls ad G_20) := by rw [eG_20]; exact hD
      have eM : G_20 100 = .inr (10, [.int 0, .int (F 1), .ref (ad 103), .int (F 3), .ref (ad 105), .ref (ad 106), .ref (ad 107), .ref (ad 108), .int (F 8), .ref (ad 110), .ref (ad 111), .ref (ad 112), .ref (ad 113), .int (F 13), .int (F 14), .ref (ad 116), .ref (ad 117), .ref (ad 118), .ref (ad 119), .ref (ad 120), .ref (ad 121), .int (F 21), .ref (ad 123), .ref (ad 124), .ref (ad 125), .ref (ad 126), .int (F 26), .ref (ad 128), .ref (ad 129), .ref (ad 130), .ref (ad 131), .ref (ad 132), .int (F 32), .ref (ad 134)]) := by rw [eG_20]; exact va_up_self _ _ _
      have hMc : ModelAt y Ls ad G_20 (va_up F 0 0) A := (ModelAt_w hM (eM) (fun k hk => Or.inl ⟨by rw [eG_20, va_up_ne _ _ (by omega)], rfl⟩))
      have hfrc : ∀ j, (j < 100 ∨ 134 < j) → G_20 j = G j := (fun j h9 => by rw [eG_20, va_up_ne _ _ (by omega)])
      refine lv_aload_n hx hb dX8_sum_23 rfl (lv_at hl 0 rfl) ?_
      refine pv_get (ci := 10) (C := RX8) (T := TX8) (N := 34) hx hb hts hinX8 hown hK hP hM.1 eM rfl 0 (by decide) (hts (.fieldLink RX8 86 "StorageChargeModel" "code" "I") (by decide +kernel)) (fun _ h9 => h9) rfl dX8_sum_24 ?_
      refine lv_if_le (tgt := 34) hx hb dX8_sum_27 (by decide) (fun c_27 => ?_) (fun c_27 => ?_)
      · refine lv_aload_n hx hb dX8_sum_34 rfl (lv_at hl 0 rfl) ?_
        refine lv_iload_n hx hb dX8_sum_35 rfl (lv_at hl 1 rfl) ?_
        refine lv_iload_n hx hb dX8_sum_36 rfl (lv_at hl 1 rfl) ?_
        refine lv_iload_n hx hb dX8_sum_37 rfl (lv_at hl 2 rfl) ?_
        refine vp_callSi (va_Run.run (va_runV (As := [.int o, .int o, .int (nI m0)]) (rest := []) ⟨hx, hb, hml, hown, hts⟩ (c_X8_sumOf l D y Ls ad G_20 (va_up F 0 0) A hMc nu ((va_up_ne _ _ (by decide)).trans h14) nl ((va_up_ne _ _ (by decide)).trans h3) nm ((va_up_ne _ _ (by decide)).trans h21) hnu hnl hnm tn htn o o m0 hm0) (cwV 3 hts gX8_sum_X8_sumOf rfl rfl rfl (by decide +kernel) ⟨Nat.le_of_ble_eq_true rfl, Nat.le_of_ble_eq_true rfl⟩) ⟨Wd_blind, Wd_recv hK hP (ci := 10) rfl hM.1 eM, Wd_at hP hK hN⟩ rfl rfl hl.1 rfl (lv_room (Nat.le_of_ble_eq_true rfl)) dX8_sum_38 ⟨(Nat.le_of_ble_eq_true rfl), (Nat.le_of_ble_eq_true rfl)⟩)) (fun r_38 hr_38 => ?_)
        refine W.widen (k := 0) (n := 0) (Nat.le_of_ble_eq_true rfl) (Nat.le_of_ble_eq_true rfl) ?_
        exact W.iret (v := r_38) hx hb hr (fun t ht hW => ⟨⟨r_38, wl Ls ad G_20, rfl, Or.inr ⟨(Decidable.byContradiction fun h => c_5 (by rw [hr_2]; exact wI_eq0.mpr h)), m0, hm0, rfl, hr_38, _, rfl, hMc, hfrc⟩, by rw [ht]; exact hP, hD⟩, hS.F ht⟩) hS.2.2 dX8_sum_41
      · exact absurd (by decide) c_27

set_option maxHeartbeats 4000000 in
set_option maxRecDepth 100000 in
/-- days -/
theorem c_X8_days (l : Launch) (hl0 : l.stackTraces = false) (D : va_G) (y : Nat → ClassId) (b0 : Nat) (Ls : List Nat) (ad : Nat → Nat) (G : Nat → va_E) (F : Nat → Int32) (A : Nat → Nat → Int32) (hM : ModelAt y Ls ad G F A) (nu : Nat) (h14 : F 14 = nI nu) (hnu : nu ≤ 24) (o mo0 : Int32) : Met l yX8_days wsX8_days ({ frames := 2, cells := 0, slots := 0, locals := 47 }) (va_Pc [.ref (ad 100), .int o, .int mo0] (WdM D y b0 (wl Ls ad G))) (va_Qi (fun (r : Int32) (u : va_W) => (¬ (inR o 7 ∧ inR mo0 119) ∧ ∃ G2, u = wl Ls ad G2 ∧ ModelAt y Ls ad G2 (va_up F 0 1) A ∧ (∀ j, (j < 100 ∨ 134 < j) → G2 j = G j)) ∨ (inR o 7 ∧ ∃ m0, m0 < 120 ∧ mo0 = nI m0 ∧ r = mDay (A 15) (A 16) (A 17) o m0 nu ∧ ∃ G2, u = wl Ls ad G2 ∧ ModelAt y Ls ad G2 (va_up F 0 0) A ∧ (∀ j, (j < 100 ∨ 134 < j) → G2 j = G j))) (WB D b0) (fun q => b0 ≤ q)) 0 0 (fun q => b0 ≤ q) := by
  refine Met.ofW (cc := cX8_days) (maxL := 3) (ret := (some .int)) (by decide) rfl ?_
  intro p e s m args below meth c s₁ B hml hv
  obtain ⟨rfl, ⟨hP, hK, hN⟩, hD, hb0, hT⟩ := hv
  have hx := B.exec
  have hb := B.bytes
  have hr := B.returns
  have hts := atoms_spec (ws := wsX8_days) B.pre
  have hown : s.vm.findClass RX8 = some m.cls := findClass_of_methodNamed B.named
  have hlocks := B.notSynchronized
  have hS : va_S (fun q => b0 ≤ q) s.heap s.heap [] := va_S.rf
  have hinX8 : ∀ w ∈ wsX80, w ∈ wsX8_days := by decide +kernel
  have eM : G 100 = .inr (10, [.int (F 0), .int (F 1), .ref (ad 103), .int (F 3), .ref (ad 105), .ref (ad 106), .ref (ad 107), .ref (ad 108), .int (F 8), .ref (ad 110), .ref (ad 111), .ref (ad 112), .ref (ad 113), .int (F 13), .int (F 14), .ref (ad 116), .ref (ad 117), .ref (ad 118), .ref (ad 119), .ref (ad 120), .ref (ad 121), .int (F 21), .ref (ad 123), .ref (ad 124), .ref (ad 125), .ref (ad 126), .int (F 26), .ref (ad 128), .ref (ad 129), .ref (ad 130), .ref (ad 131), .ref (ad 132), .int (F 32), .ref (ad 134)]) := hM.2.1
  have hl := lv_entry ([.ref (ad 100), .int o, .int mo0]) (n := 3) (Nat.le_of_ble_eq_true rfl)
  rw [lg_entry_eq]
  generalize (lg_sl ([.ref (ad 100), .int o, .int mo0]) ++ List.replicate (3 - (lg_sl ([.ref (ad 100), .int o, .int mo0])).length) Slot.unset).toArray = ls at hl ⊢
  have hl : lv_has ls 3 [(0, .ref (ad 100)), (1, .int o), (2, .int mo0)] := hl
  refine lv_aload_n hx hb dX8_days_0 rfl (lv_at hl 0 rfl) ?_
  refine lv_iload_n hx hb dX8_days_1 rfl (lv_at hl 1 rfl) ?_
  refine vp_callSi (va_Run.run (va_runS (As := [.int o]) (rest := [.ref (ad 100)]) ⟨hx, hb, hml, hown, hts⟩ (c_X8_isOwner l o) (va_cwS 1 hts gX8_days_X8_isOwner rfl rfl rfl (by decide +kernel) ⟨Nat.le_of_ble_eq_true rfl, Nat.le_of_ble_eq_true rfl⟩) ⟨fun _ _ _ _ q => q, fun U hU hW => ⟨rfl, trivial⟩⟩ rfl rfl hl.1 rfl (lv_room (Nat.le_of_ble_eq_true rfl)) dX8_days_2 ⟨(Nat.le_of_ble_eq_true rfl), (Nat.le_of_ble_eq_true rfl)⟩)) (fun r_2 hr_2 => ?_)
  refine lv_if_eq (tgt := 19) hx hb dX8_days_5 (by decide) (fun c_5 => ?_) (fun c_5 => ?_)
  · refine lv_iconst (v := 1) hx hb dX8_days_19 (by decide) ?_
    refine pv_put (ci := 10) (v := .int 1) (ty := .int) (C := RX8) (T := TX8) (N := 34) hx hb hts hinX8 tyX8 tyX8_ok nmX8 hown hK hP hD hS hM.1 eM rfl 0 (by decide) (hts (.fieldLink RX8 86 "StorageChargeModel" "code" "I") (by decide +kernel)) (fun _ h9 => h9) rfl (by decide +kernel) rfl rfl (Nat.le_of_ble_eq_true rfl) dX8_days_20 (fun H locs hP hD hS => ?_)
    obtain ⟨G_20, eG_20⟩ : ∃ gg9 : Nat → va_E, gg9 = va_up G 100 (.inr (10, [.int 1, .int (F 1), .ref (ad 103), .int (F 3), .ref (ad 105), .ref (ad 106), .ref (ad 107), .ref (ad 108), .int (F 8), .ref (ad 110), .ref (ad 111), .ref (ad 112), .ref (ad 113), .int (F 13), .int (F 14), .ref (ad 116), .ref (ad 117), .ref (ad 118), .ref (ad 119), .ref (ad 120), .ref (ad 121), .int (F 21), .ref (ad 123), .ref (ad 124), .ref (ad 125), .ref (ad 126), .int (F 26), .ref (ad 128), .ref (ad 129), .ref (ad 130), .ref (ad 131), .ref (ad 132), .int (F 32), .ref (ad 134)])) := ⟨_, rfl⟩
    have hP : va_P D vwCl (wl Ls ad G_20) H := by rw [eG_20]; exact hP
    have hD : va_D (fun q => b0 ≤ q) (wl Ls ad G_20) := by rw [eG_20]; exact hD
    have eM : G_20 100 = .inr (10, [.int 1, .int (F 1), .ref (ad 103), .int (F 3), .ref (ad 105), .ref (ad 106), .ref (ad 107), .ref (ad 108), .int (F 8), .ref (ad 110), .ref (ad 111), .ref (ad 112), .ref (ad 113), .int (F 13), .int (F 14), .ref (ad 116), .ref (ad 117), .ref (ad 118), .ref (ad 119), .ref (ad 120), .ref (ad 121), .int (F 21), .ref (ad 123), .ref (ad 124), .ref (ad 125), .ref (ad 126), .int (F 26), .ref (ad 128), .ref (ad 129), .ref (ad 130), .ref (ad 131), .ref (ad 132), .int (F 32), .ref (ad 134)]) := by rw [eG_20]; exact va_up_self _ _ _
    have hMc : ModelAt y Ls ad G_20 (va_up F 0 1) A := (ModelAt_w hM (eM) (fun k hk => Or.inl ⟨by rw [eG_20, va_up_ne _ _ (by omega)], rfl⟩))
    have hfrc : ∀ j, (j < 100 ∨ 134 < j) → G_20 j = G j := (fun j h9 => by rw [eG_20, va_up_ne _ _ (by omega)])
    refine lv_aload_n hx hb dX8_days_23 rfl (lv_at hl 0 rfl) ?_
    refine pv_get (ci := 10) (C := RX8) (T := TX8) (N := 34) hx hb hts hinX8 hown hK hP hM.1 eM rfl 0 (by decide) (hts (.fieldLink RX8 86 "StorageChargeModel" "code" "I") (by decide +kernel)) (fun _ h9 => h9) rfl dX8_days_24 ?_
    refine lv_if_le (tgt := 34) hx hb dX8_days_27 (by decide) (fun c_27 => ?_) (fun c_27 => ?_)
    · exact absurd c_27 (by decide)
    · refine lv_iconst (v := 0) hx hb dX8_days_30 (by decide) ?_
      refine lv_goto (tgt := 40) hx hb dX8_days_31 (by decide) ?_
      refine W.widen (k := 0) (n := 0) (Nat.le_of_ble_eq_true rfl) (Nat.le_of_ble_eq_true rfl) ?_
      exact W.iret (v := 0) hx hb hr (fun t ht hW => ⟨⟨0, wl Ls ad G_20, rfl, (by first | exact Or.inl ⟨fun h => absurd h.1 (wI_eq0.mp (by rw [← hr_2]; exact c_5)), _, rfl, hMc, hfrc⟩ | exact Or.inl ⟨fun h => absurd h.2 (wI_eq0.mp (by rw [← hr_9]; exact c_12)), _, rfl, hMc, hfrc⟩), by rw [ht]; exact hP, hD⟩, hS.F ht⟩) hS.2.2 dX8_days_40
  · refine lv_iload_n hx hb dX8_days_8 rfl (lv_at hl 2 rfl) ?_
    refine vp_callSi (va_Run.run (va_runS (As := [.int mo0]) (rest := [.ref (ad 100)]) ⟨hx, hb, hml, hown, hts⟩ (c_X8_isMonth l mo0) (va_cwS 1 hts gX8_days_X8_isMonth rfl rfl rfl (by decide +kernel) ⟨Nat.le_of_ble_eq_true rfl, Nat.le_of_ble_eq_true rfl⟩) ⟨fun _ _ _ _ q => q, fun U hU hW => ⟨rfl, trivial⟩⟩ rfl rfl hl.1 rfl (lv_room (Nat.le_of_ble_eq_true rfl)) dX8_days_9 ⟨(Nat.le_of_ble_eq_true rfl), (Nat.le_of_ble_eq_true rfl)⟩)) (fun r_9 hr_9 => ?_)
    refine lv_if_eq (tgt := 19) hx hb dX8_days_12 (by decide) (fun c_12 => ?_) (fun c_12 => ?_)
    · refine lv_iconst (v := 1) hx hb dX8_days_19 (by decide) ?_
      refine pv_put (ci := 10) (v := .int 1) (ty := .int) (C := RX8) (T := TX8) (N := 34) hx hb hts hinX8 tyX8 tyX8_ok nmX8 hown hK hP hD hS hM.1 eM rfl 0 (by decide) (hts (.fieldLink RX8 86 "StorageChargeModel" "code" "I") (by decide +kernel)) (fun _ h9 => h9) rfl (by decide +kernel) rfl rfl (Nat.le_of_ble_eq_true rfl) dX8_days_20 (fun H locs hP hD hS => ?_)
      obtain ⟨G_20, eG_20⟩ : ∃ gg9 : Nat → va_E, gg9 = va_up G 100 (.inr (10, [.int 1, .int (F 1), .ref (ad 103), .int (F 3), .ref (ad 105), .ref (ad 106), .ref (ad 107), .ref (ad 108), .int (F 8), .ref (ad 110), .ref (ad 111), .ref (ad 112), .ref (ad 113), .int (F 13), .int (F 14), .ref (ad 116), .ref (ad 117), .ref (ad 118), .ref (ad 119), .ref (ad 120), .ref (ad 121), .int (F 21), .ref (ad 123), .ref (ad 124), .ref (ad 125), .ref (ad 126), .int (F 26), .ref (ad 128), .ref (ad 129), .ref (ad 130), .ref (ad 131), .ref (ad 132), .int (F 32), .ref (ad 134)])) := ⟨_, rfl⟩
      have hP : va_P D vwCl (wl Ls ad G_20) H := by rw [eG_20]; exact hP
      have hD : va_D (fun q => b0 ≤ q) (wl Ls ad G_20) := by rw [eG_20]; exact hD
      have eM : G_20 100 = .inr (10, [.int 1, .int (F 1), .ref (ad 103), .int (F 3), .ref (ad 105), .ref (ad 106), .ref (ad 107), .ref (ad 108), .int (F 8), .ref (ad 110), .ref (ad 111), .ref (ad 112), .ref (ad 113), .int (F 13), .int (F 14), .ref (ad 116), .ref (ad 117), .ref (ad 118), .ref (ad 119), .ref (ad 120), .ref (ad 121), .int (F 21), .ref (ad 123), .ref (ad 124), .ref (ad 125), .ref (ad 126), .int (F 26), .ref (ad 128), .ref (ad 129), .ref (ad 130), .ref (ad 131), .ref (ad 132), .int (F 32), .ref (ad 134)]) := by rw [eG_20]; exact va_up_self _ _ _
      have hMc : ModelAt y Ls ad G_20 (va_up F 0 1) A := (ModelAt_w hM (eM) (fun k hk => Or.inl ⟨by rw [eG_20, va_up_ne _ _ (by omega)], rfl⟩))
      have hfrc : ∀ j, (j < 100 ∨ 134 < j) → G_20 j = G j := (fun j h9 => by rw [eG_20, va_up_ne _ _ (by omega)])
      refine lv_aload_n hx hb dX8_days_23 rfl (lv_at hl 0 rfl) ?_
      refine pv_get (ci := 10) (C := RX8) (T := TX8) (N := 34) hx hb hts hinX8 hown hK hP hM.1 eM rfl 0 (by decide) (hts (.fieldLink RX8 86 "StorageChargeModel" "code" "I") (by decide +kernel)) (fun _ h9 => h9) rfl dX8_days_24 ?_
      refine lv_if_le (tgt := 34) hx hb dX8_days_27 (by decide) (fun c_27 => ?_) (fun c_27 => ?_)
      · exact absurd c_27 (by decide)
      · refine lv_iconst (v := 0) hx hb dX8_days_30 (by decide) ?_
        refine lv_goto (tgt := 40) hx hb dX8_days_31 (by decide) ?_
        refine W.widen (k := 0) (n := 0) (Nat.le_of_ble_eq_true rfl) (Nat.le_of_ble_eq_true rfl) ?_
        exact W.iret (v := 0) hx hb hr (fun t ht hW => ⟨⟨0, wl Ls ad G_20, rfl, (by first | exact Or.inl ⟨fun h => absurd h.1 (wI_eq0.mp (by rw [← hr_2]; exact c_5)), _, rfl, hMc, hfrc⟩ | exact Or.inl ⟨fun h => absurd h.2 (wI_eq0.mp (by rw [← hr_9]; exact c_12)), _, rfl, hMc, hfrc⟩), by rw [ht]; exact hP, hD⟩, hS.F ht⟩) hS.2.2 dX8_days_40
    · have hqm0 : 0 ≤ mo0 ∧ mo0 ≤ 119 := (Decidable.byContradiction fun h => c_12 (by rw [hr_9]; exact wI_eq0.mpr h))
      obtain ⟨m0, hm0, rfl⟩ := within_nI (n := 120) (by decide) (by decide) hqm0
      refine lv_iconst (v := 0) hx hb dX8_days_15 (by decide) ?_
      refine lv_goto (tgt := 20) hx hb dX8_days_16 (by decide) ?_
      refine pv_put (ci := 10) (v := .int 0) (ty := .int) (C := RX8) (T := TX8) (N := 34) hx hb hts hinX8 tyX8 tyX8_ok nmX8 hown hK hP hD hS hM.1 eM rfl 0 (by decide) (hts (.fieldLink RX8 86 "StorageChargeModel" "code" "I") (by decide +kernel)) (fun _ h9 => h9) rfl (by decide +kernel) rfl rfl (Nat.le_of_ble_eq_true rfl) dX8_days_20 (fun H locs hP hD hS => ?_)
      obtain ⟨G_20, eG_20⟩ : ∃ gg9 : Nat → va_E, gg9 = va_up G 100 (.inr (10, [.int 0, .int (F 1), .ref (ad 103), .int (F 3), .ref (ad 105), .ref (ad 106), .ref (ad 107), .ref (ad 108), .int (F 8), .ref (ad 110), .ref (ad 111), .ref (ad 112), .ref (ad 113), .int (F 13), .int (F 14), .ref (ad 116), .ref (ad 117), .ref (ad 118), .ref (ad 119), .ref (ad 120), .ref (ad 121), .int (F 21), .ref (ad 123), .ref (ad 124), .ref (ad 125), .ref (ad 126), .int (F 26), .ref (ad 128), .ref (ad 129), .ref (ad 130), .ref (ad 131), .ref (ad 132), .int (F 32), .ref (ad 134)])) := ⟨_, rfl⟩
      have hP : va_P D vwCl (wl Ls ad G_20) H := by rw [eG_20]; exact hP
      have hD : va_D (fun q => b0 ≤ q) (wl Ls ad G_20) := by rw [eG_20]; exact hD
      have eM : G_20 100 = .inr (10, [.int 0, .int (F 1), .ref (ad 103), .int (F 3), .ref (ad 105), .ref (ad 106), .ref (ad 107), .ref (ad 108), .int (F 8), .ref (ad 110), .ref (ad 111), .ref (ad 112), .ref (ad 113), .int (F 13), .int (F 14), .ref (ad 116), .ref (ad 117), .ref (ad 118), .ref (ad 119), .ref (ad 120), .ref (ad 121), .int (F 21), .ref (ad 123), .ref (ad 124), .ref (ad 125), .ref (ad 126), .int (F 26), .ref (ad 128), .ref (ad 129), .ref (ad 130), .ref (ad 131), .ref (ad 132), .int (F 32), .ref (ad 134)]) := by rw [eG_20]; exact va_up_self _ _ _
      have hMc : ModelAt y Ls ad G_20 (va_up F 0 0) A := (ModelAt_w hM (eM) (fun k hk => Or.inl ⟨by rw [eG_20, va_up_ne _ _ (by omega)], rfl⟩))
      have hfrc : ∀ j, (j < 100 ∨ 134 < j) → G_20 j = G j := (fun j h9 => by rw [eG_20, va_up_ne _ _ (by omega)])
      refine lv_aload_n hx hb dX8_days_23 rfl (lv_at hl 0 rfl) ?_
      refine pv_get (ci := 10) (C := RX8) (T := TX8) (N := 34) hx hb hts hinX8 hown hK hP hM.1 eM rfl 0 (by decide) (hts (.fieldLink RX8 86 "StorageChargeModel" "code" "I") (by decide +kernel)) (fun _ h9 => h9) rfl dX8_days_24 ?_
      refine lv_if_le (tgt := 34) hx hb dX8_days_27 (by decide) (fun c_27 => ?_) (fun c_27 => ?_)
      · refine lv_aload_n hx hb dX8_days_34 rfl (lv_at hl 0 rfl) ?_
        refine lv_iload_n hx hb dX8_days_35 rfl (lv_at hl 1 rfl) ?_
        refine lv_iload_n hx hb dX8_days_36 rfl (lv_at hl 2 rfl) ?_
        refine vp_callSi (va_Run.run (va_runV (As := [.int o, .int (nI m0)]) (rest := []) ⟨hx, hb, hml, hown, hts⟩ (c_X8_unitDays l D y Ls ad G_20 (va_up F 0 0) A hMc nu ((va_up_ne _ _ (by decide)).trans h14) hnu o m0 hm0) (cwV 2 hts gX8_days_X8_unitDays rfl rfl rfl (by decide +kernel) ⟨Nat.le_of_ble_eq_true rfl, Nat.le_of_ble_eq_true rfl⟩) ⟨Wd_blind, Wd_recv hK hP (ci := 10) rfl hM.1 eM, Wd_at hP hK hN⟩ rfl rfl hl.1 rfl (lv_room (Nat.le_of_ble_eq_true rfl)) dX8_days_37 ⟨(Nat.le_of_ble_eq_true rfl), (Nat.le_of_ble_eq_true rfl)⟩)) (fun r_37 hr_37 => ?_)
        refine W.widen (k := 0) (n := 0) (Nat.le_of_ble_eq_true rfl) (Nat.le_of_ble_eq_true rfl) ?_
        exact W.iret (v := r_37) hx hb hr (fun t ht hW => ⟨⟨r_37, wl Ls ad G_20, rfl, Or.inr ⟨(Decidable.byContradiction fun h => c_5 (by rw [hr_2]; exact wI_eq0.mpr h)), m0, hm0, rfl, hr_37, _, rfl, hMc, hfrc⟩, by rw [ht]; exact hP, hD⟩, hS.F ht⟩) hS.2.2 dX8_days_40
      · exact absurd (by decide) c_27

set_option maxHeartbeats 4000000 in
set_option maxRecDepth 100000 in
/-- average -/
theorem c_X8_average (l : Launch) (hl0 : l.stackTraces = false) (D : va_G) (y : Nat → ClassId) (b0 : Nat) (Ls : List Nat) (ad : Nat → Nat) (G : Nat → va_E) (F : Nat → Int32) (A : Nat → Nat → Int32) (hM : ModelAt y Ls ad G F A) (nu : Nat) (h14 : F 14 = nI nu) (nl : Nat) (h3 : F 3 = nI nl) (hnu : nu ≤ 24) (hnl : nl ≤ 60) (tn : Nat → Nat) (htn : ∀ u, u < nu → A 18 u = nI (tn u) ∧ tn u ≤ 9) (o mo0 : Int32) : Met l yX8_average wsX8_average ({ frames := 3, cells := 0, slots := 0, locals := 75 }) (va_Pc [.ref (ad 100), .int o, .int mo0] (WdM D y b0 (wl Ls ad G))) (va_Qi (fun (r : Int32) (u : va_W) => (¬ (inR o 7 ∧ inR mo0 119) ∧ ∃ G2, u = wl Ls ad G2 ∧ ModelAt y Ls ad G2 (va_up F 0 1) A ∧ (∀ j, (j < 100 ∨ 134 < j) → G2 j = G j)) ∨ (inR o 7 ∧ ∃ m0, m0 < 120 ∧ mo0 = nI m0 ∧ mDay (A 15) (A 16) (A 17) o m0 nu = 0 ∧ ∃ G2, u = wl Ls ad G2 ∧ ModelAt y Ls ad G2 (va_up F 0 2) A ∧ (∀ j, (j < 100 ∨ 134 < j) → G2 j = G j)) ∨ (inR o 7 ∧ ∃ m0, m0 < 120 ∧ mo0 = nI m0 ∧ ¬ mDay (A 15) (A 16) (A 17) o m0 nu = 0 ∧ r = mStF (A 4) (A 5) (A 6) (A 7) nl (A 15) (A 16) (A 17) tn (A 19) (A 20) o o m0 nu / mDay (A 15) (A 16) (A 17) o m0 nu ∧ ∃ G2, u = wl Ls ad G2 ∧ ModelAt y Ls ad G2 (va_up F 0 0) A ∧ (∀ j, (j < 100 ∨ 134 < j) → G2 j = G j))) (WB D b0) (fun q => b0 ≤ q)) 0 0 (fun q => b0 ≤ q) := by
  refine Met.ofW (cc := cX8_average) (maxL := 3) (ret := (some .int)) (by decide) rfl ?_
  intro p e s m args below meth c s₁ B hml hv
  obtain ⟨rfl, ⟨hP, hK, hN⟩, hD, hb0, hT⟩ := hv
  have hx := B.exec
  have hb := B.bytes
  have hr := B.returns
  have hts := atoms_spec (ws := wsX8_average) B.pre
  have hown : s.vm.findClass RX8 = some m.cls := findClass_of_methodNamed B.named
  have hlocks := B.notSynchronized
  have hS : va_S (fun q => b0 ≤ q) s.heap s.heap [] := va_S.rf
  have hinX8 : ∀ w ∈ wsX80, w ∈ wsX8_average := by decide +kernel
  have eM : G 100 = .inr (10, [.int (F 0), .int (F 1), .ref (ad 103), .int (F 3), .ref (ad 105), .ref (ad 106), .ref (ad 107), .ref (ad 108), .int (F 8), .ref (ad 110), .ref (ad 111), .ref (ad 112), .ref (ad 113), .int (F 13), .int (F 14), .ref (ad 116), .ref (ad 117), .ref (ad 118), .ref (ad 119), .ref (ad 120), .ref (ad 121), .int (F 21), .ref (ad 123), .ref (ad 124), .ref (ad 125), .ref (ad 126), .int (F 26), .ref (ad 128), .ref (ad 129), .ref (ad 130), .ref (ad 131), .ref (ad 132), .int (F 32), .ref (ad 134)]) := hM.2.1
  have hl := lv_entry ([.ref (ad 100), .int o, .int mo0]) (n := 3) (Nat.le_of_ble_eq_true rfl)
  rw [lg_entry_eq]
  generalize (lg_sl ([.ref (ad 100), .int o, .int mo0]) ++ List.replicate (3 - (lg_sl ([.ref (ad 100), .int o, .int mo0])).length) Slot.unset).toArray = ls at hl ⊢
  have hl : lv_has ls 3 [(0, .ref (ad 100)), (1, .int o), (2, .int mo0)] := hl
  refine lv_aload_n hx hb dX8_average_0 rfl (lv_at hl 0 rfl) ?_
  refine lv_iload_n hx hb dX8_average_1 rfl (lv_at hl 1 rfl) ?_
  refine vp_callSi (va_Run.run (va_runS (As := [.int o]) (rest := [.ref (ad 100)]) ⟨hx, hb, hml, hown, hts⟩ (c_X8_isOwner l o) (va_cwS 1 hts gX8_average_X8_isOwner rfl rfl rfl (by decide +kernel) ⟨Nat.le_of_ble_eq_true rfl, Nat.le_of_ble_eq_true rfl⟩) ⟨fun _ _ _ _ q => q, fun U hU hW => ⟨rfl, trivial⟩⟩ rfl rfl hl.1 rfl (lv_room (Nat.le_of_ble_eq_true rfl)) dX8_average_2 ⟨(Nat.le_of_ble_eq_true rfl), (Nat.le_of_ble_eq_true rfl)⟩)) (fun r_2 hr_2 => ?_)
  refine lv_if_eq (tgt := 15) hx hb dX8_average_5 (by decide) (fun c_5 => ?_) (fun c_5 => ?_)
  · refine lv_iconst (v := 1) hx hb dX8_average_15 (by decide) ?_
    refine lv_goto (tgt := 33) hx hb dX8_average_16 (by decide) ?_
    refine pv_put (ci := 10) (v := .int 1) (ty := .int) (C := RX8) (T := TX8) (N := 34) hx hb hts hinX8 tyX8 tyX8_ok nmX8 hown hK hP hD hS hM.1 eM rfl 0 (by decide) (hts (.fieldLink RX8 86 "StorageChargeModel" "code" "I") (by decide +kernel)) (fun _ h9 => h9) rfl (by decide +kernel) rfl rfl (Nat.le_of_ble_eq_true rfl) dX8_average_33 (fun H locs hP hD hS => ?_)
    obtain ⟨G_33, eG_33⟩ : ∃ gg9 : Nat → va_E, gg9 = va_up G 100 (.inr (10, [.int 1, .int (F 1), .ref (ad 103), .int (F 3), .ref (ad 105), .ref (ad 106), .ref (ad 107), .ref (ad 108), .int (F 8), .ref (ad 110), .ref (ad 111), .ref (ad 112), .ref (ad 113), .int (F 13), .int (F 14), .ref (ad 116), .ref (ad 117), .ref (ad 118), .ref (ad 119), .ref (ad 120), .ref (ad 121), .int (F 21), .ref (ad 123), .ref (ad 124), .ref (ad 125), .ref (ad 126), .int (F 26), .ref (ad 128), .ref (ad 129), .ref (ad 130), .ref (ad 131), .ref (ad 132), .int (F 32), .ref (ad 134)])) := ⟨_, rfl⟩
    have hP : va_P D vwCl (wl Ls ad G_33) H := by rw [eG_33]; exact hP
    have hD : va_D (fun q => b0 ≤ q) (wl Ls ad G_33) := by rw [eG_33]; exact hD
    have eM : G_33 100 = .inr (10, [.int 1, .int (F 1), .ref (ad 103), .int (F 3), .ref (ad 105), .ref (ad 106), .ref (ad 107), .ref (ad 108), .int (F 8), .ref (ad 110), .ref (ad 111), .ref (ad 112), .ref (ad 113), .int (F 13), .int (F 14), .ref (ad 116), .ref (ad 117), .ref (ad 118), .ref (ad 119), .ref (ad 120), .ref (ad 121), .int (F 21), .ref (ad 123), .ref (ad 124), .ref (ad 125), .ref (ad 126), .int (F 26), .ref (ad 128), .ref (ad 129), .ref (ad 130), .ref (ad 131), .ref (ad 132), .int (F 32), .ref (ad 134)]) := by rw [eG_33]; exact va_up_self _ _ _
    have hMc : ModelAt y Ls ad G_33 (va_up F 0 1) A := (ModelAt_w hM (eM) (fun k hk => Or.inl ⟨by rw [eG_33, va_up_ne _ _ (by omega)], rfl⟩))
    have hfrc : ∀ j, (j < 100 ∨ 134 < j) → G_33 j = G j := (fun j h9 => by rw [eG_33, va_up_ne _ _ (by omega)])
    refine lv_aload_n hx hb dX8_average_36 rfl (lv_at hl 0 rfl) ?_
    refine pv_get (ci := 10) (C := RX8) (T := TX8) (N := 34) hx hb hts hinX8 hown hK hP hM.1 eM rfl 0 (by decide) (hts (.fieldLink RX8 86 "StorageChargeModel" "code" "I") (by decide +kernel)) (fun _ h9 => h9) rfl dX8_average_37 ?_
    refine lv_if_le (tgt := 47) hx hb dX8_average_40 (by decide) (fun c_40 => ?_) (fun c_40 => ?_)
    · exact absurd c_40 (by decide)
    · refine lv_iconst (v := 0) hx hb dX8_average_43 (by decide) ?_
      refine lv_goto (tgt := 61) hx hb dX8_average_44 (by decide) ?_
      refine W.widen (k := 0) (n := 0) (Nat.le_of_ble_eq_true rfl) (Nat.le_of_ble_eq_true rfl) ?_
      exact W.iret (v := 0) hx hb hr (fun t ht hW => ⟨⟨0, wl Ls ad G_33, rfl, (by first | exact Or.inl ⟨fun h => absurd h.1 (wI_eq0.mp (by rw [← hr_2]; exact c_5)), _, rfl, hMc, hfrc⟩ | exact Or.inl ⟨fun h => absurd h.2 (wI_eq0.mp (by rw [← hr_9]; exact c_12)), _, rfl, hMc, hfrc⟩), by rw [ht]; exact hP, hD⟩, hS.F ht⟩) hS.2.2 dX8_average_61
  · refine lv_iload_n hx hb dX8_average_8 rfl (lv_at hl 2 rfl) ?_
    refine vp_callSi (va_Run.run (va_runS (As := [.int mo0]) (rest := [.ref (ad 100)]) ⟨hx, hb, hml, hown, hts⟩ (c_X8_isMonth l mo0) (va_cwS 1 hts gX8_average_X8_isMonth rfl rfl rfl (by decide +kernel) ⟨Nat.le_of_ble_eq_true rfl, Nat.le_of_ble_eq_true rfl⟩) ⟨fun _ _ _ _ q => q, fun U hU hW => ⟨rfl, trivial⟩⟩ rfl rfl hl.1 rfl (lv_room (Nat.le_of_ble_eq_true rfl)) dX8_average_9 ⟨(Nat.le_of_ble_eq_true rfl), (Nat.le_of_ble_eq_true rfl)⟩)) (fun r_9 hr_9 => ?_)
    refine lv_if_ne (tgt := 19) hx hb dX8_average_12 (by decide) (fun c_12 => ?_) (fun c_12 => ?_)
    · have hqm0 : 0 ≤ mo0 ∧ mo0 ≤ 119 := (Decidable.byContradiction fun h => c_12 (by rw [hr_9]; exact wI_eq0.mpr h))
      obtain ⟨m0, hm0, rfl⟩ := within_nI (n := 120) (by decide) (by decide) hqm0
      refine lv_aload_n hx hb dX8_average_19 rfl (lv_at hl 0 rfl) ?_
      refine lv_iload_n hx hb dX8_average_20 rfl (lv_at hl 1 rfl) ?_
      refine lv_iload_n hx hb dX8_average_21 rfl (lv_at hl 2 rfl) ?_
      refine vp_callSi (va_Run.run (va_runV (As := [.int o, .int (nI m0)]) (rest := [.ref (ad 100)]) ⟨hx, hb, hml, hown, hts⟩ (c_X8_unitDays l D y Ls ad G F A hM nu h14 hnu o m0 hm0) (cwV 2 hts gX8_average_X8_unitDays rfl rfl rfl (by decide +kernel) ⟨Nat.le_of_ble_eq_true rfl, Nat.le_of_ble_eq_true rfl⟩) ⟨Wd_blind, Wd_recv hK hP (ci := 10) rfl hM.1 eM, Wd_at hP hK hN⟩ rfl rfl hl.1 rfl (lv_room (Nat.le_of_ble_eq_true rfl)) dX8_average_22 ⟨(Nat.le_of_ble_eq_true rfl), (Nat.le_of_ble_eq_true rfl)⟩)) (fun r_22 hr_22 => ?_)
      refine lv_if_ne (tgt := 32) hx hb dX8_average_25 (by decide) (fun c_25 => ?_) (fun c_25 => ?_)
      · refine lv_iconst (v := 0) hx hb dX8_average_32 (by decide) ?_
        refine pv_put (ci := 10) (v := .int 0) (ty := .int) (C := RX8) (T := TX8) (N := 34) hx hb hts hinX8 tyX8 tyX8_ok nmX8 hown hK hP hD hS hM.1 eM rfl 0 (by decide) (hts (.fieldLink RX8 86 "StorageChargeModel" "code" "I") (by decide +kernel)) (fun _ h9 => h9) rfl (by decide +kernel) rfl rfl (Nat.le_of_ble_eq_true rfl) dX8_average_33 (fun H locs hP hD hS => ?_)
        obtain ⟨G_33, eG_33⟩ : ∃ gg9 : Nat → va_E, gg9 = va_up G 100 (.inr (10, [.int 0, .int (F 1), .ref (ad 103), .int (F 3), .ref (ad 105), .ref (ad 106), .ref (ad 107), .ref (ad 108), .int (F 8), .ref (ad 110), .ref (ad 111), .ref (ad 112), .ref (ad 113), .int (F 13), .int (F 14), .ref (ad 116), .ref (ad 117), .ref (ad 118), .ref (ad 119), .ref (ad 120), .ref (ad 121), .int (F 21), .ref (ad 123), .ref (ad 124), .ref (ad 125), .ref (ad 126), .int (F 26), .ref (ad 128), .ref (ad 129), .ref (ad 130), .ref (ad 131), .ref (ad 132), .int (F 32), .ref (ad 134)])) := ⟨_, rfl⟩
        have hP : va_P D vwCl (wl Ls ad G_33) H := by rw [eG_33]; exact hP
        have hD : va_D (fun q => b0 ≤ q) (wl Ls ad G_33) := by rw [eG_33]; exact hD
        have eM : G_33 100 = .inr (10, [.int 0, .int (F 1), .ref (ad 103), .int (F 3), .ref (ad 105), .ref (ad 106), .ref (ad 107), .ref (ad 108), .int (F 8), .ref (ad 110), .ref (ad 111), .ref (ad 112), .ref (ad 113), .int (F 13), .int (F 14), .ref (ad 116), .ref (ad 117), .ref (ad 118), .ref (ad 119), .ref (ad 120), .ref (ad 121), .int (F 21), .ref (ad 123), .ref (ad 124), .ref (ad 125), .ref (ad 126), .int (F 26), .ref (ad 128), .ref (ad 129), .ref (ad 130), .ref (ad 131), .ref (ad 132), .int (F 32), .ref (ad 134)]) := by rw [eG_33]; exact va_up_self _ _ _
        have hMc : ModelAt y Ls ad G_33 (va_up F 0 0) A := (ModelAt_w hM (eM) (fun k hk => Or.inl ⟨by rw [eG_33, va_up_ne _ _ (by omega)], rfl⟩))
        have hfrc : ∀ j, (j < 100 ∨ 134 < j) → G_33 j = G j := (fun j h9 => by rw [eG_33, va_up_ne _ _ (by omega)])
        refine lv_aload_n hx hb dX8_average_36 rfl (lv_at hl 0 rfl) ?_
        refine pv_get (ci := 10) (C := RX8) (T := TX8) (N := 34) hx hb hts hinX8 hown hK hP hM.1 eM rfl 0 (by decide) (hts (.fieldLink RX8 86 "StorageChargeModel" "code" "I") (by decide +kernel)) (fun _ h9 => h9) rfl dX8_average_37 ?_
        refine lv_if_le (tgt := 47) hx hb dX8_average_40 (by decide) (fun c_40 => ?_) (fun c_40 => ?_)
        · refine lv_aload_n hx hb dX8_average_47 rfl (lv_at hl 0 rfl) ?_
          refine lv_iload_n hx hb dX8_average_48 rfl (lv_at hl 1 rfl) ?_
          refine lv_iload_n hx hb dX8_average_49 rfl (lv_at hl 1 rfl) ?_
          refine lv_iload_n hx hb dX8_average_50 rfl (lv_at hl 2 rfl) ?_
          refine vp_callSi (va_Run.run (va_runV (As := [.int o, .int o, .int (nI m0)]) (rest := []) ⟨hx, hb, hml, hown, hts⟩ (c_X8_storage l D y Ls ad G_33 (va_up F 0 0) A hMc nu ((va_up_ne _ _ (by decide)).trans h14) nl ((va_up_ne _ _ (by decide)).trans h3) hnu hnl tn htn o o m0 hm0) (cwV 3 hts gX8_average_X8_storage rfl rfl rfl (by decide +kernel) ⟨Nat.le_of_ble_eq_true rfl, Nat.le_of_ble_eq_true rfl⟩) ⟨Wd_blind, Wd_recv hK hP (ci := 10) rfl hM.1 eM, Wd_at hP hK hN⟩ rfl rfl hl.1 rfl (lv_room (Nat.le_of_ble_eq_true rfl)) dX8_average_51 ⟨(Nat.le_of_ble_eq_true rfl), (Nat.le_of_ble_eq_true rfl)⟩)) (fun r_51 hr_51 => ?_)
          refine lv_aload_n hx hb dX8_average_54 rfl (lv_at hl 0 rfl) ?_
          refine lv_iload_n hx hb dX8_average_55 rfl (lv_at hl 1 rfl) ?_
          refine lv_iload_n hx hb dX8_average_56 rfl (lv_at hl 2 rfl) ?_
          refine vp_callSi (va_Run.run (va_runV (As := [.int o, .int (nI m0)]) (rest := [.int r_51]) ⟨hx, hb, hml, hown, hts⟩ (c_X8_unitDays l D y Ls ad G_33 (va_up F 0 0) A hMc nu ((va_up_ne _ _ (by decide)).trans h14) hnu o m0 hm0) (cwV 2 hts gX8_average_X8_unitDays rfl rfl rfl (by decide +kernel) ⟨Nat.le_of_ble_eq_true rfl, Nat.le_of_ble_eq_true rfl⟩) ⟨Wd_blind, Wd_recv hK hP (ci := 10) rfl hM.1 eM, Wd_at hP hK hN⟩ rfl rfl hl.1 rfl (lv_room (Nat.le_of_ble_eq_true rfl)) dX8_average_57 ⟨(Nat.le_of_ble_eq_true rfl), (Nat.le_of_ble_eq_true rfl)⟩)) (fun r_57 hr_57 => ?_)
          refine lv_idiv hx hb dX8_average_60 (by rw [hr_57, ← hr_22]; exact c_25) ?_
          refine W.widen (k := 0) (n := 0) (Nat.le_of_ble_eq_true rfl) (Nat.le_of_ble_eq_true rfl) ?_
          exact W.iret (v := (r_51 / r_57)) hx hb hr (fun t ht hW => ⟨⟨(r_51 / r_57), wl Ls ad G_33, rfl, Or.inr (Or.inr ⟨(Decidable.byContradiction fun h => c_5 (by rw [hr_2]; exact wI_eq0.mpr h)), m0, hm0, rfl, by rw [← hr_22]; exact c_25, by rw [hr_51, hr_57], _, rfl, hMc, hfrc⟩), by rw [ht]; exact hP, hD⟩, hS.F ht⟩) hS.2.2 dX8_average_61
        · exact absurd (by decide) c_40
      · refine lv_iconst (v := 2) hx hb dX8_average_28 (by decide) ?_
        refine lv_goto (tgt := 33) hx hb dX8_average_29 (by decide) ?_
        refine pv_put (ci := 10) (v := .int 2) (ty := .int) (C := RX8) (T := TX8) (N := 34) hx hb hts hinX8 tyX8 tyX8_ok nmX8 hown hK hP hD hS hM.1 eM rfl 0 (by decide) (hts (.fieldLink RX8 86 "StorageChargeModel" "code" "I") (by decide +kernel)) (fun _ h9 => h9) rfl (by decide +kernel) rfl rfl (Nat.le_of_ble_eq_true rfl) dX8_average_33 (fun H locs hP hD hS => ?_)
        obtain ⟨G_33, eG_33⟩ : ∃ gg9 : Nat → va_E, gg9 = va_up G 100 (.inr (10, [.int 2, .int (F 1), .ref (ad 103), .int (F 3), .ref (ad 105), .ref (ad 106), .ref (ad 107), .ref (ad 108), .int (F 8), .ref (ad 110), .ref (ad 111), .ref (ad 112), .ref (ad 113), .int (F 13), .int (F 14), .ref (ad 116), .ref (ad 117), .ref (ad 118), .ref (ad 119), .ref (ad 120), .ref (ad 121), .int (F 21), .ref (ad 123), .ref (ad 124), .ref (ad 125), .ref (ad 126), .int (F 26), .ref (ad 128), .ref (ad 129), .ref (ad 130), .ref (ad 131), .ref (ad 132), .int (F 32), .ref (ad 134)])) := ⟨_, rfl⟩
        have hP : va_P D vwCl (wl Ls ad G_33) H := by rw [eG_33]; exact hP
        have hD : va_D (fun q => b0 ≤ q) (wl Ls ad G_33) := by rw [eG_33]; exact hD
        have eM : G_33 100 = .inr (10, [.int 2, .int (F 1), .ref (ad 103), .int (F 3), .ref (ad 105), .ref (ad 106), .ref (ad 107), .ref (ad 108), .int (F 8), .ref (ad 110), .ref (ad 111), .ref (ad 112), .ref (ad 113), .int (F 13), .int (F 14), .ref (ad 116), .ref (ad 117), .ref (ad 118), .ref (ad 119), .ref (ad 120), .ref (ad 121), .int (F 21), .ref (ad 123), .ref (ad 124), .ref (ad 125), .ref (ad 126), .int (F 26), .ref (ad 128), .ref (ad 129), .ref (ad 130), .ref (ad 131), .ref (ad 132), .int (F 32), .ref (ad 134)]) := by rw [eG_33]; exact va_up_self _ _ _
        have hMc : ModelAt y Ls ad G_33 (va_up F 0 2) A := (ModelAt_w hM (eM) (fun k hk => Or.inl ⟨by rw [eG_33, va_up_ne _ _ (by omega)], rfl⟩))
        have hfrc : ∀ j, (j < 100 ∨ 134 < j) → G_33 j = G j := (fun j h9 => by rw [eG_33, va_up_ne _ _ (by omega)])
        refine lv_aload_n hx hb dX8_average_36 rfl (lv_at hl 0 rfl) ?_
        refine pv_get (ci := 10) (C := RX8) (T := TX8) (N := 34) hx hb hts hinX8 hown hK hP hM.1 eM rfl 0 (by decide) (hts (.fieldLink RX8 86 "StorageChargeModel" "code" "I") (by decide +kernel)) (fun _ h9 => h9) rfl dX8_average_37 ?_
        refine lv_if_le (tgt := 47) hx hb dX8_average_40 (by decide) (fun c_40 => ?_) (fun c_40 => ?_)
        · exact absurd c_40 (by decide)
        · refine lv_iconst (v := 0) hx hb dX8_average_43 (by decide) ?_
          refine lv_goto (tgt := 61) hx hb dX8_average_44 (by decide) ?_
          refine W.widen (k := 0) (n := 0) (Nat.le_of_ble_eq_true rfl) (Nat.le_of_ble_eq_true rfl) ?_
          exact W.iret (v := 0) hx hb hr (fun t ht hW => ⟨⟨0, wl Ls ad G_33, rfl, Or.inr (Or.inl ⟨(Decidable.byContradiction fun h => c_5 (by rw [hr_2]; exact wI_eq0.mpr h)), m0, hm0, rfl, by rw [← hr_22]; exact c_25, _, rfl, hMc, hfrc⟩), by rw [ht]; exact hP, hD⟩, hS.F ht⟩) hS.2.2 dX8_average_61
    · refine lv_iconst (v := 1) hx hb dX8_average_15 (by decide) ?_
      refine lv_goto (tgt := 33) hx hb dX8_average_16 (by decide) ?_
      refine pv_put (ci := 10) (v := .int 1) (ty := .int) (C := RX8) (T := TX8) (N := 34) hx hb hts hinX8 tyX8 tyX8_ok nmX8 hown hK hP hD hS hM.1 eM rfl 0 (by decide) (hts (.fieldLink RX8 86 "StorageChargeModel" "code" "I") (by decide +kernel)) (fun _ h9 => h9) rfl (by decide +kernel) rfl rfl (Nat.le_of_ble_eq_true rfl) dX8_average_33 (fun H locs hP hD hS => ?_)
      obtain ⟨G_33, eG_33⟩ : ∃ gg9 : Nat → va_E, gg9 = va_up G 100 (.inr (10, [.int 1, .int (F 1), .ref (ad 103), .int (F 3), .ref (ad 105), .ref (ad 106), .ref (ad 107), .ref (ad 108), .int (F 8), .ref (ad 110), .ref (ad 111), .ref (ad 112), .ref (ad 113), .int (F 13), .int (F 14), .ref (ad 116), .ref (ad 117), .ref (ad 118), .ref (ad 119), .ref (ad 120), .ref (ad 121), .int (F 21), .ref (ad 123), .ref (ad 124), .ref (ad 125), .ref (ad 126), .int (F 26), .ref (ad 128), .ref (ad 129), .ref (ad 130), .ref (ad 131), .ref (ad 132), .int (F 32), .ref (ad 134)])) := ⟨_, rfl⟩
      have hP : va_P D vwCl (wl Ls ad G_33) H := by rw [eG_33]; exact hP
      have hD : va_D (fun q => b0 ≤ q) (wl Ls ad G_33) := by rw [eG_33]; exact hD
      have eM : G_33 100 = .inr (10, [.int 1, .int (F 1), .ref (ad 103), .int (F 3), .ref (ad 105), .ref (ad 106), .ref (ad 107), .ref (ad 108), .int (F 8), .ref (ad 110), .ref (ad 111), .ref (ad 112), .ref (ad 113), .int (F 13), .int (F 14), .ref (ad 116), .ref (ad 117), .ref (ad 118), .ref (ad 119), .ref (ad 120), .ref (ad 121), .int (F 21), .ref (ad 123), .ref (ad 124), .ref (ad 125), .ref (ad 126), .int (F 26), .ref (ad 128), .ref (ad 129), .ref (ad 130), .ref (ad 131), .ref (ad 132), .int (F 32), .ref (ad 134)]) := by rw [eG_33]; exact va_up_self _ _ _
      have hMc : ModelAt y Ls ad G_33 (va_up F 0 1) A := (ModelAt_w hM (eM) (fun k hk => Or.inl ⟨by rw [eG_33, va_up_ne _ _ (by omega)], rfl⟩))
      have hfrc : ∀ j, (j < 100 ∨ 134 < j) → G_33 j = G j := (fun j h9 => by rw [eG_33, va_up_ne _ _ (by omega)])
      refine lv_aload_n hx hb dX8_average_36 rfl (lv_at hl 0 rfl) ?_
      refine pv_get (ci := 10) (C := RX8) (T := TX8) (N := 34) hx hb hts hinX8 hown hK hP hM.1 eM rfl 0 (by decide) (hts (.fieldLink RX8 86 "StorageChargeModel" "code" "I") (by decide +kernel)) (fun _ h9 => h9) rfl dX8_average_37 ?_
      refine lv_if_le (tgt := 47) hx hb dX8_average_40 (by decide) (fun c_40 => ?_) (fun c_40 => ?_)
      · exact absurd c_40 (by decide)
      · refine lv_iconst (v := 0) hx hb dX8_average_43 (by decide) ?_
        refine lv_goto (tgt := 61) hx hb dX8_average_44 (by decide) ?_
        refine W.widen (k := 0) (n := 0) (Nat.le_of_ble_eq_true rfl) (Nat.le_of_ble_eq_true rfl) ?_
        exact W.iret (v := 0) hx hb hr (fun t ht hW => ⟨⟨0, wl Ls ad G_33, rfl, (by first | exact Or.inl ⟨fun h => absurd h.1 (wI_eq0.mp (by rw [← hr_2]; exact c_5)), _, rfl, hMc, hfrc⟩ | exact Or.inl ⟨fun h => absurd h.2 (wI_eq0.mp (by rw [← hr_9]; exact c_12)), _, rfl, hMc, hfrc⟩), by rw [ht]; exact hP, hD⟩, hS.F ht⟩) hS.2.2 dX8_average_61

set_option maxHeartbeats 4000000 in
set_option maxRecDepth 100000 in
/-- compare -/
theorem c_X8_compare (l : Launch) (hl0 : l.stackTraces = false) (D : va_G) (y : Nat → ClassId) (b0 : Nat) (Ls : List Nat) (ad : Nat → Nat) (G : Nat → va_E) (F : Nat → Int32) (A : Nat → Nat → Int32) (hM : ModelAt y Ls ad G F A) (nu : Nat) (h14 : F 14 = nI nu) (nl : Nat) (h3 : F 3 = nI nl) (nm : Nat) (h21 : F 21 = nI nm) (hnu : nu ≤ 24) (hnl : nl ≤ 60) (hnm : nm ≤ 60) (tn : Nat → Nat) (htn : ∀ u, u < nu → A 18 u = nI (tn u) ∧ tn u ≤ 9) (o q mo0 : Int32) : Met l yX8_compare wsX8_compare ({ frames := 4, cells := 0, slots := 0, locals := 100 }) (va_Pc [.ref (ad 100), .int o, .int q, .int mo0] (WdM D y b0 (wl Ls ad G))) (va_Qi (fun (r : Int32) (u : va_W) => (¬ (inR o 7 ∧ inR q 7 ∧ inR mo0 119) ∧ ∃ G2, u = wl Ls ad G2 ∧ ModelAt y Ls ad G2 (va_up F 0 1) A ∧ (∀ j, (j < 100 ∨ 134 < j) → G2 j = G j)) ∨ (inR o 7 ∧ inR q 7 ∧ ∃ m0, m0 < 120 ∧ mo0 = nI m0 ∧ r = mSum A nl nu nm tn o q m0 - mSum A nl nu nm tn o o m0 ∧ ∃ G2, u = wl Ls ad G2 ∧ ModelAt y Ls ad G2 (va_up F 0 0) A ∧ (∀ j, (j < 100 ∨ 134 < j) → G2 j = G j))) (WB D b0) (fun q => b0 ≤ q)) 0 0 (fun q => b0 ≤ q) := by
  refine Met.ofW (cc := cX8_compare) (maxL := 4) (ret := (some .int)) (by decide) rfl ?_
  intro p e s m args below meth c s₁ B hml hv
  obtain ⟨rfl, ⟨hP, hK, hN⟩, hD, hb0, hT⟩ := hv
  have hx := B.exec
  have hb := B.bytes
  have hr := B.returns
  have hts := atoms_spec (ws := wsX8_compare) B.pre
  have hown : s.vm.findClass RX8 = some m.cls := findClass_of_methodNamed B.named
  have hlocks := B.notSynchronized
  have hS : va_S (fun q => b0 ≤ q) s.heap s.heap [] := va_S.rf
  have hinX8 : ∀ w ∈ wsX80, w ∈ wsX8_compare := by decide +kernel
  have eM : G 100 = .inr (10, [.int (F 0), .int (F 1), .ref (ad 103), .int (F 3), .ref (ad 105), .ref (ad 106), .ref (ad 107), .ref (ad 108), .int (F 8), .ref (ad 110), .ref (ad 111), .ref (ad 112), .ref (ad 113), .int (F 13), .int (F 14), .ref (ad 116), .ref (ad 117), .ref (ad 118), .ref (ad 119), .ref (ad 120), .ref (ad 121), .int (F 21), .ref (ad 123), .ref (ad 124), .ref (ad 125), .ref (ad 126), .int (F 26), .ref (ad 128), .ref (ad 129), .ref (ad 130), .ref (ad 131), .ref (ad 132), .int (F 32), .ref (ad 134)]) := hM.2.1
  have hl := lv_entry ([.ref (ad 100), .int o, .int q, .int mo0]) (n := 4) (Nat.le_of_ble_eq_true rfl)
  rw [lg_entry_eq]
  generalize (lg_sl ([.ref (ad 100), .int o, .int q, .int mo0]) ++ List.replicate (4 - (lg_sl ([.ref (ad 100), .int o, .int q, .int mo0])).length) Slot.unset).toArray = ls at hl ⊢
  have hl : lv_has ls 4 [(0, .ref (ad 100)), (1, .int o), (2, .int q), (3, .int mo0)] := hl
  refine lv_aload_n hx hb dX8_compare_0 rfl (lv_at hl 0 rfl) ?_
  refine lv_iload_n hx hb dX8_compare_1 rfl (lv_at hl 1 rfl) ?_
  refine vp_callSi (va_Run.run (va_runS (As := [.int o]) (rest := [.ref (ad 100)]) ⟨hx, hb, hml, hown, hts⟩ (c_X8_isOwner l o) (va_cwS 1 hts gX8_compare_X8_isOwner rfl rfl rfl (by decide +kernel) ⟨Nat.le_of_ble_eq_true rfl, Nat.le_of_ble_eq_true rfl⟩) ⟨fun _ _ _ _ q => q, fun U hU hW => ⟨rfl, trivial⟩⟩ rfl rfl hl.1 rfl (lv_room (Nat.le_of_ble_eq_true rfl)) dX8_compare_2 ⟨(Nat.le_of_ble_eq_true rfl), (Nat.le_of_ble_eq_true rfl)⟩)) (fun r_2 hr_2 => ?_)
  refine lv_if_eq (tgt := 26) hx hb dX8_compare_5 (by decide) (fun c_5 => ?_) (fun c_5 => ?_)
  · refine lv_iconst (v := 1) hx hb dX8_compare_26 (by decide) ?_
    refine pv_put (ci := 10) (v := .int 1) (ty := .int) (C := RX8) (T := TX8) (N := 34) hx hb hts hinX8 tyX8 tyX8_ok nmX8 hown hK hP hD hS hM.1 eM rfl 0 (by decide) (hts (.fieldLink RX8 86 "StorageChargeModel" "code" "I") (by decide +kernel)) (fun _ h9 => h9) rfl (by decide +kernel) rfl rfl (Nat.le_of_ble_eq_true rfl) dX8_compare_27 (fun H locs hP hD hS => ?_)
    obtain ⟨G_27, eG_27⟩ : ∃ gg9 : Nat → va_E, gg9 = va_up G 100 (.inr (10, [.int 1, .int (F 1), .ref (ad 103), .int (F 3), .ref (ad 105), .ref (ad 106), .ref (ad 107), .ref (ad 108), .int (F 8), .ref (ad 110), .ref (ad 111), .ref (ad 112), .ref (ad 113), .int (F 13), .int (F 14), .ref (ad 116), .ref (ad 117), .ref (ad 118), .ref (ad 119), .ref (ad 120), .ref (ad 121), .int (F 21), .ref (ad 123), .ref (ad 124), .ref (ad 125), .ref (ad 126), .int (F 26), .ref (ad 128), .ref (ad 129), .ref (ad 130), .ref (ad 131), .ref (ad 132), .int (F 32), .ref (ad 134)])) := ⟨_, rfl⟩
    have hP : va_P D vwCl (wl Ls ad G_27) H := by rw [eG_27]; exact hP
    have hD : va_D (fun q => b0 ≤ q) (wl Ls ad G_27) := by rw [eG_27]; exact hD
    have eM : G_27 100 = .inr (10, [.int 1, .int (F 1), .ref (ad 103), .int (F 3), .ref (ad 105), .ref (ad 106), .ref (ad 107), .ref (ad 108), .int (F 8), .ref (ad 110), .ref (ad 111), .ref (ad 112), .ref (ad 113), .int (F 13), .int (F 14), .ref (ad 116), .ref (ad 117), .ref (ad 118), .ref (ad 119), .ref (ad 120), .ref (ad 121), .int (F 21), .ref (ad 123), .ref (ad 124), .ref (ad 125), .ref (ad 126), .int (F 26), .ref (ad 128), .ref (ad 129), .ref (ad 130), .ref (ad 131), .ref (ad 132), .int (F 32), .ref (ad 134)]) := by rw [eG_27]; exact va_up_self _ _ _
    have hMc : ModelAt y Ls ad G_27 (va_up F 0 1) A := (ModelAt_w hM (eM) (fun k hk => Or.inl ⟨by rw [eG_27, va_up_ne _ _ (by omega)], rfl⟩))
    have hfrc : ∀ j, (j < 100 ∨ 134 < j) → G_27 j = G j := (fun j h9 => by rw [eG_27, va_up_ne _ _ (by omega)])
    refine lv_aload_n hx hb dX8_compare_30 rfl (lv_at hl 0 rfl) ?_
    refine pv_get (ci := 10) (C := RX8) (T := TX8) (N := 34) hx hb hts hinX8 hown hK hP hM.1 eM rfl 0 (by decide) (hts (.fieldLink RX8 86 "StorageChargeModel" "code" "I") (by decide +kernel)) (fun _ h9 => h9) rfl dX8_compare_31 ?_
    refine lv_if_le (tgt := 41) hx hb dX8_compare_34 (by decide) (fun c_34 => ?_) (fun c_34 => ?_)
    · exact absurd c_34 (by decide)
    · refine lv_iconst (v := 0) hx hb dX8_compare_37 (by decide) ?_
      refine lv_goto (tgt := 56) hx hb dX8_compare_38 (by decide) ?_
      refine W.widen (k := 0) (n := 0) (Nat.le_of_ble_eq_true rfl) (Nat.le_of_ble_eq_true rfl) ?_
      exact W.iret (v := 0) hx hb hr (fun t ht hW => ⟨⟨0, wl Ls ad G_27, rfl, (by first | exact Or.inl ⟨fun h => absurd h.1 (wI_eq0.mp (by rw [← hr_2]; exact c_5)), _, rfl, hMc, hfrc⟩ | exact Or.inl ⟨fun h => absurd h.2.1 (wI_eq0.mp (by rw [← hr_9]; exact c_12)), _, rfl, hMc, hfrc⟩ | exact Or.inl ⟨fun h => absurd h.2.2 (wI_eq0.mp (by rw [← hr_16]; exact c_19)), _, rfl, hMc, hfrc⟩), by rw [ht]; exact hP, hD⟩, hS.F ht⟩) hS.2.2 dX8_compare_56
  · refine lv_iload_n hx hb dX8_compare_8 rfl (lv_at hl 2 rfl) ?_
    refine vp_callSi (va_Run.run (va_runS (As := [.int q]) (rest := [.ref (ad 100)]) ⟨hx, hb, hml, hown, hts⟩ (c_X8_isOwner l q) (va_cwS 1 hts gX8_compare_X8_isOwner rfl rfl rfl (by decide +kernel) ⟨Nat.le_of_ble_eq_true rfl, Nat.le_of_ble_eq_true rfl⟩) ⟨fun _ _ _ _ q => q, fun U hU hW => ⟨rfl, trivial⟩⟩ rfl rfl hl.1 rfl (lv_room (Nat.le_of_ble_eq_true rfl)) dX8_compare_9 ⟨(Nat.le_of_ble_eq_true rfl), (Nat.le_of_ble_eq_true rfl)⟩)) (fun r_9 hr_9 => ?_)
    refine lv_if_eq (tgt := 26) hx hb dX8_compare_12 (by decide) (fun c_12 => ?_) (fun c_12 => ?_)
    · refine lv_iconst (v := 1) hx hb dX8_compare_26 (by decide) ?_
      refine pv_put (ci := 10) (v := .int 1) (ty := .int) (C := RX8) (T := TX8) (N := 34) hx hb hts hinX8 tyX8 tyX8_ok nmX8 hown hK hP hD hS hM.1 eM rfl 0 (by decide) (hts (.fieldLink RX8 86 "StorageChargeModel" "code" "I") (by decide +kernel)) (fun _ h9 => h9) rfl (by decide +kernel) rfl rfl (Nat.le_of_ble_eq_true rfl) dX8_compare_27 (fun H locs hP hD hS => ?_)
      obtain ⟨G_27, eG_27⟩ : ∃ gg9 : Nat → va_E, gg9 = va_up G 100 (.inr (10, [.int 1, .int (F 1), .ref (ad 103), .int (F 3), .ref (ad 105), .ref (ad 106), .ref (ad 107), .ref (ad 108), .int (F 8), .ref (ad 110), .ref (ad 111), .ref (ad 112), .ref (ad 113), .int (F 13), .int (F 14), .ref (ad 116), .ref (ad 117), .ref (ad 118), .ref (ad 119), .ref (ad 120), .ref (ad 121), .int (F 21), .ref (ad 123), .ref (ad 124), .ref (ad 125), .ref (ad 126), .int (F 26), .ref (ad 128), .ref (ad 129), .ref (ad 130), .ref (ad 131), .ref (ad 132), .int (F 32), .ref (ad 134)])) := ⟨_, rfl⟩
      have hP : va_P D vwCl (wl Ls ad G_27) H := by rw [eG_27]; exact hP
      have hD : va_D (fun q => b0 ≤ q) (wl Ls ad G_27) := by rw [eG_27]; exact hD
      have eM : G_27 100 = .inr (10, [.int 1, .int (F 1), .ref (ad 103), .int (F 3), .ref (ad 105), .ref (ad 106), .ref (ad 107), .ref (ad 108), .int (F 8), .ref (ad 110), .ref (ad 111), .ref (ad 112), .ref (ad 113), .int (F 13), .int (F 14), .ref (ad 116), .ref (ad 117), .ref (ad 118), .ref (ad 119), .ref (ad 120), .ref (ad 121), .int (F 21), .ref (ad 123), .ref (ad 124), .ref (ad 125), .ref (ad 126), .int (F 26), .ref (ad 128), .ref (ad 129), .ref (ad 130), .ref (ad 131), .ref (ad 132), .int (F 32), .ref (ad 134)]) := by rw [eG_27]; exact va_up_self _ _ _
      have hMc : ModelAt y Ls ad G_27 (va_up F 0 1) A := (ModelAt_w hM (eM) (fun k hk => Or.inl ⟨by rw [eG_27, va_up_ne _ _ (by omega)], rfl⟩))
      have hfrc : ∀ j, (j < 100 ∨ 134 < j) → G_27 j = G j := (fun j h9 => by rw [eG_27, va_up_ne _ _ (by omega)])
      refine lv_aload_n hx hb dX8_compare_30 rfl (lv_at hl 0 rfl) ?_
      refine pv_get (ci := 10) (C := RX8) (T := TX8) (N := 34) hx hb hts hinX8 hown hK hP hM.1 eM rfl 0 (by decide) (hts (.fieldLink RX8 86 "StorageChargeModel" "code" "I") (by decide +kernel)) (fun _ h9 => h9) rfl dX8_compare_31 ?_
      refine lv_if_le (tgt := 41) hx hb dX8_compare_34 (by decide) (fun c_34 => ?_) (fun c_34 => ?_)
      · exact absurd c_34 (by decide)
      · refine lv_iconst (v := 0) hx hb dX8_compare_37 (by decide) ?_
        refine lv_goto (tgt := 56) hx hb dX8_compare_38 (by decide) ?_
        refine W.widen (k := 0) (n := 0) (Nat.le_of_ble_eq_true rfl) (Nat.le_of_ble_eq_true rfl) ?_
        exact W.iret (v := 0) hx hb hr (fun t ht hW => ⟨⟨0, wl Ls ad G_27, rfl, (by first | exact Or.inl ⟨fun h => absurd h.1 (wI_eq0.mp (by rw [← hr_2]; exact c_5)), _, rfl, hMc, hfrc⟩ | exact Or.inl ⟨fun h => absurd h.2.1 (wI_eq0.mp (by rw [← hr_9]; exact c_12)), _, rfl, hMc, hfrc⟩ | exact Or.inl ⟨fun h => absurd h.2.2 (wI_eq0.mp (by rw [← hr_16]; exact c_19)), _, rfl, hMc, hfrc⟩), by rw [ht]; exact hP, hD⟩, hS.F ht⟩) hS.2.2 dX8_compare_56
    · refine lv_iload_n hx hb dX8_compare_15 rfl (lv_at hl 3 rfl) ?_
      refine vp_callSi (va_Run.run (va_runS (As := [.int mo0]) (rest := [.ref (ad 100)]) ⟨hx, hb, hml, hown, hts⟩ (c_X8_isMonth l mo0) (va_cwS 1 hts gX8_compare_X8_isMonth rfl rfl rfl (by decide +kernel) ⟨Nat.le_of_ble_eq_true rfl, Nat.le_of_ble_eq_true rfl⟩) ⟨fun _ _ _ _ q => q, fun U hU hW => ⟨rfl, trivial⟩⟩ rfl rfl hl.1 rfl (lv_room (Nat.le_of_ble_eq_true rfl)) dX8_compare_16 ⟨(Nat.le_of_ble_eq_true rfl), (Nat.le_of_ble_eq_true rfl)⟩)) (fun r_16 hr_16 => ?_)
      refine lv_if_eq (tgt := 26) hx hb dX8_compare_19 (by decide) (fun c_19 => ?_) (fun c_19 => ?_)
      · refine lv_iconst (v := 1) hx hb dX8_compare_26 (by decide) ?_
        refine pv_put (ci := 10) (v := .int 1) (ty := .int) (C := RX8) (T := TX8) (N := 34) hx hb hts hinX8 tyX8 tyX8_ok nmX8 hown hK hP hD hS hM.1 eM rfl 0 (by decide) (hts (.fieldLink RX8 86 "StorageChargeModel" "code" "I") (by decide +kernel)) (fun _ h9 => h9) rfl (by decide +kernel) rfl rfl (Nat.le_of_ble_eq_true rfl) dX8_compare_27 (fun H locs hP hD hS => ?_)
        obtain ⟨G_27, eG_27⟩ : ∃ gg9 : Nat → va_E, gg9 = va_up G 100 (.inr (10, [.int 1, .int (F 1), .ref (ad 103), .int (F 3), .ref (ad 105), .ref (ad 106), .ref (ad 107), .ref (ad 108), .int (F 8), .ref (ad 110), .ref (ad 111), .ref (ad 112), .ref (ad 113), .int (F 13), .int (F 14), .ref (ad 116), .ref (ad 117), .ref (ad 118), .ref (ad 119), .ref (ad 120), .ref (ad 121), .int (F 21), .ref (ad 123), .ref (ad 124), .ref (ad 125), .ref (ad 126), .int (F 26), .ref (ad 128), .ref (ad 129), .ref (ad 130), .ref (ad 131), .ref (ad 132), .int (F 32), .ref (ad 134)])) := ⟨_, rfl⟩
        have hP : va_P D vwCl (wl Ls ad G_27) H := by rw [eG_27]; exact hP
        have hD : va_D (fun q => b0 ≤ q) (wl Ls ad G_27) := by rw [eG_27]; exact hD
        have eM : G_27 100 = .inr (10, [.int 1, .int (F 1), .ref (ad 103), .int (F 3), .ref (ad 105), .ref (ad 106), .ref (ad 107), .ref (ad 108), .int (F 8), .ref (ad 110), .ref (ad 111), .ref (ad 112), .ref (ad 113), .int (F 13), .int (F 14), .ref (ad 116), .ref (ad 117), .ref (ad 118), .ref (ad 119), .ref (ad 120), .ref (ad 121), .int (F 21), .ref (ad 123), .ref (ad 124), .ref (ad 125), .ref (ad 126), .int (F 26), .ref (ad 128), .ref (ad 129), .ref (ad 130), .ref (ad 131), .ref (ad 132), .int (F 32), .ref (ad 134)]) := by rw [eG_27]; exact va_up_self _ _ _
        have hMc : ModelAt y Ls ad G_27 (va_up F 0 1) A := (ModelAt_w hM (eM) (fun k hk => Or.inl ⟨by rw [eG_27, va_up_ne _ _ (by omega)], rfl⟩))
        have hfrc : ∀ j, (j < 100 ∨ 134 < j) → G_27 j = G j := (fun j h9 => by rw [eG_27, va_up_ne _ _ (by omega)])
        refine lv_aload_n hx hb dX8_compare_30 rfl (lv_at hl 0 rfl) ?_
        refine pv_get (ci := 10) (C := RX8) (T := TX8) (N := 34) hx hb hts hinX8 hown hK hP hM.1 eM rfl 0 (by decide) (hts (.fieldLink RX8 86 "StorageChargeModel" "code" "I") (by decide +kernel)) (fun _ h9 => h9) rfl dX8_compare_31 ?_
        refine lv_if_le (tgt := 41) hx hb dX8_compare_34 (by decide) (fun c_34 => ?_) (fun c_34 => ?_)
        · exact absurd c_34 (by decide)
        · refine lv_iconst (v := 0) hx hb dX8_compare_37 (by decide) ?_
          refine lv_goto (tgt := 56) hx hb dX8_compare_38 (by decide) ?_
          refine W.widen (k := 0) (n := 0) (Nat.le_of_ble_eq_true rfl) (Nat.le_of_ble_eq_true rfl) ?_
          exact W.iret (v := 0) hx hb hr (fun t ht hW => ⟨⟨0, wl Ls ad G_27, rfl, (by first | exact Or.inl ⟨fun h => absurd h.1 (wI_eq0.mp (by rw [← hr_2]; exact c_5)), _, rfl, hMc, hfrc⟩ | exact Or.inl ⟨fun h => absurd h.2.1 (wI_eq0.mp (by rw [← hr_9]; exact c_12)), _, rfl, hMc, hfrc⟩ | exact Or.inl ⟨fun h => absurd h.2.2 (wI_eq0.mp (by rw [← hr_16]; exact c_19)), _, rfl, hMc, hfrc⟩), by rw [ht]; exact hP, hD⟩, hS.F ht⟩) hS.2.2 dX8_compare_56
      · have hqm0 : 0 ≤ mo0 ∧ mo0 ≤ 119 := (Decidable.byContradiction fun h => c_19 (by rw [hr_16]; exact wI_eq0.mpr h))
        obtain ⟨m0, hm0, rfl⟩ := within_nI (n := 120) (by decide) (by decide) hqm0
        refine lv_iconst (v := 0) hx hb dX8_compare_22 (by decide) ?_
        refine lv_goto (tgt := 27) hx hb dX8_compare_23 (by decide) ?_
        refine pv_put (ci := 10) (v := .int 0) (ty := .int) (C := RX8) (T := TX8) (N := 34) hx hb hts hinX8 tyX8 tyX8_ok nmX8 hown hK hP hD hS hM.1 eM rfl 0 (by decide) (hts (.fieldLink RX8 86 "StorageChargeModel" "code" "I") (by decide +kernel)) (fun _ h9 => h9) rfl (by decide +kernel) rfl rfl (Nat.le_of_ble_eq_true rfl) dX8_compare_27 (fun H locs hP hD hS => ?_)
        obtain ⟨G_27, eG_27⟩ : ∃ gg9 : Nat → va_E, gg9 = va_up G 100 (.inr (10, [.int 0, .int (F 1), .ref (ad 103), .int (F 3), .ref (ad 105), .ref (ad 106), .ref (ad 107), .ref (ad 108), .int (F 8), .ref (ad 110), .ref (ad 111), .ref (ad 112), .ref (ad 113), .int (F 13), .int (F 14), .ref (ad 116), .ref (ad 117), .ref (ad 118), .ref (ad 119), .ref (ad 120), .ref (ad 121), .int (F 21), .ref (ad 123), .ref (ad 124), .ref (ad 125), .ref (ad 126), .int (F 26), .ref (ad 128), .ref (ad 129), .ref (ad 130), .ref (ad 131), .ref (ad 132), .int (F 32), .ref (ad 134)])) := ⟨_, rfl⟩
        have hP : va_P D vwCl (wl Ls ad G_27) H := by rw [eG_27]; exact hP
        have hD : va_D (fun q => b0 ≤ q) (wl Ls ad G_27) := by rw [eG_27]; exact hD
        have eM : G_27 100 = .inr (10, [.int 0, .int (F 1), .ref (ad 103), .int (F 3), .ref (ad 105), .ref (ad 106), .ref (ad 107), .ref (ad 108), .int (F 8), .ref (ad 110), .ref (ad 111), .ref (ad 112), .ref (ad 113), .int (F 13), .int (F 14), .ref (ad 116), .ref (ad 117), .ref (ad 118), .ref (ad 119), .ref (ad 120), .ref (ad 121), .int (F 21), .ref (ad 123), .ref (ad 124), .ref (ad 125), .ref (ad 126), .int (F 26), .ref (ad 128), .ref (ad 129), .ref (ad 130), .ref (ad 131), .ref (ad 132), .int (F 32), .ref (ad 134)]) := by rw [eG_27]; exact va_up_self _ _ _
        have hMc : ModelAt y Ls ad G_27 (va_up F 0 0) A := (ModelAt_w hM (eM) (fun k hk => Or.inl ⟨by rw [eG_27, va_up_ne _ _ (by omega)], rfl⟩))
        have hfrc : ∀ j, (j < 100 ∨ 134 < j) → G_27 j = G j := (fun j h9 => by rw [eG_27, va_up_ne _ _ (by omega)])
        refine lv_aload_n hx hb dX8_compare_30 rfl (lv_at hl 0 rfl) ?_
        refine pv_get (ci := 10) (C := RX8) (T := TX8) (N := 34) hx hb hts hinX8 hown hK hP hM.1 eM rfl 0 (by decide) (hts (.fieldLink RX8 86 "StorageChargeModel" "code" "I") (by decide +kernel)) (fun _ h9 => h9) rfl dX8_compare_31 ?_
        refine lv_if_le (tgt := 41) hx hb dX8_compare_34 (by decide) (fun c_34 => ?_) (fun c_34 => ?_)
        · refine lv_aload_n hx hb dX8_compare_41 rfl (lv_at hl 0 rfl) ?_
          refine lv_iload_n hx hb dX8_compare_42 rfl (lv_at hl 1 rfl) ?_
          refine lv_iload_n hx hb dX8_compare_43 rfl (lv_at hl 2 rfl) ?_
          refine lv_iload_n hx hb dX8_compare_44 rfl (lv_at hl 3 rfl) ?_
          refine vp_callSi (va_Run.run (va_runV (As := [.int o, .int q, .int (nI m0)]) (rest := []) ⟨hx, hb, hml, hown, hts⟩ (c_X8_sumOf l D y Ls ad G_27 (va_up F 0 0) A hMc nu ((va_up_ne _ _ (by decide)).trans h14) nl ((va_up_ne _ _ (by decide)).trans h3) nm ((va_up_ne _ _ (by decide)).trans h21) hnu hnl hnm tn htn o q m0 hm0) (cwV 3 hts gX8_compare_X8_sumOf rfl rfl rfl (by decide +kernel) ⟨Nat.le_of_ble_eq_true rfl, Nat.le_of_ble_eq_true rfl⟩) ⟨Wd_blind, Wd_recv hK hP (ci := 10) rfl hM.1 eM, Wd_at hP hK hN⟩ rfl rfl hl.1 rfl (lv_room (Nat.le_of_ble_eq_true rfl)) dX8_compare_45 ⟨(Nat.le_of_ble_eq_true rfl), (Nat.le_of_ble_eq_true rfl)⟩)) (fun r_45 hr_45 => ?_)
          refine lv_aload_n hx hb dX8_compare_48 rfl (lv_at hl 0 rfl) ?_
          refine lv_iload_n hx hb dX8_compare_49 rfl (lv_at hl 1 rfl) ?_
          refine lv_iload_n hx hb dX8_compare_50 rfl (lv_at hl 1 rfl) ?_
          refine lv_iload_n hx hb dX8_compare_51 rfl (lv_at hl 3 rfl) ?_
          refine vp_callSi (va_Run.run (va_runV (As := [.int o, .int o, .int (nI m0)]) (rest := [.int r_45]) ⟨hx, hb, hml, hown, hts⟩ (c_X8_sumOf l D y Ls ad G_27 (va_up F 0 0) A hMc nu ((va_up_ne _ _ (by decide)).trans h14) nl ((va_up_ne _ _ (by decide)).trans h3) nm ((va_up_ne _ _ (by decide)).trans h21) hnu hnl hnm tn htn o o m0 hm0) (cwV 3 hts gX8_compare_X8_sumOf rfl rfl rfl (by decide +kernel) ⟨Nat.le_of_ble_eq_true rfl, Nat.le_of_ble_eq_true rfl⟩) ⟨Wd_blind, Wd_recv hK hP (ci := 10) rfl hM.1 eM, Wd_at hP hK hN⟩ rfl rfl hl.1 rfl (lv_room (Nat.le_of_ble_eq_true rfl)) dX8_compare_52 ⟨(Nat.le_of_ble_eq_true rfl), (Nat.le_of_ble_eq_true rfl)⟩)) (fun r_52 hr_52 => ?_)
          refine lv_isub hx hb dX8_compare_55 ?_
          refine W.widen (k := 0) (n := 0) (Nat.le_of_ble_eq_true rfl) (Nat.le_of_ble_eq_true rfl) ?_
          exact W.iret (v := (r_45 - r_52)) hx hb hr (fun t ht hW => ⟨⟨(r_45 - r_52), wl Ls ad G_27, rfl, Or.inr ⟨(Decidable.byContradiction fun h => c_5 (by rw [hr_2]; exact wI_eq0.mpr h)), (Decidable.byContradiction fun h => c_12 (by rw [hr_9]; exact wI_eq0.mpr h)), m0, hm0, rfl, by rw [hr_45, hr_52], _, rfl, hMc, hfrc⟩, by rw [ht]; exact hP, hD⟩, hS.F ht⟩) hS.2.2 dX8_compare_56
        · exact absurd (by decide) c_34

set_option maxHeartbeats 4000000 in
set_option maxRecDepth 100000 in
/-- unit -/
theorem c_X8_unit (l : Launch) (hl0 : l.stackTraces = false) (D : va_G) (y : Nat → ClassId) (b0 : Nat) (Ls : List Nat) (ad : Nat → Nat) (G : Nat → va_E) (F : Nat → Int32) (A : Nat → Nat → Int32) (hM : ModelAt y Ls ad G F A) (nu : Nat) (h14 : F 14 = nI nu) (hnu : nu ≤ 24) (o kd da : Int32) : Met l yX8_unit wsX8_unit ({ frames := 2, cells := 0, slots := 0, locals := 42 }) (va_Pc [.ref (ad 100), .int o, .int kd, .int da] (WdM D y b0 (wl Ls ad G))) (va_Qi (fun (r : Int32) (u : va_W) => (¬ (inR o 7 ∧ inR kd 4 ∧ inR da 3599) ∧ ∃ G2, u = wl Ls ad G2 ∧ ModelAt y Ls ad G2 (va_up F 0 1) A ∧ (∀ j, (j < 100 ∨ 134 < j) → G2 j = G j)) ∨ ((inR o 7 ∧ inR kd 4 ∧ inR da 3599) ∧ nu = 24 ∧ ∃ G2, u = wl Ls ad G2 ∧ ModelAt y Ls ad G2 (va_up F 0 2) A ∧ (∀ j, (j < 100 ∨ 134 < j) → G2 j = G j)) ∨ ((inR o 7 ∧ inR kd 4 ∧ inR da 3599) ∧ nu < 24 ∧ r = nI nu ∧ ∃ G2, u = wl Ls ad G2 ∧ ModelAt y Ls ad G2 (va_up (va_up F 0 0) 14 (nI (nu + 1))) (va_up (va_up (va_up (va_up (va_up (va_up A 15 (upd (A 15) nu o)) 16 (upd (A 16) nu da)) 17 (upd (A 17) nu 100000)) 18 (upd (A 18) nu 1)) 19 (upd (A 19) (9 * nu) da)) 20 (upd (A 20) (9 * nu) kd)) ∧ (∀ j, (j < 100 ∨ 134 < j) → G2 j = G j))) (WB D b0) (fun q => b0 ≤ q)) 0 0 (fun q => b0 ≤ q) := by
  refine Met.ofW (cc := cX8_unit) (maxL := 4) (ret := (some .int)) (by decide) rfl ?_
  intro p e s m args below meth c s₁ B hml hv
  obtain ⟨rfl, ⟨hP, hK, hN⟩, hD, hb0, hT⟩ := hv
  have hx := B.exec
  have hb := B.bytes
  have hr := B.returns
  have hts := atoms_spec (ws := wsX8_unit) B.pre
  have hown : s.vm.findClass RX8 = some m.cls := findClass_of_methodNamed B.named
  have hlocks := B.notSynchronized
  have hS : va_S (fun q => b0 ≤ q) s.heap s.heap [] := va_S.rf
  have hinX8 : ∀ w ∈ wsX80, w ∈ wsX8_unit := by decide +kernel
  have eM : G 100 = .inr (10, [.int (F 0), .int (F 1), .ref (ad 103), .int (F 3), .ref (ad 105), .ref (ad 106), .ref (ad 107), .ref (ad 108), .int (F 8), .ref (ad 110), .ref (ad 111), .ref (ad 112), .ref (ad 113), .int (F 13), .int (nI nu), .ref (ad 116), .ref (ad 117), .ref (ad 118), .ref (ad 119), .ref (ad 120), .ref (ad 121), .int (F 21), .ref (ad 123), .ref (ad 124), .ref (ad 125), .ref (ad 126), .int (F 26), .ref (ad 128), .ref (ad 129), .ref (ad 130), .ref (ad 131), .ref (ad 132), .int (F 32), .ref (ad 134)]) := hM.2.1.trans (by rw [mfs, h14])
  obtain ⟨j15, a15⟩ : 116 ∈ Ls ∧ G 116 = .inl (y 0, 24, .inl (A 15)) := hM.2.2 15 (by decide)
  obtain ⟨j16, a16⟩ : 117 ∈ Ls ∧ G 117 = .inl (y 0, 24, .inl (A 16)) := hM.2.2 16 (by decide)
  obtain ⟨j17, a17⟩ : 118 ∈ Ls ∧ G 118 = .inl (y 0, 24, .inl (A 17)) := hM.2.2 17 (by decide)
  obtain ⟨j18, a18⟩ : 119 ∈ Ls ∧ G 119 = .inl (y 0, 24, .inl (A 18)) := hM.2.2 18 (by decide)
  obtain ⟨j19, a19⟩ : 120 ∈ Ls ∧ G 120 = .inl (y 0, 216, .inl (A 19)) := hM.2.2 19 (by decide)
  obtain ⟨j20, a20⟩ : 121 ∈ Ls ∧ G 121 = .inl (y 0, 216, .inl (A 20)) := hM.2.2 20 (by decide)
  have hl := lv_entry ([.ref (ad 100), .int o, .int kd, .int da]) (n := 4) (Nat.le_of_ble_eq_true rfl)
  rw [lg_entry_eq]
  generalize (lg_sl ([.ref (ad 100), .int o, .int kd, .int da]) ++ List.replicate (4 - (lg_sl ([.ref (ad 100), .int o, .int kd, .int da])).length) Slot.unset).toArray = ls at hl ⊢
  have hl : lv_has ls 4 [(0, .ref (ad 100)), (1, .int o), (2, .int kd), (3, .int da)] := hl
  refine lv_aload_n hx hb dX8_unit_0 rfl (lv_at hl 0 rfl) ?_
  refine lv_iload_n hx hb dX8_unit_1 rfl (lv_at hl 1 rfl) ?_
  refine vp_callSi (va_Run.run (va_runS (As := [.int o]) (rest := [.ref (ad 100)]) ⟨hx, hb, hml, hown, hts⟩ (c_X8_isOwner l o) (va_cwS 1 hts gX8_unit_X8_isOwner rfl rfl rfl (by decide +kernel) ⟨Nat.le_of_ble_eq_true rfl, Nat.le_of_ble_eq_true rfl⟩) ⟨fun _ _ _ _ q => q, fun U hU hW => ⟨rfl, trivial⟩⟩ rfl rfl hl.1 rfl (lv_room (Nat.le_of_ble_eq_true rfl)) dX8_unit_2 ⟨(Nat.le_of_ble_eq_true rfl), (Nat.le_of_ble_eq_true rfl)⟩)) (fun r_2 hr_2 => ?_)
  refine lv_if_eq (tgt := 22) hx hb dX8_unit_5 (by decide) (fun c_5 => ?_) (fun c_5 => ?_)
  · refine lv_iconst (v := 1) hx hb dX8_unit_22 (by decide) ?_
    refine lv_goto (tgt := 40) hx hb dX8_unit_23 (by decide) ?_
    refine pv_put (ci := 10) (v := .int 1) (ty := .int) (C := RX8) (T := TX8) (N := 34) hx hb hts hinX8 tyX8 tyX8_ok nmX8 hown hK hP hD hS hM.1 eM rfl 0 (by decide) (hts (.fieldLink RX8 86 "StorageChargeModel" "code" "I") (by decide +kernel)) (fun _ h9 => h9) rfl (by decide +kernel) rfl rfl (Nat.le_of_ble_eq_true rfl) dX8_unit_40 (fun H locs hP hD hS => ?_)
    obtain ⟨G_40, eG_40⟩ : ∃ gg9 : Nat → va_E, gg9 = va_up G 100 (.inr (10, [.int 1, .int (F 1), .ref (ad 103), .int (F 3), .ref (ad 105), .ref (ad 106), .ref (ad 107), .ref (ad 108), .int (F 8), .ref (ad 110), .ref (ad 111), .ref (ad 112), .ref (ad 113), .int (F 13), .int (nI nu), .ref (ad 116), .ref (ad 117), .ref (ad 118), .ref (ad 119), .ref (ad 120), .ref (ad 121), .int (F 21), .ref (ad 123), .ref (ad 124), .ref (ad 125), .ref (ad 126), .int (F 26), .ref (ad 128), .ref (ad 129), .ref (ad 130), .ref (ad 131), .ref (ad 132), .int (F 32), .ref (ad 134)])) := ⟨_, rfl⟩
    have hP : va_P D vwCl (wl Ls ad G_40) H := by rw [eG_40]; exact hP
    have hD : va_D (fun q => b0 ≤ q) (wl Ls ad G_40) := by rw [eG_40]; exact hD
    have a15 : G_40 116 = .inl (y 0, 24, .inl (A 15)) := by rw [eG_40, va_up_ne _ _ (by omega)]; exact a15
    have a16 : G_40 117 = .inl (y 0, 24, .inl (A 16)) := by rw [eG_40, va_up_ne _ _ (by omega)]; exact a16
    have a17 : G_40 118 = .inl (y 0, 24, .inl (A 17)) := by rw [eG_40, va_up_ne _ _ (by omega)]; exact a17
    have a18 : G_40 119 = .inl (y 0, 24, .inl (A 18)) := by rw [eG_40, va_up_ne _ _ (by omega)]; exact a18
    have a19 : G_40 120 = .inl (y 0, 216, .inl (A 19)) := by rw [eG_40, va_up_ne _ _ (by omega)]; exact a19
    have a20 : G_40 121 = .inl (y 0, 216, .inl (A 20)) := by rw [eG_40, va_up_ne _ _ (by omega)]; exact a20
    have eM : G_40 100 = .inr (10, [.int 1, .int (F 1), .ref (ad 103), .int (F 3), .ref (ad 105), .ref (ad 106), .ref (ad 107), .ref (ad 108), .int (F 8), .ref (ad 110), .ref (ad 111), .ref (ad 112), .ref (ad 113), .int (F 13), .int (nI nu), .ref (ad 116), .ref (ad 117), .ref (ad 118), .ref (ad 119), .ref (ad 120), .ref (ad 121), .int (F 21), .ref (ad 123), .ref (ad 124), .ref (ad 125), .ref (ad 126), .int (F 26), .ref (ad 128), .ref (ad 129), .ref (ad 130), .ref (ad 131), .ref (ad 132), .int (F 32), .ref (ad 134)]) := by rw [eG_40]; exact va_up_self _ _ _
    have hMc : ModelAt y Ls ad G_40 (va_up F 0 1) A := (ModelAt_w hM (eM.trans (by rw [← h14]; rfl)) (fun k hk => Or.inl ⟨by rw [eG_40, va_up_ne _ _ (by omega)], rfl⟩))
    have hfrc : ∀ j, (j < 100 ∨ 134 < j) → G_40 j = G j := (fun j h9 => by rw [eG_40, va_up_ne _ _ (by omega)])
    refine lv_aload_n hx hb dX8_unit_43 rfl (lv_at hl 0 rfl) ?_
    refine pv_get (ci := 10) (C := RX8) (T := TX8) (N := 34) hx hb hts hinX8 hown hK hP hM.1 eM rfl 0 (by decide) (hts (.fieldLink RX8 86 "StorageChargeModel" "code" "I") (by decide +kernel)) (fun _ h9 => h9) rfl dX8_unit_44 ?_
    refine lv_if_le (tgt := 52) hx hb dX8_unit_47 (by decide) (fun c_47 => ?_) (fun c_47 => ?_)
    · exact absurd c_47 (by decide)
    · refine lv_iconst (v := 0) hx hb dX8_unit_50 (by decide) ?_
      refine W.widen (k := 0) (n := 0) (Nat.le_of_ble_eq_true rfl) (Nat.le_of_ble_eq_true rfl) ?_
      exact W.iret (v := 0) hx hb hr (fun t ht hW => ⟨⟨0, wl Ls ad G_40, rfl, (by first | exact Or.inl ⟨fun h => absurd h.1 (wI_eq0.mp (by rw [← hr_2]; exact c_5)), _, rfl, hMc, hfrc⟩ | exact Or.inl ⟨fun h => absurd h.2.1 (wI_eq0.mp (by rw [← hr_9]; exact c_12)), _, rfl, hMc, hfrc⟩ | exact Or.inl ⟨fun h => absurd h.2.2 (wI_eq0.mp (by rw [← hr_16]; exact c_19)), _, rfl, hMc, hfrc⟩), by rw [ht]; exact hP, hD⟩, hS.F ht⟩) hS.2.2 dX8_unit_51
  · refine lv_iload_n hx hb dX8_unit_8 rfl (lv_at hl 2 rfl) ?_
    refine vp_callSi (va_Run.run (va_runS (As := [.int kd]) (rest := [.ref (ad 100)]) ⟨hx, hb, hml, hown, hts⟩ (c_X8_isKind l kd) (va_cwS 1 hts gX8_unit_X8_isKind rfl rfl rfl (by decide +kernel) ⟨Nat.le_of_ble_eq_true rfl, Nat.le_of_ble_eq_true rfl⟩) ⟨fun _ _ _ _ q => q, fun U hU hW => ⟨rfl, trivial⟩⟩ rfl rfl hl.1 rfl (lv_room (Nat.le_of_ble_eq_true rfl)) dX8_unit_9 ⟨(Nat.le_of_ble_eq_true rfl), (Nat.le_of_ble_eq_true rfl)⟩)) (fun r_9 hr_9 => ?_)
    refine lv_if_eq (tgt := 22) hx hb dX8_unit_12 (by decide) (fun c_12 => ?_) (fun c_12 => ?_)
    · refine lv_iconst (v := 1) hx hb dX8_unit_22 (by decide) ?_
      refine lv_goto (tgt := 40) hx hb dX8_unit_23 (by decide) ?_
      refine pv_put (ci := 10) (v := .int 1) (ty := .int) (C := RX8) (T := TX8) (N := 34) hx hb hts hinX8 tyX8 tyX8_ok nmX8 hown hK hP hD hS hM.1 eM rfl 0 (by decide) (hts (.fieldLink RX8 86 "StorageChargeModel" "code" "I") (by decide +kernel)) (fun _ h9 => h9) rfl (by decide +kernel) rfl rfl (Nat.le_of_ble_eq_true rfl) dX8_unit_40 (fun H locs hP hD hS => ?_)
      obtain ⟨G_40, eG_40⟩ : ∃ gg9 : Nat → va_E, gg9 = va_up G 100 (.inr (10, [.int 1, .int (F 1), .ref (ad 103), .int (F 3), .ref (ad 105), .ref (ad 106), .ref (ad 107), .ref (ad 108), .int (F 8), .ref (ad 110), .ref (ad 111), .ref (ad 112), .ref (ad 113), .int (F 13), .int (nI nu), .ref (ad 116), .ref (ad 117), .ref (ad 118), .ref (ad 119), .ref (ad 120), .ref (ad 121), .int (F 21), .ref (ad 123), .ref (ad 124), .ref (ad 125), .ref (ad 126), .int (F 26), .ref (ad 128), .ref (ad 129), .ref (ad 130), .ref (ad 131), .ref (ad 132), .int (F 32), .ref (ad 134)])) := ⟨_, rfl⟩
      have hP : va_P D vwCl (wl Ls ad G_40) H := by rw [eG_40]; exact hP
      have hD : va_D (fun q => b0 ≤ q) (wl Ls ad G_40) := by rw [eG_40]; exact hD
      have a15 : G_40 116 = .inl (y 0, 24, .inl (A 15)) := by rw [eG_40, va_up_ne _ _ (by omega)]; exact a15
      have a16 : G_40 117 = .inl (y 0, 24, .inl (A 16)) := by rw [eG_40, va_up_ne _ _ (by omega)]; exact a16
      have a17 : G_40 118 = .inl (y 0, 24, .inl (A 17)) := by rw [eG_40, va_up_ne _ _ (by omega)]; exact a17
      have a18 : G_40 119 = .inl (y 0, 24, .inl (A 18)) := by rw [eG_40, va_up_ne _ _ (by omega)]; exact a18
      have a19 : G_40 120 = .inl (y 0, 216, .inl (A 19)) := by rw [eG_40, va_up_ne _ _ (by omega)]; exact a19
      have a20 : G_40 121 = .inl (y 0, 216, .inl (A 20)) := by rw [eG_40, va_up_ne _ _ (by omega)]; exact a20
      have eM : G_40 100 = .inr (10, [.int 1, .int (F 1), .ref (ad 103), .int (F 3), .ref (ad 105), .ref (ad 106), .ref (ad 107), .ref (ad 108), .int (F 8), .ref (ad 110), .ref (ad 111), .ref (ad 112), .ref (ad 113), .int (F 13), .int (nI nu), .ref (ad 116), .ref (ad 117), .ref (ad 118), .ref (ad 119), .ref (ad 120), .ref (ad 121), .int (F 21), .ref (ad 123), .ref (ad 124), .ref (ad 125), .ref (ad 126), .int (F 26), .ref (ad 128), .ref (ad 129), .ref (ad 130), .ref (ad 131), .ref (ad 132), .int (F 32), .ref (ad 134)]) := by rw [eG_40]; exact va_up_self _ _ _
      have hMc : ModelAt y Ls ad G_40 (va_up F 0 1) A := (ModelAt_w hM (eM.trans (by rw [← h14]; rfl)) (fun k hk => Or.inl ⟨by rw [eG_40, va_up_ne _ _ (by omega)], rfl⟩))
      have hfrc : ∀ j, (j < 100 ∨ 134 < j) → G_40 j = G j := (fun j h9 => by rw [eG_40, va_up_ne _ _ (by omega)])
      refine lv_aload_n hx hb dX8_unit_43 rfl (lv_at hl 0 rfl) ?_
      refine pv_get (ci := 10) (C := RX8) (T := TX8) (N := 34) hx hb hts hinX8 hown hK hP hM.1 eM rfl 0 (by decide) (hts (.fieldLink RX8 86 "StorageChargeModel" "code" "I") (by decide +kernel)) (fun _ h9 => h9) rfl dX8_unit_44 ?_
      refine lv_if_le (tgt := 52) hx hb dX8_unit_47 (by decide) (fun c_47 => ?_) (fun c_47 => ?_)
      · exact absurd c_47 (by decide)
      · refine lv_iconst (v := 0) hx hb dX8_unit_50 (by decide) ?_
        refine W.widen (k := 0) (n := 0) (Nat.le_of_ble_eq_true rfl) (Nat.le_of_ble_eq_true rfl) ?_
        exact W.iret (v := 0) hx hb hr (fun t ht hW => ⟨⟨0, wl Ls ad G_40, rfl, (by first | exact Or.inl ⟨fun h => absurd h.1 (wI_eq0.mp (by rw [← hr_2]; exact c_5)), _, rfl, hMc, hfrc⟩ | exact Or.inl ⟨fun h => absurd h.2.1 (wI_eq0.mp (by rw [← hr_9]; exact c_12)), _, rfl, hMc, hfrc⟩ | exact Or.inl ⟨fun h => absurd h.2.2 (wI_eq0.mp (by rw [← hr_16]; exact c_19)), _, rfl, hMc, hfrc⟩), by rw [ht]; exact hP, hD⟩, hS.F ht⟩) hS.2.2 dX8_unit_51
    · refine lv_iload_n hx hb dX8_unit_15 rfl (lv_at hl 3 rfl) ?_
      refine vp_callSi (va_Run.run (va_runS (As := [.int da]) (rest := [.ref (ad 100)]) ⟨hx, hb, hml, hown, hts⟩ (c_X8_isDay l da) (va_cwS 1 hts gX8_unit_X8_isDay rfl rfl rfl (by decide +kernel) ⟨Nat.le_of_ble_eq_true rfl, Nat.le_of_ble_eq_true rfl⟩) ⟨fun _ _ _ _ q => q, fun U hU hW => ⟨rfl, trivial⟩⟩ rfl rfl hl.1 rfl (lv_room (Nat.le_of_ble_eq_true rfl)) dX8_unit_16 ⟨(Nat.le_of_ble_eq_true rfl), (Nat.le_of_ble_eq_true rfl)⟩)) (fun r_16 hr_16 => ?_)
      refine lv_if_ne (tgt := 26) hx hb dX8_unit_19 (by decide) (fun c_19 => ?_) (fun c_19 => ?_)
      · refine lv_aload_n hx hb dX8_unit_26 rfl (lv_at hl 0 rfl) ?_
        refine pv_get (ci := 10) (C := RX8) (T := TX8) (N := 34) hx hb hts hinX8 hown hK hP hM.1 eM rfl 14 (by decide) (hts (.fieldLink RX8 134 "StorageChargeModel" "units" "I") (by decide +kernel)) (fun _ h9 => h9) rfl dX8_unit_27 ?_
        refine lv_bipush (v := 24) hx hb dX8_unit_30 (by decide) ?_
        refine lv_icmp_ne (tgt := 39) hx hb dX8_unit_32 (by decide) (fun c_32 => ?_) (fun c_32 => ?_)
        · have hlt : nu < 24 := by
            have h9 : nu ≠ 24 := fun h => c_32 (by rw [h]; rfl)
            omega
          refine lv_iconst (v := 0) hx hb dX8_unit_39 (by decide) ?_
          refine pv_put (ci := 10) (v := .int 0) (ty := .int) (C := RX8) (T := TX8) (N := 34) hx hb hts hinX8 tyX8 tyX8_ok nmX8 hown hK hP hD hS hM.1 eM rfl 0 (by decide) (hts (.fieldLink RX8 86 "StorageChargeModel" "code" "I") (by decide +kernel)) (fun _ h9 => h9) rfl (by decide +kernel) rfl rfl (Nat.le_of_ble_eq_true rfl) dX8_unit_40 (fun H locs hP hD hS => ?_)
          obtain ⟨G_40, eG_40⟩ : ∃ gg9 : Nat → va_E, gg9 = va_up G 100 (.inr (10, [.int 0, .int (F 1), .ref (ad 103), .int (F 3), .ref (ad 105), .ref (ad 106), .ref (ad 107), .ref (ad 108), .int (F 8), .ref (ad 110), .ref (ad 111), .ref (ad 112), .ref (ad 113), .int (F 13), .int (nI nu), .ref (ad 116), .ref (ad 117), .ref (ad 118), .ref (ad 119), .ref (ad 120), .ref (ad 121), .int (F 21), .ref (ad 123), .ref (ad 124), .ref (ad 125), .ref (ad 126), .int (F 26), .ref (ad 128), .ref (ad 129), .ref (ad 130), .ref (ad 131), .ref (ad 132), .int (F 32), .ref (ad 134)])) := ⟨_, rfl⟩
          have hP : va_P D vwCl (wl Ls ad G_40) H := by rw [eG_40]; exact hP
          have hD : va_D (fun q => b0 ≤ q) (wl Ls ad G_40) := by rw [eG_40]; exact hD
          have a15 : G_40 116 = .inl (y 0, 24, .inl (A 15)) := by rw [eG_40, va_up_ne _ _ (by omega)]; exact a15
          have a16 : G_40 117 = .inl (y 0, 24, .inl (A 16)) := by rw [eG_40, va_up_ne _ _ (by omega)]; exact a16
          have a17 : G_40 118 = .inl (y 0, 24, .inl (A 17)) := by rw [eG_40, va_up_ne _ _ (by omega)]; exact a17
          have a18 : G_40 119 = .inl (y 0, 24, .inl (A 18)) := by rw [eG_40, va_up_ne _ _ (by omega)]; exact a18
          have a19 : G_40 120 = .inl (y 0, 216, .inl (A 19)) := by rw [eG_40, va_up_ne _ _ (by omega)]; exact a19
          have a20 : G_40 121 = .inl (y 0, 216, .inl (A 20)) := by rw [eG_40, va_up_ne _ _ (by omega)]; exact a20
          have eM : G_40 100 = .inr (10, [.int 0, .int (F 1), .ref (ad 103), .int (F 3), .ref (ad 105), .ref (ad 106), .ref (ad 107), .ref (ad 108), .int (F 8), .ref (ad 110), .ref (ad 111), .ref (ad 112), .ref (ad 113), .int (F 13), .int (nI nu), .ref (ad 116), .ref (ad 117), .ref (ad 118), .ref (ad 119), .ref (ad 120), .ref (ad 121), .int (F 21), .ref (ad 123), .ref (ad 124), .ref (ad 125), .ref (ad 126), .int (F 26), .ref (ad 128), .ref (ad 129), .ref (ad 130), .ref (ad 131), .ref (ad 132), .int (F 32), .ref (ad 134)]) := by rw [eG_40]; exact va_up_self _ _ _
          have hMc : ModelAt y Ls ad G_40 (va_up F 0 0) A := (ModelAt_w hM (eM.trans (by rw [← h14]; rfl)) (fun k hk => Or.inl ⟨by rw [eG_40, va_up_ne _ _ (by omega)], rfl⟩))
          have hfrc : ∀ j, (j < 100 ∨ 134 < j) → G_40 j = G j := (fun j h9 => by rw [eG_40, va_up_ne _ _ (by omega)])
          refine lv_aload_n hx hb dX8_unit_43 rfl (lv_at hl 0 rfl) ?_
          refine pv_get (ci := 10) (C := RX8) (T := TX8) (N := 34) hx hb hts hinX8 hown hK hP hM.1 eM rfl 0 (by decide) (hts (.fieldLink RX8 86 "StorageChargeModel" "code" "I") (by decide +kernel)) (fun _ h9 => h9) rfl dX8_unit_44 ?_
          refine lv_if_le (tgt := 52) hx hb dX8_unit_47 (by decide) (fun c_47 => ?_) (fun c_47 => ?_)
          · refine lv_aload_n hx hb dX8_unit_52 rfl (lv_at hl 0 rfl) ?_
            refine pv_get (ci := 10) (C := RX8) (T := TX8) (N := 34) hx hb hts hinX8 hown hK hP hM.1 eM rfl 15 (by decide) (hts (.fieldLink RX8 37 "StorageChargeModel" "unitOwner" "[I") (by decide +kernel)) (fun _ h9 => h9) rfl dX8_unit_53 ?_
            refine lv_aload_n hx hb dX8_unit_56 rfl (lv_at hl 0 rfl) ?_
            refine pv_get (ci := 10) (C := RX8) (T := TX8) (N := 34) hx hb hts hinX8 hown hK hP hM.1 eM rfl 14 (by decide) (hts (.fieldLink RX8 134 "StorageChargeModel" "units" "I") (by decide +kernel)) (fun _ h9 => h9) rfl dX8_unit_57 ?_
            refine lv_iload_n hx hb dX8_unit_60 rfl (lv_at hl 1 rfl) ?_
            refine pv_iast hx hb hK hP hD hS j15 0 a15 rfl (k := nu) rfl (by omega) (by decide) dX8_unit_61 (fun H locs hP hD hS => ?_)
            obtain ⟨G_61, eG_61⟩ : ∃ gg9 : Nat → va_E, gg9 = va_up G_40 116 (.inl (y 0, 24, .inl (upd (A 15) nu o))) := ⟨_, rfl⟩
            have hP : va_P D vwCl (wl Ls ad G_61) H := by rw [eG_61]; exact hP
            have hD : va_D (fun q => b0 ≤ q) (wl Ls ad G_61) := by rw [eG_61]; exact hD
            have eM : G_61 100 = .inr (10, [.int 0, .int (F 1), .ref (ad 103), .int (F 3), .ref (ad 105), .ref (ad 106), .ref (ad 107), .ref (ad 108), .int (F 8), .ref (ad 110), .ref (ad 111), .ref (ad 112), .ref (ad 113), .int (F 13), .int (nI nu), .ref (ad 116), .ref (ad 117), .ref (ad 118), .ref (ad 119), .ref (ad 120), .ref (ad 121), .int (F 21), .ref (ad 123), .ref (ad 124), .ref (ad 125), .ref (ad 126), .int (F 26), .ref (ad 128), .ref (ad 129), .ref (ad 130), .ref (ad 131), .ref (ad 132), .int (F 32), .ref (ad 134)]) := by rw [eG_61, va_up_ne _ _ (by omega)]; exact eM
            have a16 : G_61 117 = .inl (y 0, 24, .inl (A 16)) := by rw [eG_61, va_up_ne _ _ (by omega)]; exact a16
            have a17 : G_61 118 = .inl (y 0, 24, .inl (A 17)) := by rw [eG_61, va_up_ne _ _ (by omega)]; exact a17
            have a18 : G_61 119 = .inl (y 0, 24, .inl (A 18)) := by rw [eG_61, va_up_ne _ _ (by omega)]; exact a18
            have a19 : G_61 120 = .inl (y 0, 216, .inl (A 19)) := by rw [eG_61, va_up_ne _ _ (by omega)]; exact a19
            have a20 : G_61 121 = .inl (y 0, 216, .inl (A 20)) := by rw [eG_61, va_up_ne _ _ (by omega)]; exact a20
            have a15 : G_61 116 = .inl (y 0, 24, .inl (upd (A 15) nu o)) := by rw [eG_61]; exact va_up_self _ _ _
            refine lv_aload_n hx hb dX8_unit_62 rfl (lv_at hl 0 rfl) ?_
            refine pv_get (ci := 10) (C := RX8) (T := TX8) (N := 34) hx hb hts hinX8 hown hK hP hM.1 eM rfl 16 (by decide) (hts (.fieldLink RX8 40 "StorageChargeModel" "from" "[I") (by decide +kernel)) (fun _ h9 => h9) rfl dX8_unit_63 ?_
            refine lv_aload_n hx hb dX8_unit_66 rfl (lv_at hl 0 rfl) ?_
            refine pv_get (ci := 10) (C := RX8) (T := TX8) (N := 34) hx hb hts hinX8 hown hK hP hM.1 eM rfl 14 (by decide) (hts (.fieldLink RX8 134 "StorageChargeModel" "units" "I") (by decide +kernel)) (fun _ h9 => h9) rfl dX8_unit_67 ?_
            refine lv_iload_n hx hb dX8_unit_70 rfl (lv_at hl 3 rfl) ?_
            refine pv_iast hx hb hK hP hD hS j16 0 a16 rfl (k := nu) rfl (by omega) (by decide) dX8_unit_71 (fun H locs hP hD hS => ?_)
            obtain ⟨G_71, eG_71⟩ : ∃ gg9 : Nat → va_E, gg9 = va_up G_61 117 (.inl (y 0, 24, .inl (upd (A 16) nu da))) := ⟨_, rfl⟩
            have hP : va_P D vwCl (wl Ls ad G_71) H := by rw [eG_71]; exact hP
            have hD : va_D (fun q => b0 ≤ q) (wl Ls ad G_71) := by rw [eG_71]; exact hD
            have eM : G_71 100 = .inr (10, [.int 0, .int (F 1), .ref (ad 103), .int (F 3), .ref (ad 105), .ref (ad 106), .ref (ad 107), .ref (ad 108), .int (F 8), .ref (ad 110), .ref (ad 111), .ref (ad 112), .ref (ad 113), .int (F 13), .int (nI nu), .ref (ad 116), .ref (ad 117), .ref (ad 118), .ref (ad 119), .ref (ad 120), .ref (ad 121), .int (F 21), .ref (ad 123), .ref (ad 124), .ref (ad 125), .ref (ad 126), .int (F 26), .ref (ad 128), .ref (ad 129), .ref (ad 130), .ref (ad 131), .ref (ad 132), .int (F 32), .ref (ad 134)]) := by rw [eG_71, va_up_ne _ _ (by omega)]; exact eM
            have a15 : G_71 116 = .inl (y 0, 24, .inl (upd (A 15) nu o)) := by rw [eG_71, va_up_ne _ _ (by omega)]; exact a15
            have a17 : G_71 118 = .inl (y 0, 24, .inl (A 17)) := by rw [eG_71, va_up_ne _ _ (by omega)]; exact a17
            have a18 : G_71 119 = .inl (y 0, 24, .inl (A 18)) := by rw [eG_71, va_up_ne _ _ (by omega)]; exact a18
            have a19 : G_71 120 = .inl (y 0, 216, .inl (A 19)) := by rw [eG_71, va_up_ne _ _ (by omega)]; exact a19
            have a20 : G_71 121 = .inl (y 0, 216, .inl (A 20)) := by rw [eG_71, va_up_ne _ _ (by omega)]; exact a20
            have a16 : G_71 117 = .inl (y 0, 24, .inl (upd (A 16) nu da)) := by rw [eG_71]; exact va_up_self _ _ _
            refine lv_aload_n hx hb dX8_unit_72 rfl (lv_at hl 0 rfl) ?_
            refine pv_get (ci := 10) (C := RX8) (T := TX8) (N := 34) hx hb hts hinX8 hown hK hP hM.1 eM rfl 17 (by decide) (hts (.fieldLink RX8 43 "StorageChargeModel" "to" "[I") (by decide +kernel)) (fun _ h9 => h9) rfl dX8_unit_73 ?_
            refine lv_aload_n hx hb dX8_unit_76 rfl (lv_at hl 0 rfl) ?_
            refine pv_get (ci := 10) (C := RX8) (T := TX8) (N := 34) hx hb hts hinX8 hown hK hP hM.1 eM rfl 14 (by decide) (hts (.fieldLink RX8 134 "StorageChargeModel" "units" "I") (by decide +kernel)) (fun _ h9 => h9) rfl dX8_unit_77 ?_
            refine lv_ldc (v := 100000) hx hb hown (hts (.constant RX8 137 (100000)) (by decide +kernel)) dX8_unit_80 ?_
            refine pv_iast hx hb hK hP hD hS j17 0 a17 rfl (k := nu) rfl (by omega) (by decide) dX8_unit_82 (fun H locs hP hD hS => ?_)
            obtain ⟨G_82, eG_82⟩ : ∃ gg9 : Nat → va_E, gg9 = va_up G_71 118 (.inl (y 0, 24, .inl (upd (A 17) nu 100000))) := ⟨_, rfl⟩
            have hP : va_P D vwCl (wl Ls ad G_82) H := by rw [eG_82]; exact hP
            have hD : va_D (fun q => b0 ≤ q) (wl Ls ad G_82) := by rw [eG_82]; exact hD
            have eM : G_82 100 = .inr (10, [.int 0, .int (F 1), .ref (ad 103), .int (F 3), .ref (ad 105), .ref (ad 106), .ref (ad 107), .ref (ad 108), .int (F 8), .ref (ad 110), .ref (ad 111), .ref (ad 112), .ref (ad 113), .int (F 13), .int (nI nu), .ref (ad 116), .ref (ad 117), .ref (ad 118), .ref (ad 119), .ref (ad 120), .ref (ad 121), .int (F 21), .ref (ad 123), .ref (ad 124), .ref (ad 125), .ref (ad 126), .int (F 26), .ref (ad 128), .ref (ad 129), .ref (ad 130), .ref (ad 131), .ref (ad 132), .int (F 32), .ref (ad 134)]) := by rw [eG_82, va_up_ne _ _ (by omega)]; exact eM
            have a15 : G_82 116 = .inl (y 0, 24, .inl (upd (A 15) nu o)) := by rw [eG_82, va_up_ne _ _ (by omega)]; exact a15
            have a16 : G_82 117 = .inl (y 0, 24, .inl (upd (A 16) nu da)) := by rw [eG_82, va_up_ne _ _ (by omega)]; exact a16
            have a18 : G_82 119 = .inl (y 0, 24, .inl (A 18)) := by rw [eG_82, va_up_ne _ _ (by omega)]; exact a18
            have a19 : G_82 120 = .inl (y 0, 216, .inl (A 19)) := by rw [eG_82, va_up_ne _ _ (by omega)]; exact a19
            have a20 : G_82 121 = .inl (y 0, 216, .inl (A 20)) := by rw [eG_82, va_up_ne _ _ (by omega)]; exact a20
            have a17 : G_82 118 = .inl (y 0, 24, .inl (upd (A 17) nu 100000)) := by rw [eG_82]; exact va_up_self _ _ _
            refine lv_aload_n hx hb dX8_unit_83 rfl (lv_at hl 0 rfl) ?_
            refine pv_get (ci := 10) (C := RX8) (T := TX8) (N := 34) hx hb hts hinX8 hown hK hP hM.1 eM rfl 18 (by decide) (hts (.fieldLink RX8 46 "StorageChargeModel" "told" "[I") (by decide +kernel)) (fun _ h9 => h9) rfl dX8_unit_84 ?_
            refine lv_aload_n hx hb dX8_unit_87 rfl (lv_at hl 0 rfl) ?_
            refine pv_get (ci := 10) (C := RX8) (T := TX8) (N := 34) hx hb hts hinX8 hown hK hP hM.1 eM rfl 14 (by decide) (hts (.fieldLink RX8 134 "StorageChargeModel" "units" "I") (by decide +kernel)) (fun _ h9 => h9) rfl dX8_unit_88 ?_
            refine lv_iconst (v := 1) hx hb dX8_unit_91 (by decide) ?_
            refine pv_iast hx hb hK hP hD hS j18 0 a18 rfl (k := nu) rfl (by omega) (by decide) dX8_unit_92 (fun H locs hP hD hS => ?_)
            obtain ⟨G_92, eG_92⟩ : ∃ gg9 : Nat → va_E, gg9 = va_up G_82 119 (.inl (y 0, 24, .inl (upd (A 18) nu 1))) := ⟨_, rfl⟩
            have hP : va_P D vwCl (wl Ls ad G_92) H := by rw [eG_92]; exact hP
            have hD : va_D (fun q => b0 ≤ q) (wl Ls ad G_92) := by rw [eG_92]; exact hD
            have eM : G_92 100 = .inr (10, [.int 0, .int (F 1), .ref (ad 103), .int (F 3), .ref (ad 105), .ref (ad 106), .ref (ad 107), .ref (ad 108), .int (F 8), .ref (ad 110), .ref (ad 111), .ref (ad 112), .ref (ad 113), .int (F 13), .int (nI nu), .ref (ad 116), .ref (ad 117), .ref (ad 118), .ref (ad 119), .ref (ad 120), .ref (ad 121), .int (F 21), .ref (ad 123), .ref (ad 124), .ref (ad 125), .ref (ad 126), .int (F 26), .ref (ad 128), .ref (ad 129), .ref (ad 130), .ref (ad 131), .ref (ad 132), .int (F 32), .ref (ad 134)]) := by rw [eG_92, va_up_ne _ _ (by omega)]; exact eM
            have a15 : G_92 116 = .inl (y 0, 24, .inl (upd (A 15) nu o)) := by rw [eG_92, va_up_ne _ _ (by omega)]; exact a15
            have a16 : G_92 117 = .inl (y 0, 24, .inl (upd (A 16) nu da)) := by rw [eG_92, va_up_ne _ _ (by omega)]; exact a16
            have a17 : G_92 118 = .inl (y 0, 24, .inl (upd (A 17) nu 100000)) := by rw [eG_92, va_up_ne _ _ (by omega)]; exact a17
            have a19 : G_92 120 = .inl (y 0, 216, .inl (A 19)) := by rw [eG_92, va_up_ne _ _ (by omega)]; exact a19
            have a20 : G_92 121 = .inl (y 0, 216, .inl (A 20)) := by rw [eG_92, va_up_ne _ _ (by omega)]; exact a20
            have a18 : G_92 119 = .inl (y 0, 24, .inl (upd (A 18) nu 1)) := by rw [eG_92]; exact va_up_self _ _ _
            refine lv_aload_n hx hb dX8_unit_93 rfl (lv_at hl 0 rfl) ?_
            refine pv_get (ci := 10) (C := RX8) (T := TX8) (N := 34) hx hb hts hinX8 hown hK hP hM.1 eM rfl 19 (by decide) (hts (.fieldLink RX8 49 "StorageChargeModel" "toldDay" "[I") (by decide +kernel)) (fun _ h9 => h9) rfl dX8_unit_94 ?_
            refine lv_bipush (v := 9) hx hb dX8_unit_97 (by decide) ?_
            refine lv_aload_n hx hb dX8_unit_99 rfl (lv_at hl 0 rfl) ?_
            refine pv_get (ci := 10) (C := RX8) (T := TX8) (N := 34) hx hb hts hinX8 hown hK hP hM.1 eM rfl 14 (by decide) (hts (.fieldLink RX8 134 "StorageChargeModel" "units" "I") (by decide +kernel)) (fun _ h9 => h9) rfl dX8_unit_100 ?_
            refine lv_imul hx hb dX8_unit_103 ?_
            refine lv_iload_n hx hb dX8_unit_104 rfl (lv_at hl 3 rfl) ?_
            refine pv_iast hx hb hK hP hD hS j19 0 a19 rfl (k := 9 * nu) (pk_mul 9 nu) (by omega) (by decide) dX8_unit_105 (fun H locs hP hD hS => ?_)
            obtain ⟨G_105, eG_105⟩ : ∃ gg9 : Nat → va_E, gg9 = va_up G_92 120 (.inl (y 0, 216, .inl (upd (A 19) (9 * nu) da))) := ⟨_, rfl⟩
            have hP : va_P D vwCl (wl Ls ad G_105) H := by rw [eG_105]; exact hP
            have hD : va_D (fun q => b0 ≤ q) (wl Ls ad G_105) := by rw [eG_105]; exact hD
            have eM : G_105 100 = .inr (10, [.int 0, .int (F 1), .ref (ad 103), .int (F 3), .ref (ad 105), .ref (ad 106), .ref (ad 107), .ref (ad 108), .int (F 8), .ref (ad 110), .ref (ad 111), .ref (ad 112), .ref (ad 113), .int (F 13), .int (nI nu), .ref (ad 116), .ref (ad 117), .ref (ad 118), .ref (ad 119), .ref (ad 120), .ref (ad 121), .int (F 21), .ref (ad 123), .ref (ad 124), .ref (ad 125), .ref (ad 126), .int (F 26), .ref (ad 128), .ref (ad 129), .ref (ad 130), .ref (ad 131), .ref (ad 132), .int (F 32), .ref (ad 134)]) := by rw [eG_105, va_up_ne _ _ (by omega)]; exact eM
            have a15 : G_105 116 = .inl (y 0, 24, .inl (upd (A 15) nu o)) := by rw [eG_105, va_up_ne _ _ (by omega)]; exact a15
            have a16 : G_105 117 = .inl (y 0, 24, .inl (upd (A 16) nu da)) := by rw [eG_105, va_up_ne _ _ (by omega)]; exact a16
            have a17 : G_105 118 = .inl (y 0, 24, .inl (upd (A 17) nu 100000)) := by rw [eG_105, va_up_ne _ _ (by omega)]; exact a17
            have a18 : G_105 119 = .inl (y 0, 24, .inl (upd (A 18) nu 1)) := by rw [eG_105, va_up_ne _ _ (by omega)]; exact a18
            have a20 : G_105 121 = .inl (y 0, 216, .inl (A 20)) := by rw [eG_105, va_up_ne _ _ (by omega)]; exact a20
            have a19 : G_105 120 = .inl (y 0, 216, .inl (upd (A 19) (9 * nu) da)) := by rw [eG_105]; exact va_up_self _ _ _
            refine lv_aload_n hx hb dX8_unit_106 rfl (lv_at hl 0 rfl) ?_
            refine pv_get (ci := 10) (C := RX8) (T := TX8) (N := 34) hx hb hts hinX8 hown hK hP hM.1 eM rfl 20 (by decide) (hts (.fieldLink RX8 52 "StorageChargeModel" "toldKind" "[I") (by decide +kernel)) (fun _ h9 => h9) rfl dX8_unit_107 ?_
            refine lv_bipush (v := 9) hx hb dX8_unit_110 (by decide) ?_
            refine lv_aload_n hx hb dX8_unit_112 rfl (lv_at hl 0 rfl) ?_
            refine pv_get (ci := 10) (C := RX8) (T := TX8) (N := 34) hx hb hts hinX8 hown hK hP hM.1 eM rfl 14 (by decide) (hts (.fieldLink RX8 134 "StorageChargeModel" "units" "I") (by decide +kernel)) (fun _ h9 => h9) rfl dX8_unit_113 ?_
            refine lv_imul hx hb dX8_unit_116 ?_
            refine lv_iload_n hx hb dX8_unit_117 rfl (lv_at hl 2 rfl) ?_
            refine pv_iast hx hb hK hP hD hS j20 0 a20 rfl (k := 9 * nu) (pk_mul 9 nu) (by omega) (by decide) dX8_unit_118 (fun H locs hP hD hS => ?_)
            obtain ⟨G_118, eG_118⟩ : ∃ gg9 : Nat → va_E, gg9 = va_up G_105 121 (.inl (y 0, 216, .inl (upd (A 20) (9 * nu) kd))) := ⟨_, rfl⟩
            have hP : va_P D vwCl (wl Ls ad G_118) H := by rw [eG_118]; exact hP
            have hD : va_D (fun q => b0 ≤ q) (wl Ls ad G_118) := by rw [eG_118]; exact hD
            have eM : G_118 100 = .inr (10, [.int 0, .int (F 1), .ref (ad 103), .int (F 3), .ref (ad 105), .ref (ad 106), .ref (ad 107), .ref (ad 108), .int (F 8), .ref (ad 110), .ref (ad 111), .ref (ad 112), .ref (ad 113), .int (F 13), .int (nI nu), .ref (ad 116), .ref (ad 117), .ref (ad 118), .ref (ad 119), .ref (ad 120), .ref (ad 121), .int (F 21), .ref (ad 123), .ref (ad 124), .ref (ad 125), .ref (ad 126), .int (F 26), .ref (ad 128), .ref (ad 129), .ref (ad 130), .ref (ad 131), .ref (ad 132), .int (F 32), .ref (ad 134)]) := by rw [eG_118, va_up_ne _ _ (by omega)]; exact eM
            have a15 : G_118 116 = .inl (y 0, 24, .inl (upd (A 15) nu o)) := by rw [eG_118, va_up_ne _ _ (by omega)]; exact a15
            have a16 : G_118 117 = .inl (y 0, 24, .inl (upd (A 16) nu da)) := by rw [eG_118, va_up_ne _ _ (by omega)]; exact a16
            have a17 : G_118 118 = .inl (y 0, 24, .inl (upd (A 17) nu 100000)) := by rw [eG_118, va_up_ne _ _ (by omega)]; exact a17
            have a18 : G_118 119 = .inl (y 0, 24, .inl (upd (A 18) nu 1)) := by rw [eG_118, va_up_ne _ _ (by omega)]; exact a18
            have a19 : G_118 120 = .inl (y 0, 216, .inl (upd (A 19) (9 * nu) da)) := by rw [eG_118, va_up_ne _ _ (by omega)]; exact a19
            have a20 : G_118 121 = .inl (y 0, 216, .inl (upd (A 20) (9 * nu) kd)) := by rw [eG_118]; exact va_up_self _ _ _
            refine lv_aload_n hx hb dX8_unit_119 rfl (lv_at hl 0 rfl) ?_
            refine lv_dup hx hb dX8_unit_120 rfl ?_
            refine pv_get (ci := 10) (C := RX8) (T := TX8) (N := 34) hx hb hts hinX8 hown hK hP hM.1 eM rfl 14 (by decide) (hts (.fieldLink RX8 134 "StorageChargeModel" "units" "I") (by decide +kernel)) (fun _ h9 => h9) rfl dX8_unit_121 ?_
            refine lv_iconst (v := 1) hx hb dX8_unit_124 (by decide) ?_
            refine lv_iadd hx hb dX8_unit_125 ?_
            refine lv_topi (fun z9 ez9 => ?_)
            obtain rfl : z9 = nI (nu + 1) := ez9.trans (nI_1 nu)
            refine pv_put (ci := 10) (v := .int (nI (nu + 1))) (ty := .int) (C := RX8) (T := TX8) (N := 34) hx hb hts hinX8 tyX8 tyX8_ok nmX8 hown hK hP hD hS hM.1 eM rfl 14 (by decide) (hts (.fieldLink RX8 134 "StorageChargeModel" "units" "I") (by decide +kernel)) (fun _ h9 => h9) rfl (by decide +kernel) rfl rfl (Nat.le_of_ble_eq_true rfl) dX8_unit_126 (fun H locs hP hD hS => ?_)
            obtain ⟨G_126, eG_126⟩ : ∃ gg9 : Nat → va_E, gg9 = va_up G_118 100 (.inr (10, [.int 0, .int (F 1), .ref (ad 103), .int (F 3), .ref (ad 105), .ref (ad 106), .ref (ad 107), .ref (ad 108), .int (F 8), .ref (ad 110), .ref (ad 111), .ref (ad 112), .ref (ad 113), .int (F 13), .int (nI (nu + 1)), .ref (ad 116), .ref (ad 117), .ref (ad 118), .ref (ad 119), .ref (ad 120), .ref (ad 121), .int (F 21), .ref (ad 123), .ref (ad 124), .ref (ad 125), .ref (ad 126), .int (F 26), .ref (ad 128), .ref (ad 129), .ref (ad 130), .ref (ad 131), .ref (ad 132), .int (F 32), .ref (ad 134)])) := ⟨_, rfl⟩
            have hP : va_P D vwCl (wl Ls ad G_126) H := by rw [eG_126]; exact hP
            have hD : va_D (fun q => b0 ≤ q) (wl Ls ad G_126) := by rw [eG_126]; exact hD
            have a15 : G_126 116 = .inl (y 0, 24, .inl (upd (A 15) nu o)) := by rw [eG_126, va_up_ne _ _ (by omega)]; exact a15
            have a16 : G_126 117 = .inl (y 0, 24, .inl (upd (A 16) nu da)) := by rw [eG_126, va_up_ne _ _ (by omega)]; exact a16
            have a17 : G_126 118 = .inl (y 0, 24, .inl (upd (A 17) nu 100000)) := by rw [eG_126, va_up_ne _ _ (by omega)]; exact a17
            have a18 : G_126 119 = .inl (y 0, 24, .inl (upd (A 18) nu 1)) := by rw [eG_126, va_up_ne _ _ (by omega)]; exact a18
            have a19 : G_126 120 = .inl (y 0, 216, .inl (upd (A 19) (9 * nu) da)) := by rw [eG_126, va_up_ne _ _ (by omega)]; exact a19
            have a20 : G_126 121 = .inl (y 0, 216, .inl (upd (A 20) (9 * nu) kd)) := by rw [eG_126, va_up_ne _ _ (by omega)]; exact a20
            have eM : G_126 100 = .inr (10, [.int 0, .int (F 1), .ref (ad 103), .int (F 3), .ref (ad 105), .ref (ad 106), .ref (ad 107), .ref (ad 108), .int (F 8), .ref (ad 110), .ref (ad 111), .ref (ad 112), .ref (ad 113), .int (F 13), .int (nI (nu + 1)), .ref (ad 116), .ref (ad 117), .ref (ad 118), .ref (ad 119), .ref (ad 120), .ref (ad 121), .int (F 21), .ref (ad 123), .ref (ad 124), .ref (ad 125), .ref (ad 126), .int (F 26), .ref (ad 128), .ref (ad 129), .ref (ad 130), .ref (ad 131), .ref (ad 132), .int (F 32), .ref (ad 134)]) := by rw [eG_126]; exact va_up_self _ _ _
            refine lv_aload_n hx hb dX8_unit_129 rfl (lv_at hl 0 rfl) ?_
            refine pv_get (ci := 10) (C := RX8) (T := TX8) (N := 34) hx hb hts hinX8 hown hK hP hM.1 eM rfl 14 (by decide) (hts (.fieldLink RX8 134 "StorageChargeModel" "units" "I") (by decide +kernel)) (fun _ h9 => h9) rfl dX8_unit_130 ?_
            refine lv_iconst (v := 1) hx hb dX8_unit_133 (by decide) ?_
            refine lv_isub hx hb dX8_unit_134 ?_
            refine W.widen (k := 0) (n := 0) (Nat.le_of_ble_eq_true rfl) (Nat.le_of_ble_eq_true rfl) ?_
            exact W.iret (v := ((nI (nu + 1)) - 1)) hx hb hr (fun t ht hW => ⟨⟨((nI (nu + 1)) - 1), wl Ls ad G_126, rfl, Or.inr (Or.inr ⟨⟨(Decidable.byContradiction fun h => c_5 (by rw [hr_2]; exact wI_eq0.mpr h)), (Decidable.byContradiction fun h => c_12 (by rw [hr_9]; exact wI_eq0.mpr h)), (Decidable.byContradiction fun h => c_19 (by rw [hr_16]; exact wI_eq0.mpr h))⟩, hlt, nI_pred nu, _, rfl, (ModelAt_w hM (eM) (fun k hk => if h159 : k = 15 then Or.inr (by subst h159; exact a15) else (if h169 : k = 16 then Or.inr (by subst h169; exact a16) else (if h179 : k = 17 then Or.inr (by subst h179; exact a17) else (if h189 : k = 18 then Or.inr (by subst h189; exact a18) else (if h199 : k = 19 then Or.inr (by subst h199; exact a19) else (if h209 : k = 20 then Or.inr (by subst h209; exact a20) else (Or.inl ⟨by rw [eG_126, va_up_ne _ _ (by omega), eG_118, va_up_ne _ _ (by omega), eG_105, va_up_ne _ _ (by omega), eG_92, va_up_ne _ _ (by omega), eG_82, va_up_ne _ _ (by omega), eG_71, va_up_ne _ _ (by omega), eG_61, va_up_ne _ _ (by omega), eG_40, va_up_ne _ _ (by omega)], by rw [va_up_ne _ _ h209, va_up_ne _ _ h199, va_up_ne _ _ h189, va_up_ne _ _ h179, va_up_ne _ _ h169, va_up_ne _ _ h159]⟩)))))))), (fun j h9 => by rw [eG_126, va_up_ne _ _ (by omega), eG_118, va_up_ne _ _ (by omega), eG_105, va_up_ne _ _ (by omega), eG_92, va_up_ne _ _ (by omega), eG_82, va_up_ne _ _ (by omega), eG_71, va_up_ne _ _ (by omega), eG_61, va_up_ne _ _ (by omega), eG_40, va_up_ne _ _ (by omega)])⟩), by rw [ht]; exact hP, hD⟩, hS.F ht⟩) hS.2.2 dX8_unit_135
          · exact absurd (by decide) c_47
        · have h24 : nu = 24 := (nI_eq (by omega) (by decide)).mp (show nI nu = nI 24 from c_32)
          refine lv_iconst (v := 2) hx hb dX8_unit_35 (by decide) ?_
          refine lv_goto (tgt := 40) hx hb dX8_unit_36 (by decide) ?_
          refine pv_put (ci := 10) (v := .int 2) (ty := .int) (C := RX8) (T := TX8) (N := 34) hx hb hts hinX8 tyX8 tyX8_ok nmX8 hown hK hP hD hS hM.1 eM rfl 0 (by decide) (hts (.fieldLink RX8 86 "StorageChargeModel" "code" "I") (by decide +kernel)) (fun _ h9 => h9) rfl (by decide +kernel) rfl rfl (Nat.le_of_ble_eq_true rfl) dX8_unit_40 (fun H locs hP hD hS => ?_)
          obtain ⟨G_40, eG_40⟩ : ∃ gg9 : Nat → va_E, gg9 = va_up G 100 (.inr (10, [.int 2, .int (F 1), .ref (ad 103), .int (F 3), .ref (ad 105), .ref (ad 106), .ref (ad 107), .ref (ad 108), .int (F 8), .ref (ad 110), .ref (ad 111), .ref (ad 112), .ref (ad 113), .int (F 13), .int (nI nu), .ref (ad 116), .ref (ad 117), .ref (ad 118), .ref (ad 119), .ref (ad 120), .ref (ad 121), .int (F 21), .ref (ad 123), .ref (ad 124), .ref (ad 125), .ref (ad 126), .int (F 26), .ref (ad 128), .ref (ad 129), .ref (ad 130), .ref (ad 131), .ref (ad 132), .int (F 32), .ref (ad 134)])) := ⟨_, rfl⟩
          have hP : va_P D vwCl (wl Ls ad G_40) H := by rw [eG_40]; exact hP
          have hD : va_D (fun q => b0 ≤ q) (wl Ls ad G_40) := by rw [eG_40]; exact hD
          have a15 : G_40 116 = .inl (y 0, 24, .inl (A 15)) := by rw [eG_40, va_up_ne _ _ (by omega)]; exact a15
          have a16 : G_40 117 = .inl (y 0, 24, .inl (A 16)) := by rw [eG_40, va_up_ne _ _ (by omega)]; exact a16
          have a17 : G_40 118 = .inl (y 0, 24, .inl (A 17)) := by rw [eG_40, va_up_ne _ _ (by omega)]; exact a17
          have a18 : G_40 119 = .inl (y 0, 24, .inl (A 18)) := by rw [eG_40, va_up_ne _ _ (by omega)]; exact a18
          have a19 : G_40 120 = .inl (y 0, 216, .inl (A 19)) := by rw [eG_40, va_up_ne _ _ (by omega)]; exact a19
          have a20 : G_40 121 = .inl (y 0, 216, .inl (A 20)) := by rw [eG_40, va_up_ne _ _ (by omega)]; exact a20
          have eM : G_40 100 = .inr (10, [.int 2, .int (F 1), .ref (ad 103), .int (F 3), .ref (ad 105), .ref (ad 106), .ref (ad 107), .ref (ad 108), .int (F 8), .ref (ad 110), .ref (ad 111), .ref (ad 112), .ref (ad 113), .int (F 13), .int (nI nu), .ref (ad 116), .ref (ad 117), .ref (ad 118), .ref (ad 119), .ref (ad 120), .ref (ad 121), .int (F 21), .ref (ad 123), .ref (ad 124), .ref (ad 125), .ref (ad 126), .int (F 26), .ref (ad 128), .ref (ad 129), .ref (ad 130), .ref (ad 131), .ref (ad 132), .int (F 32), .ref (ad 134)]) := by rw [eG_40]; exact va_up_self _ _ _
          have hMc : ModelAt y Ls ad G_40 (va_up F 0 2) A := (ModelAt_w hM (eM.trans (by rw [← h14]; rfl)) (fun k hk => Or.inl ⟨by rw [eG_40, va_up_ne _ _ (by omega)], rfl⟩))
          have hfrc : ∀ j, (j < 100 ∨ 134 < j) → G_40 j = G j := (fun j h9 => by rw [eG_40, va_up_ne _ _ (by omega)])
          refine lv_aload_n hx hb dX8_unit_43 rfl (lv_at hl 0 rfl) ?_
          refine pv_get (ci := 10) (C := RX8) (T := TX8) (N := 34) hx hb hts hinX8 hown hK hP hM.1 eM rfl 0 (by decide) (hts (.fieldLink RX8 86 "StorageChargeModel" "code" "I") (by decide +kernel)) (fun _ h9 => h9) rfl dX8_unit_44 ?_
          refine lv_if_le (tgt := 52) hx hb dX8_unit_47 (by decide) (fun c_47 => ?_) (fun c_47 => ?_)
          · exact absurd c_47 (by decide)
          · refine lv_iconst (v := 0) hx hb dX8_unit_50 (by decide) ?_
            refine W.widen (k := 0) (n := 0) (Nat.le_of_ble_eq_true rfl) (Nat.le_of_ble_eq_true rfl) ?_
            exact W.iret (v := 0) hx hb hr (fun t ht hW => ⟨⟨0, wl Ls ad G_40, rfl, Or.inr (Or.inl ⟨⟨(Decidable.byContradiction fun h => c_5 (by rw [hr_2]; exact wI_eq0.mpr h)), (Decidable.byContradiction fun h => c_12 (by rw [hr_9]; exact wI_eq0.mpr h)), (Decidable.byContradiction fun h => c_19 (by rw [hr_16]; exact wI_eq0.mpr h))⟩, h24, _, rfl, hMc, hfrc⟩), by rw [ht]; exact hP, hD⟩, hS.F ht⟩) hS.2.2 dX8_unit_51
      · refine lv_iconst (v := 1) hx hb dX8_unit_22 (by decide) ?_
        refine lv_goto (tgt := 40) hx hb dX8_unit_23 (by decide) ?_
        refine pv_put (ci := 10) (v := .int 1) (ty := .int) (C := RX8) (T := TX8) (N := 34) hx hb hts hinX8 tyX8 tyX8_ok nmX8 hown hK hP hD hS hM.1 eM rfl 0 (by decide) (hts (.fieldLink RX8 86 "StorageChargeModel" "code" "I") (by decide +kernel)) (fun _ h9 => h9) rfl (by decide +kernel) rfl rfl (Nat.le_of_ble_eq_true rfl) dX8_unit_40 (fun H locs hP hD hS => ?_)
        obtain ⟨G_40, eG_40⟩ : ∃ gg9 : Nat → va_E, gg9 = va_up G 100 (.inr (10, [.int 1, .int (F 1), .ref (ad 103), .int (F 3), .ref (ad 105), .ref (ad 106), .ref (ad 107), .ref (ad 108), .int (F 8), .ref (ad 110), .ref (ad 111), .ref (ad 112), .ref (ad 113), .int (F 13), .int (nI nu), .ref (ad 116), .ref (ad 117), .ref (ad 118), .ref (ad 119), .ref (ad 120), .ref (ad 121), .int (F 21), .ref (ad 123), .ref (ad 124), .ref (ad 125), .ref (ad 126), .int (F 26), .ref (ad 128), .ref (ad 129), .ref (ad 130), .ref (ad 131), .ref (ad 132), .int (F 32), .ref (ad 134)])) := ⟨_, rfl⟩
        have hP : va_P D vwCl (wl Ls ad G_40) H := by rw [eG_40]; exact hP
        have hD : va_D (fun q => b0 ≤ q) (wl Ls ad G_40) := by rw [eG_40]; exact hD
        have a15 : G_40 116 = .inl (y 0, 24, .inl (A 15)) := by rw [eG_40, va_up_ne _ _ (by omega)]; exact a15
        have a16 : G_40 117 = .inl (y 0, 24, .inl (A 16)) := by rw [eG_40, va_up_ne _ _ (by omega)]; exact a16
        have a17 : G_40 118 = .inl (y 0, 24, .inl (A 17)) := by rw [eG_40, va_up_ne _ _ (by omega)]; exact a17
        have a18 : G_40 119 = .inl (y 0, 24, .inl (A 18)) := by rw [eG_40, va_up_ne _ _ (by omega)]; exact a18
        have a19 : G_40 120 = .inl (y 0, 216, .inl (A 19)) := by rw [eG_40, va_up_ne _ _ (by omega)]; exact a19
        have a20 : G_40 121 = .inl (y 0, 216, .inl (A 20)) := by rw [eG_40, va_up_ne _ _ (by omega)]; exact a20
        have eM : G_40 100 = .inr (10, [.int 1, .int (F 1), .ref (ad 103), .int (F 3), .ref (ad 105), .ref (ad 106), .ref (ad 107), .ref (ad 108), .int (F 8), .ref (ad 110), .ref (ad 111), .ref (ad 112), .ref (ad 113), .int (F 13), .int (nI nu), .ref (ad 116), .ref (ad 117), .ref (ad 118), .ref (ad 119), .ref (ad 120), .ref (ad 121), .int (F 21), .ref (ad 123), .ref (ad 124), .ref (ad 125), .ref (ad 126), .int (F 26), .ref (ad 128), .ref (ad 129), .ref (ad 130), .ref (ad 131), .ref (ad 132), .int (F 32), .ref (ad 134)]) := by rw [eG_40]; exact va_up_self _ _ _
        have hMc : ModelAt y Ls ad G_40 (va_up F 0 1) A := (ModelAt_w hM (eM.trans (by rw [← h14]; rfl)) (fun k hk => Or.inl ⟨by rw [eG_40, va_up_ne _ _ (by omega)], rfl⟩))
        have hfrc : ∀ j, (j < 100 ∨ 134 < j) → G_40 j = G j := (fun j h9 => by rw [eG_40, va_up_ne _ _ (by omega)])
        refine lv_aload_n hx hb dX8_unit_43 rfl (lv_at hl 0 rfl) ?_
        refine pv_get (ci := 10) (C := RX8) (T := TX8) (N := 34) hx hb hts hinX8 hown hK hP hM.1 eM rfl 0 (by decide) (hts (.fieldLink RX8 86 "StorageChargeModel" "code" "I") (by decide +kernel)) (fun _ h9 => h9) rfl dX8_unit_44 ?_
        refine lv_if_le (tgt := 52) hx hb dX8_unit_47 (by decide) (fun c_47 => ?_) (fun c_47 => ?_)
        · exact absurd c_47 (by decide)
        · refine lv_iconst (v := 0) hx hb dX8_unit_50 (by decide) ?_
          refine W.widen (k := 0) (n := 0) (Nat.le_of_ble_eq_true rfl) (Nat.le_of_ble_eq_true rfl) ?_
          exact W.iret (v := 0) hx hb hr (fun t ht hW => ⟨⟨0, wl Ls ad G_40, rfl, (by first | exact Or.inl ⟨fun h => absurd h.1 (wI_eq0.mp (by rw [← hr_2]; exact c_5)), _, rfl, hMc, hfrc⟩ | exact Or.inl ⟨fun h => absurd h.2.1 (wI_eq0.mp (by rw [← hr_9]; exact c_12)), _, rfl, hMc, hfrc⟩ | exact Or.inl ⟨fun h => absurd h.2.2 (wI_eq0.mp (by rw [← hr_16]; exact c_19)), _, rfl, hMc, hfrc⟩), by rw [ht]; exact hP, hD⟩, hS.F ht⟩) hS.2.2 dX8_unit_51

set_option maxHeartbeats 4000000 in
set_option maxRecDepth 100000 in
/-- change -/
theorem c_X8_change (l : Launch) (hl0 : l.stackTraces = false) (D : va_G) (y : Nat → ClassId) (b0 : Nat) (Ls : List Nat) (ad : Nat → Nat) (G : Nat → va_E) (F : Nat → Int32) (A : Nat → Nat → Int32) (hM : ModelAt y Ls ad G F A) (nu : Nat) (h14 : F 14 = nI nu) (hnu : nu ≤ 24) (tn : Nat → Nat) (htn : ∀ u, u < nu → A 18 u = nI (tn u) ∧ 1 ≤ tn u ∧ tn u ≤ 9) (a0 kd da : Int32) : Met l yX8_change wsX8_change ({ frames := 2, cells := 0, slots := 0, locals := 43 }) (va_Pc [.ref (ad 100), .int a0, .int kd, .int da] (WdM D y b0 (wl Ls ad G))) (va_Qi (fun (r : Int32) (u : va_W) => (¬ inR a0 (nI nu - 1) ∧ ∃ G2, u = wl Ls ad G2 ∧ ModelAt y Ls ad G2 (va_up F 0 1) A ∧ (∀ j, (j < 100 ∨ 134 < j) → G2 j = G j)) ∨ (inR a0 (nI nu - 1) ∧ ¬ (inR kd 4 ∧ inR da 3599) ∧ ∃ G2, u = wl Ls ad G2 ∧ ModelAt y Ls ad G2 (va_up F 0 2) A ∧ (∀ j, (j < 100 ∨ 134 < j) → G2 j = G j)) ∨ (∃ i, i < nu ∧ a0 = nI i ∧ (inR kd 4 ∧ inR da 3599) ∧ (((¬ A 17 i = 100000 ∨ da < A 19 (9 * i + tn i - 1)) ∧ ∃ G2, u = wl Ls ad G2 ∧ ModelAt y Ls ad G2 (va_up F 0 3) A ∧ (∀ j, (j < 100 ∨ 134 < j) → G2 j = G j)) ∨ ((A 17 i = 100000 ∧ A 19 (9 * i + tn i - 1) ≤ da) ∧ tn i = 9 ∧ ∃ G2, u = wl Ls ad G2 ∧ ModelAt y Ls ad G2 (va_up F 0 4) A ∧ (∀ j, (j < 100 ∨ 134 < j) → G2 j = G j)) ∨ ((A 17 i = 100000 ∧ A 19 (9 * i + tn i - 1) ≤ da) ∧ tn i < 9 ∧ ((r = 0 ∧ A 20 (9 * i + tn i - 1) = kd) ∨ (r = 1 ∧ ¬ A 20 (9 * i + tn i - 1) = kd)) ∧ ∃ G2, u = wl Ls ad G2 ∧ ModelAt y Ls ad G2 (va_up F 0 0) (va_up (va_up (va_up A 18 (upd (A 18) i (nI (tn i + 1)))) 19 (upd (A 19) (9 * i + tn i) da)) 20 (upd (A 20) (9 * i + tn i) kd)) ∧ (∀ j, (j < 100 ∨ 134 < j) → G2 j = G j))))) (WB D b0) (fun q => b0 ≤ q)) 0 0 (fun q => b0 ≤ q) := by
  refine Met.ofW (cc := cX8_change) (maxL := 5) (ret := (some .boolean)) (by decide) rfl ?_
  intro p e s m args below meth c s₁ B hml hv
  obtain ⟨rfl, ⟨hP, hK, hN⟩, hD, hb0, hT⟩ := hv
  have hx := B.exec
  have hb := B.bytes
  have hr := B.returns
  have hts := atoms_spec (ws := wsX8_change) B.pre
  have hown : s.vm.findClass RX8 = some m.cls := findClass_of_methodNamed B.named
  have hlocks := B.notSynchronized
  have hS : va_S (fun q => b0 ≤ q) s.heap s.heap [] := va_S.rf
  have hinX8 : ∀ w ∈ wsX80, w ∈ wsX8_change := by decide +kernel
  have eM : G 100 = .inr (10, [.int (F 0), .int (F 1), .ref (ad 103), .int (F 3), .ref (ad 105), .ref (ad 106), .ref (ad 107), .ref (ad 108), .int (F 8), .ref (ad 110), .ref (ad 111), .ref (ad 112), .ref (ad 113), .int (F 13), .int (nI nu), .ref (ad 116), .ref (ad 117), .ref (ad 118), .ref (ad 119), .ref (ad 120), .ref (ad 121), .int (F 21), .ref (ad 123), .ref (ad 124), .ref (ad 125), .ref (ad 126), .int (F 26), .ref (ad 128), .ref (ad 129), .ref (ad 130), .ref (ad 131), .ref (ad 132), .int (F 32), .ref (ad 134)]) := hM.2.1.trans (by rw [mfs, h14])
  obtain ⟨j17, a17⟩ : 118 ∈ Ls ∧ G 118 = .inl (y 0, 24, .inl (A 17)) := hM.2.2 17 (by decide)
  obtain ⟨j18, a18⟩ : 119 ∈ Ls ∧ G 119 = .inl (y 0, 24, .inl (A 18)) := hM.2.2 18 (by decide)
  obtain ⟨j19, a19⟩ : 120 ∈ Ls ∧ G 120 = .inl (y 0, 216, .inl (A 19)) := hM.2.2 19 (by decide)
  obtain ⟨j20, a20⟩ : 121 ∈ Ls ∧ G 121 = .inl (y 0, 216, .inl (A 20)) := hM.2.2 20 (by decide)
  have hl := lv_entry ([.ref (ad 100), .int a0, .int kd, .int da]) (n := 5) (Nat.le_of_ble_eq_true rfl)
  rw [lg_entry_eq]
  generalize (lg_sl ([.ref (ad 100), .int a0, .int kd, .int da]) ++ List.replicate (5 - (lg_sl ([.ref (ad 100), .int a0, .int kd, .int da])).length) Slot.unset).toArray = ls at hl ⊢
  have hl : lv_has ls 5 [(0, .ref (ad 100)), (1, .int a0), (2, .int kd), (3, .int da)] := hl
  refine lv_aload_n hx hb dX8_change_0 rfl (lv_at hl 0 rfl) ?_
  refine lv_aload_n hx hb dX8_change_1 rfl (lv_at hl 0 rfl) ?_
  refine lv_iload_n hx hb dX8_change_2 rfl (lv_at hl 1 rfl) ?_
  refine vp_callSi (va_Run.run (va_runV (As := [.int a0]) (rest := [.ref (ad 100)]) ⟨hx, hb, hml, hown, hts⟩ (c_X8_isUnit l D y Ls ad G F A hM nu h14 a0) (cwV 1 hts gX8_change_X8_isUnit rfl rfl rfl (by decide +kernel) ⟨Nat.le_of_ble_eq_true rfl, Nat.le_of_ble_eq_true rfl⟩) ⟨Wd_blind, Wd_recv hK hP (ci := 10) rfl hM.1 eM, Wd_at hP hK hN⟩ rfl rfl hl.1 rfl (lv_room (Nat.le_of_ble_eq_true rfl)) dX8_change_3 ⟨(Nat.le_of_ble_eq_true rfl), (Nat.le_of_ble_eq_true rfl)⟩)) (fun r_3 hr_3 => ?_)
  refine lv_if_ne (tgt := 13) hx hb dX8_change_6 (by decide) (fun c_6 => ?_) (fun c_6 => ?_)
  · have hq9 : inR a0 (nI nu - 1) := (Decidable.byContradiction fun h => c_6 (by rw [hr_3]; exact wI_eq0.mpr h))
    obtain ⟨i, hi, rfl⟩ := in_len (by omega) hq9
    obtain ⟨ht9, ht1, ht2⟩ := htn i hi
    refine lv_iload_n hx hb dX8_change_13 rfl (lv_at hl 2 rfl) ?_
    refine vp_callSi (va_Run.run (va_runS (As := [.int kd]) (rest := [.ref (ad 100)]) ⟨hx, hb, hml, hown, hts⟩ (c_X8_isKind l kd) (va_cwS 1 hts gX8_change_X8_isKind rfl rfl rfl (by decide +kernel) ⟨Nat.le_of_ble_eq_true rfl, Nat.le_of_ble_eq_true rfl⟩) ⟨fun _ _ _ _ q => q, fun U hU hW => ⟨rfl, trivial⟩⟩ rfl rfl hl.1 rfl (lv_room (Nat.le_of_ble_eq_true rfl)) dX8_change_14 ⟨(Nat.le_of_ble_eq_true rfl), (Nat.le_of_ble_eq_true rfl)⟩)) (fun r_14 hr_14 => ?_)
    refine lv_if_eq (tgt := 27) hx hb dX8_change_17 (by decide) (fun c_17 => ?_) (fun c_17 => ?_)
    · refine lv_iconst (v := 2) hx hb dX8_change_27 (by decide) ?_
      refine lv_goto (tgt := 32) hx hb dX8_change_28 (by decide) ?_
      refine pv_put (ci := 10) (v := .int 2) (ty := .int) (C := RX8) (T := TX8) (N := 34) hx hb hts hinX8 tyX8 tyX8_ok nmX8 hown hK hP hD hS hM.1 eM rfl 0 (by decide) (hts (.fieldLink RX8 86 "StorageChargeModel" "code" "I") (by decide +kernel)) (fun _ h9 => h9) rfl (by decide +kernel) rfl rfl (Nat.le_of_ble_eq_true rfl) dX8_change_32 (fun H locs hP hD hS => ?_)
      obtain ⟨G_32, eG_32⟩ : ∃ gg9 : Nat → va_E, gg9 = va_up G 100 (.inr (10, [.int 2, .int (F 1), .ref (ad 103), .int (F 3), .ref (ad 105), .ref (ad 106), .ref (ad 107), .ref (ad 108), .int (F 8), .ref (ad 110), .ref (ad 111), .ref (ad 112), .ref (ad 113), .int (F 13), .int (nI nu), .ref (ad 116), .ref (ad 117), .ref (ad 118), .ref (ad 119), .ref (ad 120), .ref (ad 121), .int (F 21), .ref (ad 123), .ref (ad 124), .ref (ad 125), .ref (ad 126), .int (F 26), .ref (ad 128), .ref (ad 129), .ref (ad 130), .ref (ad 131), .ref (ad 132), .int (F 32), .ref (ad 134)])) := ⟨_, rfl⟩
      have hP : va_P D vwCl (wl Ls ad G_32) H := by rw [eG_32]; exact hP
      have hD : va_D (fun q => b0 ≤ q) (wl Ls ad G_32) := by rw [eG_32]; exact hD
      have a17 : G_32 118 = .inl (y 0, 24, .inl (A 17)) := by rw [eG_32, va_up_ne _ _ (by omega)]; exact a17
      have a18 : G_32 119 = .inl (y 0, 24, .inl (A 18)) := by rw [eG_32, va_up_ne _ _ (by omega)]; exact a18
      have a19 : G_32 120 = .inl (y 0, 216, .inl (A 19)) := by rw [eG_32, va_up_ne _ _ (by omega)]; exact a19
      have a20 : G_32 121 = .inl (y 0, 216, .inl (A 20)) := by rw [eG_32, va_up_ne _ _ (by omega)]; exact a20
      have eM : G_32 100 = .inr (10, [.int 2, .int (F 1), .ref (ad 103), .int (F 3), .ref (ad 105), .ref (ad 106), .ref (ad 107), .ref (ad 108), .int (F 8), .ref (ad 110), .ref (ad 111), .ref (ad 112), .ref (ad 113), .int (F 13), .int (nI nu), .ref (ad 116), .ref (ad 117), .ref (ad 118), .ref (ad 119), .ref (ad 120), .ref (ad 121), .int (F 21), .ref (ad 123), .ref (ad 124), .ref (ad 125), .ref (ad 126), .int (F 26), .ref (ad 128), .ref (ad 129), .ref (ad 130), .ref (ad 131), .ref (ad 132), .int (F 32), .ref (ad 134)]) := by rw [eG_32]; exact va_up_self _ _ _
      refine lv_aload_n hx hb dX8_change_35 rfl (lv_at hl 0 rfl) ?_
      refine pv_get (ci := 10) (C := RX8) (T := TX8) (N := 34) hx hb hts hinX8 hown hK hP hM.1 eM rfl 0 (by decide) (hts (.fieldLink RX8 86 "StorageChargeModel" "code" "I") (by decide +kernel)) (fun _ h9 => h9) rfl dX8_change_36 ?_
      refine lv_if_ne (tgt := 75) hx hb dX8_change_39 (by decide) (fun c_39 => ?_) (fun c_39 => ?_)
      · have hMc : ModelAt y Ls ad G_32 (va_up F 0 2) A := (ModelAt_w hM (eM.trans (by rw [← h14]; rfl)) (fun k hk => Or.inl ⟨by rw [eG_32, va_up_ne _ _ (by omega)], rfl⟩))
        have hfrc : ∀ j, (j < 100 ∨ 134 < j) → G_32 j = G j := (fun j h9 => by rw [eG_32, va_up_ne _ _ (by omega)])
        refine lv_aload_n hx hb dX8_change_75 rfl (lv_at hl 0 rfl) ?_
        refine pv_get (ci := 10) (C := RX8) (T := TX8) (N := 34) hx hb hts hinX8 hown hK hP hM.1 eM rfl 0 (by decide) (hts (.fieldLink RX8 86 "StorageChargeModel" "code" "I") (by decide +kernel)) (fun _ h9 => h9) rfl dX8_change_76 ?_
        refine lv_if_le (tgt := 84) hx hb dX8_change_79 (by decide) (fun c_79 => ?_) (fun c_79 => ?_)
        · exact absurd c_79 (by decide)
        · refine lv_iconst (v := 0) hx hb dX8_change_82 (by decide) ?_
          refine W.widen (k := 0) (n := 0) (Nat.le_of_ble_eq_true rfl) (Nat.le_of_ble_eq_true rfl) ?_
          exact W.zret (v := 0) hx hb hr (by first | rfl | decide | (simp [narrow]; done) | assumption) (fun t ht hW => ⟨⟨0, wl Ls ad G_32, rfl, Or.inr (Or.inl ⟨hq9, (by first | exact fun h => absurd h.1 (wI_eq0.mp (by rw [← hr_14]; exact c_17)) | exact fun h => absurd h.2 (wI_eq0.mp (by rw [← hr_21]; exact c_24))), _, rfl, hMc, hfrc⟩), by rw [ht]; exact hP, hD⟩, hS.F ht⟩) hS.2.2 dX8_change_83
      · exact absurd c_39 (by decide)
    · refine lv_iload_n hx hb dX8_change_20 rfl (lv_at hl 3 rfl) ?_
      refine vp_callSi (va_Run.run (va_runS (As := [.int da]) (rest := [.ref (ad 100)]) ⟨hx, hb, hml, hown, hts⟩ (c_X8_isDay l da) (va_cwS 1 hts gX8_change_X8_isDay rfl rfl rfl (by decide +kernel) ⟨Nat.le_of_ble_eq_true rfl, Nat.le_of_ble_eq_true rfl⟩) ⟨fun _ _ _ _ q => q, fun U hU hW => ⟨rfl, trivial⟩⟩ rfl rfl hl.1 rfl (lv_room (Nat.le_of_ble_eq_true rfl)) dX8_change_21 ⟨(Nat.le_of_ble_eq_true rfl), (Nat.le_of_ble_eq_true rfl)⟩)) (fun r_21 hr_21 => ?_)
      refine lv_if_ne (tgt := 31) hx hb dX8_change_24 (by decide) (fun c_24 => ?_) (fun c_24 => ?_)
      · refine lv_iconst (v := 0) hx hb dX8_change_31 (by decide) ?_
        refine pv_put (ci := 10) (v := .int 0) (ty := .int) (C := RX8) (T := TX8) (N := 34) hx hb hts hinX8 tyX8 tyX8_ok nmX8 hown hK hP hD hS hM.1 eM rfl 0 (by decide) (hts (.fieldLink RX8 86 "StorageChargeModel" "code" "I") (by decide +kernel)) (fun _ h9 => h9) rfl (by decide +kernel) rfl rfl (Nat.le_of_ble_eq_true rfl) dX8_change_32 (fun H locs hP hD hS => ?_)
        obtain ⟨G_32, eG_32⟩ : ∃ gg9 : Nat → va_E, gg9 = va_up G 100 (.inr (10, [.int 0, .int (F 1), .ref (ad 103), .int (F 3), .ref (ad 105), .ref (ad 106), .ref (ad 107), .ref (ad 108), .int (F 8), .ref (ad 110), .ref (ad 111), .ref (ad 112), .ref (ad 113), .int (F 13), .int (nI nu), .ref (ad 116), .ref (ad 117), .ref (ad 118), .ref (ad 119), .ref (ad 120), .ref (ad 121), .int (F 21), .ref (ad 123), .ref (ad 124), .ref (ad 125), .ref (ad 126), .int (F 26), .ref (ad 128), .ref (ad 129), .ref (ad 130), .ref (ad 131), .ref (ad 132), .int (F 32), .ref (ad 134)])) := ⟨_, rfl⟩
        have hP : va_P D vwCl (wl Ls ad G_32) H := by rw [eG_32]; exact hP
        have hD : va_D (fun q => b0 ≤ q) (wl Ls ad G_32) := by rw [eG_32]; exact hD
        have a17 : G_32 118 = .inl (y 0, 24, .inl (A 17)) := by rw [eG_32, va_up_ne _ _ (by omega)]; exact a17
        have a18 : G_32 119 = .inl (y 0, 24, .inl (A 18)) := by rw [eG_32, va_up_ne _ _ (by omega)]; exact a18
        have a19 : G_32 120 = .inl (y 0, 216, .inl (A 19)) := by rw [eG_32, va_up_ne _ _ (by omega)]; exact a19
        have a20 : G_32 121 = .inl (y 0, 216, .inl (A 20)) := by rw [eG_32, va_up_ne _ _ (by omega)]; exact a20
        have eM : G_32 100 = .inr (10, [.int 0, .int (F 1), .ref (ad 103), .int (F 3), .ref (ad 105), .ref (ad 106), .ref (ad 107), .ref (ad 108), .int (F 8), .ref (ad 110), .ref (ad 111), .ref (ad 112), .ref (ad 113), .int (F 13), .int (nI nu), .ref (ad 116), .ref (ad 117), .ref (ad 118), .ref (ad 119), .ref (ad 120), .ref (ad 121), .int (F 21), .ref (ad 123), .ref (ad 124), .ref (ad 125), .ref (ad 126), .int (F 26), .ref (ad 128), .ref (ad 129), .ref (ad 130), .ref (ad 131), .ref (ad 132), .int (F 32), .ref (ad 134)]) := by rw [eG_32]; exact va_up_self _ _ _
        refine lv_aload_n hx hb dX8_change_35 rfl (lv_at hl 0 rfl) ?_
        refine pv_get (ci := 10) (C := RX8) (T := TX8) (N := 34) hx hb hts hinX8 hown hK hP hM.1 eM rfl 0 (by decide) (hts (.fieldLink RX8 86 "StorageChargeModel" "code" "I") (by decide +kernel)) (fun _ h9 => h9) rfl dX8_change_36 ?_
        refine lv_if_ne (tgt := 75) hx hb dX8_change_39 (by decide) (fun c_39 => ?_) (fun c_39 => ?_)
        · exact absurd rfl c_39
        · have hM0 : ModelAt y Ls ad G_32 (va_up F 0 0) A := (ModelAt_w hM (eM.trans (by rw [← h14]; rfl)) (fun k hk => Or.inl ⟨by rw [eG_32, va_up_ne _ _ (by omega)], rfl⟩))
          refine lv_aload_n hx hb dX8_change_42 rfl (lv_at hl 0 rfl) ?_
          refine lv_aload_n hx hb dX8_change_43 rfl (lv_at hl 0 rfl) ?_
          refine lv_iload_n hx hb dX8_change_44 rfl (lv_at hl 1 rfl) ?_
          refine lv_iload_n hx hb dX8_change_45 rfl (lv_at hl 3 rfl) ?_
          refine vp_callSi (va_Run.run (va_runV (As := [.int (nI i), .int da]) (rest := [.ref (ad 100)]) ⟨hx, hb, hml, hown, hts⟩ (c_X8_isLate l D y Ls ad G_32 (va_up F 0 0) A hM0 i (tn i) (by omega) ht9 ht1 ht2 da) (cwV 2 hts gX8_change_X8_isLate rfl rfl rfl (by decide +kernel) ⟨Nat.le_of_ble_eq_true rfl, Nat.le_of_ble_eq_true rfl⟩) ⟨Wd_blind, Wd_recv hK hP (ci := 10) rfl hM.1 eM, Wd_at hP hK hN⟩ rfl rfl hl.1 rfl (lv_room (Nat.le_of_ble_eq_true rfl)) dX8_change_46 ⟨(Nat.le_of_ble_eq_true rfl), (Nat.le_of_ble_eq_true rfl)⟩)) (fun r_46 hr_46 => ?_)
          refine lv_if_eq (tgt := 56) hx hb dX8_change_49 (by decide) (fun c_49 => ?_) (fun c_49 => ?_)
          · have hont : A 17 i = 100000 ∧ A 19 (9 * i + tn i - 1) ≤ da := hr_46.elim (fun h => absurd (h.1.symm.trans c_49) (by decide)) (fun h => h.2)
            refine lv_aload_n hx hb dX8_change_56 rfl (lv_at hl 0 rfl) ?_
            refine pv_get (ci := 10) (C := RX8) (T := TX8) (N := 34) hx hb hts hinX8 hown hK hP hM.1 eM rfl 18 (by decide) (hts (.fieldLink RX8 46 "StorageChargeModel" "told" "[I") (by decide +kernel)) (fun _ h9 => h9) rfl dX8_change_57 ?_
            refine lv_iload_n hx hb dX8_change_60 rfl (lv_at hl 1 rfl) ?_
            refine pv_iald hx hb hK hP j18 0 a18 rfl (k := i) rfl (by omega) (by decide) dX8_change_61 ?_
            refine lv_bipush (v := 8) hx hb dX8_change_62 (by decide) ?_
            refine lv_icmp_le (tgt := 71) hx hb dX8_change_64 (by decide) (fun c_64 => ?_) (fun c_64 => ?_)
            · have hlt8 : tn i < 9 := by
                have h8 : ¬ 9 ≤ tn i := fun h => absurd c_64 (by rw [ht9]; exact nI_ge (a := 8) h (by omega))
                omega
              refine lv_iconst (v := 0) hx hb dX8_change_71 (by decide) ?_
              refine pv_put (ci := 10) (v := .int 0) (ty := .int) (C := RX8) (T := TX8) (N := 34) hx hb hts hinX8 tyX8 tyX8_ok nmX8 hown hK hP hD hS hM.1 eM rfl 0 (by decide) (hts (.fieldLink RX8 86 "StorageChargeModel" "code" "I") (by decide +kernel)) (fun _ h9 => h9) rfl (by decide +kernel) rfl rfl (Nat.le_of_ble_eq_true rfl) dX8_change_72 (fun H locs hP hD hS => ?_)
              obtain ⟨G_72, eG_72⟩ : ∃ gg9 : Nat → va_E, gg9 = va_up G_32 100 (.inr (10, [.int 0, .int (F 1), .ref (ad 103), .int (F 3), .ref (ad 105), .ref (ad 106), .ref (ad 107), .ref (ad 108), .int (F 8), .ref (ad 110), .ref (ad 111), .ref (ad 112), .ref (ad 113), .int (F 13), .int (nI nu), .ref (ad 116), .ref (ad 117), .ref (ad 118), .ref (ad 119), .ref (ad 120), .ref (ad 121), .int (F 21), .ref (ad 123), .ref (ad 124), .ref (ad 125), .ref (ad 126), .int (F 26), .ref (ad 128), .ref (ad 129), .ref (ad 130), .ref (ad 131), .ref (ad 132), .int (F 32), .ref (ad 134)])) := ⟨_, rfl⟩
              have hP : va_P D vwCl (wl Ls ad G_72) H := by rw [eG_72]; exact hP
              have hD : va_D (fun q => b0 ≤ q) (wl Ls ad G_72) := by rw [eG_72]; exact hD
              have a17 : G_72 118 = .inl (y 0, 24, .inl (A 17)) := by rw [eG_72, va_up_ne _ _ (by omega)]; exact a17
              have a18 : G_72 119 = .inl (y 0, 24, .inl (A 18)) := by rw [eG_72, va_up_ne _ _ (by omega)]; exact a18
              have a19 : G_72 120 = .inl (y 0, 216, .inl (A 19)) := by rw [eG_72, va_up_ne _ _ (by omega)]; exact a19
              have a20 : G_72 121 = .inl (y 0, 216, .inl (A 20)) := by rw [eG_72, va_up_ne _ _ (by omega)]; exact a20
              have eM : G_72 100 = .inr (10, [.int 0, .int (F 1), .ref (ad 103), .int (F 3), .ref (ad 105), .ref (ad 106), .ref (ad 107), .ref (ad 108), .int (F 8), .ref (ad 110), .ref (ad 111), .ref (ad 112), .ref (ad 113), .int (F 13), .int (nI nu), .ref (ad 116), .ref (ad 117), .ref (ad 118), .ref (ad 119), .ref (ad 120), .ref (ad 121), .int (F 21), .ref (ad 123), .ref (ad 124), .ref (ad 125), .ref (ad 126), .int (F 26), .ref (ad 128), .ref (ad 129), .ref (ad 130), .ref (ad 131), .ref (ad 132), .int (F 32), .ref (ad 134)]) := by rw [eG_72]; exact va_up_self _ _ _
              have hMc : ModelAt y Ls ad G_72 (va_up F 0 0) A := (ModelAt_w hM (eM.trans (by rw [← h14]; rfl)) (fun k hk => Or.inl ⟨by rw [eG_72, va_up_ne _ _ (by omega), eG_32, va_up_ne _ _ (by omega)], rfl⟩))
              have hfrc : ∀ j, (j < 100 ∨ 134 < j) → G_72 j = G j := (fun j h9 => by rw [eG_72, va_up_ne _ _ (by omega), eG_32, va_up_ne _ _ (by omega)])
              refine lv_aload_n hx hb dX8_change_75 rfl (lv_at hl 0 rfl) ?_
              refine pv_get (ci := 10) (C := RX8) (T := TX8) (N := 34) hx hb hts hinX8 hown hK hP hM.1 eM rfl 0 (by decide) (hts (.fieldLink RX8 86 "StorageChargeModel" "code" "I") (by decide +kernel)) (fun _ h9 => h9) rfl dX8_change_76 ?_
              refine lv_if_le (tgt := 84) hx hb dX8_change_79 (by decide) (fun c_79 => ?_) (fun c_79 => ?_)
              · refine lv_aload_n hx hb dX8_change_84 rfl (lv_at hl 0 rfl) ?_
                refine pv_get (ci := 10) (C := RX8) (T := TX8) (N := 34) hx hb hts hinX8 hown hK hP hM.1 eM rfl 20 (by decide) (hts (.fieldLink RX8 52 "StorageChargeModel" "toldKind" "[I") (by decide +kernel)) (fun _ h9 => h9) rfl dX8_change_85 ?_
                refine lv_bipush (v := 9) hx hb dX8_change_88 (by decide) ?_
                refine lv_iload_n hx hb dX8_change_90 rfl (lv_at hl 1 rfl) ?_
                refine lv_imul hx hb dX8_change_91 ?_
                refine lv_aload_n hx hb dX8_change_92 rfl (lv_at hl 0 rfl) ?_
                refine pv_get (ci := 10) (C := RX8) (T := TX8) (N := 34) hx hb hts hinX8 hown hK hP hM.1 eM rfl 18 (by decide) (hts (.fieldLink RX8 46 "StorageChargeModel" "told" "[I") (by decide +kernel)) (fun _ h9 => h9) rfl dX8_change_93 ?_
                refine lv_iload_n hx hb dX8_change_96 rfl (lv_at hl 1 rfl) ?_
                refine pv_iald hx hb hK hP j18 0 a18 rfl (k := i) rfl (by omega) (by decide) dX8_change_97 ?_
                refine lv_iadd hx hb dX8_change_98 ?_
                refine lv_iconst (v := 1) hx hb dX8_change_99 (by decide) ?_
                refine lv_isub hx hb dX8_change_100 ?_
                refine lv_topi (fun z9 ez9 => ?_)
                obtain rfl : z9 = nI (9 * i + tn i - 1) := ez9.trans (by rw [ht9, nI9, nI_p1 (by omega)])
                refine pv_iald hx hb hK hP j20 0 a20 rfl (k := 9 * i + tn i - 1) rfl (by omega) (by decide) dX8_change_101 ?_
                refine lv_iload_n hx hb dX8_change_102 rfl (lv_at hl 2 rfl) ?_
                refine lv_icmp_eq (tgt := 110) hx hb dX8_change_103 (by decide) (fun c_103 => ?_) (fun c_103 => ?_)
                · refine lv_iconst (v := 0) hx hb dX8_change_110 (by decide) ?_
                  refine lv_istore (lv' := [(4, .int 0), (0, .ref (ad 100)), (1, .int (nI i)), (2, .int kd), (3, .int da)]) hx hb dX8_change_111 hl (by decide) rfl (fun ls hl => ?_)
                  refine lv_aload_n hx hb dX8_change_113 rfl (lv_at hl 1 rfl) ?_
                  refine pv_get (ci := 10) (C := RX8) (T := TX8) (N := 34) hx hb hts hinX8 hown hK hP hM.1 eM rfl 19 (by decide) (hts (.fieldLink RX8 49 "StorageChargeModel" "toldDay" "[I") (by decide +kernel)) (fun _ h9 => h9) rfl dX8_change_114 ?_
                  refine lv_bipush (v := 9) hx hb dX8_change_117 (by decide) ?_
                  refine lv_iload_n hx hb dX8_change_119 rfl (lv_at hl 2 rfl) ?_
                  refine lv_imul hx hb dX8_change_120 ?_
                  refine lv_aload_n hx hb dX8_change_121 rfl (lv_at hl 1 rfl) ?_
                  refine pv_get (ci := 10) (C := RX8) (T := TX8) (N := 34) hx hb hts hinX8 hown hK hP hM.1 eM rfl 18 (by decide) (hts (.fieldLink RX8 46 "StorageChargeModel" "told" "[I") (by decide +kernel)) (fun _ h9 => h9) rfl dX8_change_122 ?_
                  refine lv_iload_n hx hb dX8_change_125 rfl (lv_at hl 2 rfl) ?_
                  refine pv_iald hx hb hK hP j18 0 a18 rfl (k := i) rfl (by omega) (by decide) dX8_change_126 ?_
                  refine lv_iadd hx hb dX8_change_127 ?_
                  refine lv_iload_n hx hb dX8_change_128 rfl (lv_at hl 4 rfl) ?_
                  refine pv_iast hx hb hK hP hD hS j19 0 a19 rfl (k := 9 * i + tn i) (by rw [ht9]; exact nI9 _ _) (by omega) (by decide) dX8_change_129 (fun H locs hP hD hS => ?_)
                  obtain ⟨G_129, eG_129⟩ : ∃ gg9 : Nat → va_E, gg9 = va_up G_72 120 (.inl (y 0, 216, .inl (upd (A 19) (9 * i + tn i) da))) := ⟨_, rfl⟩
                  have hP : va_P D vwCl (wl Ls ad G_129) H := by rw [eG_129]; exact hP
                  have hD : va_D (fun q => b0 ≤ q) (wl Ls ad G_129) := by rw [eG_129]; exact hD
                  have eM : G_129 100 = .inr (10, [.int 0, .int (F 1), .ref (ad 103), .int (F 3), .ref (ad 105), .ref (ad 106), .ref (ad 107), .ref (ad 108), .int (F 8), .ref (ad 110), .ref (ad 111), .ref (ad 112), .ref (ad 113), .int (F 13), .int (nI nu), .ref (ad 116), .ref (ad 117), .ref (ad 118), .ref (ad 119), .ref (ad 120), .ref (ad 121), .int (F 21), .ref (ad 123), .ref (ad 124), .ref (ad 125), .ref (ad 126), .int (F 26), .ref (ad 128), .ref (ad 129), .ref (ad 130), .ref (ad 131), .ref (ad 132), .int (F 32), .ref (ad 134)]) := by rw [eG_129, va_up_ne _ _ (by omega)]; exact eM
                  have a17 : G_129 118 = .inl (y 0, 24, .inl (A 17)) := by rw [eG_129, va_up_ne _ _ (by omega)]; exact a17
                  have a18 : G_129 119 = .inl (y 0, 24, .inl (A 18)) := by rw [eG_129, va_up_ne _ _ (by omega)]; exact a18
                  have a20 : G_129 121 = .inl (y 0, 216, .inl (A 20)) := by rw [eG_129, va_up_ne _ _ (by omega)]; exact a20
                  have a19 : G_129 120 = .inl (y 0, 216, .inl (upd (A 19) (9 * i + tn i) da)) := by rw [eG_129]; exact va_up_self _ _ _
                  refine lv_aload_n hx hb dX8_change_130 rfl (lv_at hl 1 rfl) ?_
                  refine pv_get (ci := 10) (C := RX8) (T := TX8) (N := 34) hx hb hts hinX8 hown hK hP hM.1 eM rfl 20 (by decide) (hts (.fieldLink RX8 52 "StorageChargeModel" "toldKind" "[I") (by decide +kernel)) (fun _ h9 => h9) rfl dX8_change_131 ?_
                  refine lv_bipush (v := 9) hx hb dX8_change_134 (by decide) ?_
                  refine lv_iload_n hx hb dX8_change_136 rfl (lv_at hl 2 rfl) ?_
                  refine lv_imul hx hb dX8_change_137 ?_
                  refine lv_aload_n hx hb dX8_change_138 rfl (lv_at hl 1 rfl) ?_
                  refine pv_get (ci := 10) (C := RX8) (T := TX8) (N := 34) hx hb hts hinX8 hown hK hP hM.1 eM rfl 18 (by decide) (hts (.fieldLink RX8 46 "StorageChargeModel" "told" "[I") (by decide +kernel)) (fun _ h9 => h9) rfl dX8_change_139 ?_
                  refine lv_iload_n hx hb dX8_change_142 rfl (lv_at hl 2 rfl) ?_
                  refine pv_iald hx hb hK hP j18 0 a18 rfl (k := i) rfl (by omega) (by decide) dX8_change_143 ?_
                  refine lv_iadd hx hb dX8_change_144 ?_
                  refine lv_iload_n hx hb dX8_change_145 rfl (lv_at hl 3 rfl) ?_
                  refine pv_iast hx hb hK hP hD hS j20 0 a20 rfl (k := 9 * i + tn i) (by rw [ht9]; exact nI9 _ _) (by omega) (by decide) dX8_change_146 (fun H locs hP hD hS => ?_)
                  obtain ⟨G_146, eG_146⟩ : ∃ gg9 : Nat → va_E, gg9 = va_up G_129 121 (.inl (y 0, 216, .inl (upd (A 20) (9 * i + tn i) kd))) := ⟨_, rfl⟩
                  have hP : va_P D vwCl (wl Ls ad G_146) H := by rw [eG_146]; exact hP
                  have hD : va_D (fun q => b0 ≤ q) (wl Ls ad G_146) := by rw [eG_146]; exact hD
                  have eM : G_146 100 = .inr (10, [.int 0, .int (F 1), .ref (ad 103), .int (F 3), .ref (ad 105), .ref (ad 106), .ref (ad 107), .ref (ad 108), .int (F 8), .ref (ad 110), .ref (ad 111), .ref (ad 112), .ref (ad 113), .int (F 13), .int (nI nu), .ref (ad 116), .ref (ad 117), .ref (ad 118), .ref (ad 119), .ref (ad 120), .ref (ad 121), .int (F 21), .ref (ad 123), .ref (ad 124), .ref (ad 125), .ref (ad 126), .int (F 26), .ref (ad 128), .ref (ad 129), .ref (ad 130), .ref (ad 131), .ref (ad 132), .int (F 32), .ref (ad 134)]) := by rw [eG_146, va_up_ne _ _ (by omega)]; exact eM
                  have a17 : G_146 118 = .inl (y 0, 24, .inl (A 17)) := by rw [eG_146, va_up_ne _ _ (by omega)]; exact a17
                  have a18 : G_146 119 = .inl (y 0, 24, .inl (A 18)) := by rw [eG_146, va_up_ne _ _ (by omega)]; exact a18
                  have a19 : G_146 120 = .inl (y 0, 216, .inl (upd (A 19) (9 * i + tn i) da)) := by rw [eG_146, va_up_ne _ _ (by omega)]; exact a19
                  have a20 : G_146 121 = .inl (y 0, 216, .inl (upd (A 20) (9 * i + tn i) kd)) := by rw [eG_146]; exact va_up_self _ _ _
                  refine lv_aload_n hx hb dX8_change_147 rfl (lv_at hl 1 rfl) ?_
                  refine pv_get (ci := 10) (C := RX8) (T := TX8) (N := 34) hx hb hts hinX8 hown hK hP hM.1 eM rfl 18 (by decide) (hts (.fieldLink RX8 46 "StorageChargeModel" "told" "[I") (by decide +kernel)) (fun _ h9 => h9) rfl dX8_change_148 ?_
                  refine lv_iload_n hx hb dX8_change_151 rfl (lv_at hl 2 rfl) ?_
                  refine lv_dup2_11 hx hb dX8_change_152 rfl rfl ?_
                  refine pv_iald hx hb hK hP j18 0 a18 rfl (k := i) rfl (by omega) (by decide) dX8_change_153 ?_
                  refine lv_iconst (v := 1) hx hb dX8_change_154 (by decide) ?_
                  refine lv_iadd hx hb dX8_change_155 ?_
                  refine lv_topi (fun z9 ez9 => ?_)
                  obtain rfl : z9 = nI (tn i + 1) := ez9.trans (by rw [ht9]; exact nI_1 _)
                  refine pv_iast hx hb hK hP hD hS j18 0 a18 rfl (k := i) rfl (by omega) (by decide) dX8_change_156 (fun H locs hP hD hS => ?_)
                  obtain ⟨G_156, eG_156⟩ : ∃ gg9 : Nat → va_E, gg9 = va_up G_146 119 (.inl (y 0, 24, .inl (upd (A 18) i (nI (tn i + 1))))) := ⟨_, rfl⟩
                  have hP : va_P D vwCl (wl Ls ad G_156) H := by rw [eG_156]; exact hP
                  have hD : va_D (fun q => b0 ≤ q) (wl Ls ad G_156) := by rw [eG_156]; exact hD
                  have eM : G_156 100 = .inr (10, [.int 0, .int (F 1), .ref (ad 103), .int (F 3), .ref (ad 105), .ref (ad 106), .ref (ad 107), .ref (ad 108), .int (F 8), .ref (ad 110), .ref (ad 111), .ref (ad 112), .ref (ad 113), .int (F 13), .int (nI nu), .ref (ad 116), .ref (ad 117), .ref (ad 118), .ref (ad 119), .ref (ad 120), .ref (ad 121), .int (F 21), .ref (ad 123), .ref (ad 124), .ref (ad 125), .ref (ad 126), .int (F 26), .ref (ad 128), .ref (ad 129), .ref (ad 130), .ref (ad 131), .ref (ad 132), .int (F 32), .ref (ad 134)]) := by rw [eG_156, va_up_ne _ _ (by omega)]; exact eM
                  have a17 : G_156 118 = .inl (y 0, 24, .inl (A 17)) := by rw [eG_156, va_up_ne _ _ (by omega)]; exact a17
                  have a19 : G_156 120 = .inl (y 0, 216, .inl (upd (A 19) (9 * i + tn i) da)) := by rw [eG_156, va_up_ne _ _ (by omega)]; exact a19
                  have a20 : G_156 121 = .inl (y 0, 216, .inl (upd (A 20) (9 * i + tn i) kd)) := by rw [eG_156, va_up_ne _ _ (by omega)]; exact a20
                  have a18 : G_156 119 = .inl (y 0, 24, .inl (upd (A 18) i (nI (tn i + 1)))) := by rw [eG_156]; exact va_up_self _ _ _
                  refine lv_iload hx hb dX8_change_157 (lv_at hl 0 rfl) ?_
                  refine W.widen (k := 0) (n := 0) (Nat.le_of_ble_eq_true rfl) (Nat.le_of_ble_eq_true rfl) ?_
                  exact W.zret (v := 0) hx hb hr (by first | rfl | decide | (simp [narrow]; done) | assumption) (fun t ht hW => ⟨⟨0, wl Ls ad G_156, rfl, Or.inr (Or.inr ⟨i, hi, rfl, ⟨(Decidable.byContradiction fun h => c_17 (by rw [hr_14]; exact wI_eq0.mpr h)), (Decidable.byContradiction fun h => c_24 (by rw [hr_21]; exact wI_eq0.mpr h))⟩, Or.inr (Or.inr ⟨hont, hlt8, Or.inl ⟨rfl, c_103⟩, _, rfl, (ModelAt_w hM (eM.trans (by rw [← h14]; rfl)) (fun k hk => if h189 : k = 18 then Or.inr (by subst h189; exact a18) else (if h199 : k = 19 then Or.inr (by subst h199; exact a19) else (if h209 : k = 20 then Or.inr (by subst h209; exact a20) else (Or.inl ⟨by rw [eG_156, va_up_ne _ _ (by omega), eG_146, va_up_ne _ _ (by omega), eG_129, va_up_ne _ _ (by omega), eG_72, va_up_ne _ _ (by omega), eG_32, va_up_ne _ _ (by omega)], by rw [va_up_ne _ _ h209, va_up_ne _ _ h199, va_up_ne _ _ h189]⟩))))), (fun j h9 => by rw [eG_156, va_up_ne _ _ (by omega), eG_146, va_up_ne _ _ (by omega), eG_129, va_up_ne _ _ (by omega), eG_72, va_up_ne _ _ (by omega), eG_32, va_up_ne _ _ (by omega)])⟩)⟩), by rw [ht]; exact hP, hD⟩, hS.F ht⟩) hS.2.2 dX8_change_159
                · refine lv_iconst (v := 1) hx hb dX8_change_106 (by decide) ?_
                  refine lv_goto (tgt := 111) hx hb dX8_change_107 (by decide) ?_
                  refine lv_istore (lv' := [(4, .int 1), (0, .ref (ad 100)), (1, .int (nI i)), (2, .int kd), (3, .int da)]) hx hb dX8_change_111 hl (by decide) rfl (fun ls hl => ?_)
                  refine lv_aload_n hx hb dX8_change_113 rfl (lv_at hl 1 rfl) ?_
                  refine pv_get (ci := 10) (C := RX8) (T := TX8) (N := 34) hx hb hts hinX8 hown hK hP hM.1 eM rfl 19 (by decide) (hts (.fieldLink RX8 49 "StorageChargeModel" "toldDay" "[I") (by decide +kernel)) (fun _ h9 => h9) rfl dX8_change_114 ?_
                  refine lv_bipush (v := 9) hx hb dX8_change_117 (by decide) ?_
                  refine lv_iload_n hx hb dX8_change_119 rfl (lv_at hl 2 rfl) ?_
                  refine lv_imul hx hb dX8_change_120 ?_
                  refine lv_aload_n hx hb dX8_change_121 rfl (lv_at hl 1 rfl) ?_
                  refine pv_get (ci := 10) (C := RX8) (T := TX8) (N := 34) hx hb hts hinX8 hown hK hP hM.1 eM rfl 18 (by decide) (hts (.fieldLink RX8 46 "StorageChargeModel" "told" "[I") (by decide +kernel)) (fun _ h9 => h9) rfl dX8_change_122 ?_
                  refine lv_iload_n hx hb dX8_change_125 rfl (lv_at hl 2 rfl) ?_
                  refine pv_iald hx hb hK hP j18 0 a18 rfl (k := i) rfl (by omega) (by decide) dX8_change_126 ?_
                  refine lv_iadd hx hb dX8_change_127 ?_
                  refine lv_iload_n hx hb dX8_change_128 rfl (lv_at hl 4 rfl) ?_
                  refine pv_iast hx hb hK hP hD hS j19 0 a19 rfl (k := 9 * i + tn i) (by rw [ht9]; exact nI9 _ _) (by omega) (by decide) dX8_change_129 (fun H locs hP hD hS => ?_)
                  obtain ⟨G_129, eG_129⟩ : ∃ gg9 : Nat → va_E, gg9 = va_up G_72 120 (.inl (y 0, 216, .inl (upd (A 19) (9 * i + tn i) da))) := ⟨_, rfl⟩
                  have hP : va_P D vwCl (wl Ls ad G_129) H := by rw [eG_129]; exact hP
                  have hD : va_D (fun q => b0 ≤ q) (wl Ls ad G_129) := by rw [eG_129]; exact hD
                  have eM : G_129 100 = .inr (10, [.int 0, .int (F 1), .ref (ad 103), .int (F 3), .ref (ad 105), .ref (ad 106), .ref (ad 107), .ref (ad 108), .int (F 8), .ref (ad 110), .ref (ad 111), .ref (ad 112), .ref (ad 113), .int (F 13), .int (nI nu), .ref (ad 116), .ref (ad 117), .ref (ad 118), .ref (ad 119), .ref (ad 120), .ref (ad 121), .int (F 21), .ref (ad 123), .ref (ad 124), .ref (ad 125), .ref (ad 126), .int (F 26), .ref (ad 128), .ref (ad 129), .ref (ad 130), .ref (ad 131), .ref (ad 132), .int (F 32), .ref (ad 134)]) := by rw [eG_129, va_up_ne _ _ (by omega)]; exact eM
                  have a17 : G_129 118 = .inl (y 0, 24, .inl (A 17)) := by rw [eG_129, va_up_ne _ _ (by omega)]; exact a17
                  have a18 : G_129 119 = .inl (y 0, 24, .inl (A 18)) := by rw [eG_129, va_up_ne _ _ (by omega)]; exact a18
                  have a20 : G_129 121 = .inl (y 0, 216, .inl (A 20)) := by rw [eG_129, va_up_ne _ _ (by omega)]; exact a20
                  have a19 : G_129 120 = .inl (y 0, 216, .inl (upd (A 19) (9 * i + tn i) da)) := by rw [eG_129]; exact va_up_self _ _ _
                  refine lv_aload_n hx hb dX8_change_130 rfl (lv_at hl 1 rfl) ?_
                  refine pv_get (ci := 10) (C := RX8) (T := TX8) (N := 34) hx hb hts hinX8 hown hK hP hM.1 eM rfl 20 (by decide) (hts (.fieldLink RX8 52 "StorageChargeModel" "toldKind" "[I") (by decide +kernel)) (fun _ h9 => h9) rfl dX8_change_131 ?_
                  refine lv_bipush (v := 9) hx hb dX8_change_134 (by decide) ?_
                  refine lv_iload_n hx hb dX8_change_136 rfl (lv_at hl 2 rfl) ?_
                  refine lv_imul hx hb dX8_change_137 ?_
                  refine lv_aload_n hx hb dX8_change_138 rfl (lv_at hl 1 rfl) ?_
                  refine pv_get (ci := 10) (C := RX8) (T := TX8) (N := 34) hx hb hts hinX8 hown hK hP hM.1 eM rfl 18 (by decide) (hts (.fieldLink RX8 46 "StorageChargeModel" "told" "[I") (by decide +kernel)) (fun _ h9 => h9) rfl dX8_change_139 ?_
                  refine lv_iload_n hx hb dX8_change_142 rfl (lv_at hl 2 rfl) ?_
                  refine pv_iald hx hb hK hP j18 0 a18 rfl (k := i) rfl (by omega) (by decide) dX8_change_143 ?_
                  refine lv_iadd hx hb dX8_change_144 ?_
                  refine lv_iload_n hx hb dX8_change_145 rfl (lv_at hl 3 rfl) ?_
                  refine pv_iast hx hb hK hP hD hS j20 0 a20 rfl (k := 9 * i + tn i) (by rw [ht9]; exact nI9 _ _) (by omega) (by decide) dX8_change_146 (fun H locs hP hD hS => ?_)
                  obtain ⟨G_146, eG_146⟩ : ∃ gg9 : Nat → va_E, gg9 = va_up G_129 121 (.inl (y 0, 216, .inl (upd (A 20) (9 * i + tn i) kd))) := ⟨_, rfl⟩
                  have hP : va_P D vwCl (wl Ls ad G_146) H := by rw [eG_146]; exact hP
                  have hD : va_D (fun q => b0 ≤ q) (wl Ls ad G_146) := by rw [eG_146]; exact hD
                  have eM : G_146 100 = .inr (10, [.int 0, .int (F 1), .ref (ad 103), .int (F 3), .ref (ad 105), .ref (ad 106), .ref (ad 107), .ref (ad 108), .int (F 8), .ref (ad 110), .ref (ad 111), .ref (ad 112), .ref (ad 113), .int (F 13), .int (nI nu), .ref (ad 116), .ref (ad 117), .ref (ad 118), .ref (ad 119), .ref (ad 120), .ref (ad 121), .int (F 21), .ref (ad 123), .ref (ad 124), .ref (ad 125), .ref (ad 126), .int (F 26), .ref (ad 128), .ref (ad 129), .ref (ad 130), .ref (ad 131), .ref (ad 132), .int (F 32), .ref (ad 134)]) := by rw [eG_146, va_up_ne _ _ (by omega)]; exact eM
                  have a17 : G_146 118 = .inl (y 0, 24, .inl (A 17)) := by rw [eG_146, va_up_ne _ _ (by omega)]; exact a17
                  have a18 : G_146 119 = .inl (y 0, 24, .inl (A 18)) := by rw [eG_146, va_up_ne _ _ (by omega)]; exact a18
                  have a19 : G_146 120 = .inl (y 0, 216, .inl (upd (A 19) (9 * i + tn i) da)) := by rw [eG_146, va_up_ne _ _ (by omega)]; exact a19
                  have a20 : G_146 121 = .inl (y 0, 216, .inl (upd (A 20) (9 * i + tn i) kd)) := by rw [eG_146]; exact va_up_self _ _ _
                  refine lv_aload_n hx hb dX8_change_147 rfl (lv_at hl 1 rfl) ?_
                  refine pv_get (ci := 10) (C := RX8) (T := TX8) (N := 34) hx hb hts hinX8 hown hK hP hM.1 eM rfl 18 (by decide) (hts (.fieldLink RX8 46 "StorageChargeModel" "told" "[I") (by decide +kernel)) (fun _ h9 => h9) rfl dX8_change_148 ?_
                  refine lv_iload_n hx hb dX8_change_151 rfl (lv_at hl 2 rfl) ?_
                  refine lv_dup2_11 hx hb dX8_change_152 rfl rfl ?_
                  refine pv_iald hx hb hK hP j18 0 a18 rfl (k := i) rfl (by omega) (by decide) dX8_change_153 ?_
                  refine lv_iconst (v := 1) hx hb dX8_change_154 (by decide) ?_
                  refine lv_iadd hx hb dX8_change_155 ?_
                  refine lv_topi (fun z9 ez9 => ?_)
                  obtain rfl : z9 = nI (tn i + 1) := ez9.trans (by rw [ht9]; exact nI_1 _)
                  refine pv_iast hx hb hK hP hD hS j18 0 a18 rfl (k := i) rfl (by omega) (by decide) dX8_change_156 (fun H locs hP hD hS => ?_)
                  obtain ⟨G_156, eG_156⟩ : ∃ gg9 : Nat → va_E, gg9 = va_up G_146 119 (.inl (y 0, 24, .inl (upd (A 18) i (nI (tn i + 1))))) := ⟨_, rfl⟩
                  have hP : va_P D vwCl (wl Ls ad G_156) H := by rw [eG_156]; exact hP
                  have hD : va_D (fun q => b0 ≤ q) (wl Ls ad G_156) := by rw [eG_156]; exact hD
                  have eM : G_156 100 = .inr (10, [.int 0, .int (F 1), .ref (ad 103), .int (F 3), .ref (ad 105), .ref (ad 106), .ref (ad 107), .ref (ad 108), .int (F 8), .ref (ad 110), .ref (ad 111), .ref (ad 112), .ref (ad 113), .int (F 13), .int (nI nu), .ref (ad 116), .ref (ad 117), .ref (ad 118), .ref (ad 119), .ref (ad 120), .ref (ad 121), .int (F 21), .ref (ad 123), .ref (ad 124), .ref (ad 125), .ref (ad 126), .int (F 26), .ref (ad 128), .ref (ad 129), .ref (ad 130), .ref (ad 131), .ref (ad 132), .int (F 32), .ref (ad 134)]) := by rw [eG_156, va_up_ne _ _ (by omega)]; exact eM
                  have a17 : G_156 118 = .inl (y 0, 24, .inl (A 17)) := by rw [eG_156, va_up_ne _ _ (by omega)]; exact a17
                  have a19 : G_156 120 = .inl (y 0, 216, .inl (upd (A 19) (9 * i + tn i) da)) := by rw [eG_156, va_up_ne _ _ (by omega)]; exact a19
                  have a20 : G_156 121 = .inl (y 0, 216, .inl (upd (A 20) (9 * i + tn i) kd)) := by rw [eG_156, va_up_ne _ _ (by omega)]; exact a20
                  have a18 : G_156 119 = .inl (y 0, 24, .inl (upd (A 18) i (nI (tn i + 1)))) := by rw [eG_156]; exact va_up_self _ _ _
                  refine lv_iload hx hb dX8_change_157 (lv_at hl 0 rfl) ?_
                  refine W.widen (k := 0) (n := 0) (Nat.le_of_ble_eq_true rfl) (Nat.le_of_ble_eq_true rfl) ?_
                  exact W.zret (v := 1) hx hb hr (by first | rfl | decide | (simp [narrow]; done) | assumption) (fun t ht hW => ⟨⟨1, wl Ls ad G_156, rfl, Or.inr (Or.inr ⟨i, hi, rfl, ⟨(Decidable.byContradiction fun h => c_17 (by rw [hr_14]; exact wI_eq0.mpr h)), (Decidable.byContradiction fun h => c_24 (by rw [hr_21]; exact wI_eq0.mpr h))⟩, Or.inr (Or.inr ⟨hont, hlt8, Or.inr ⟨rfl, c_103⟩, _, rfl, (ModelAt_w hM (eM.trans (by rw [← h14]; rfl)) (fun k hk => if h189 : k = 18 then Or.inr (by subst h189; exact a18) else (if h199 : k = 19 then Or.inr (by subst h199; exact a19) else (if h209 : k = 20 then Or.inr (by subst h209; exact a20) else (Or.inl ⟨by rw [eG_156, va_up_ne _ _ (by omega), eG_146, va_up_ne _ _ (by omega), eG_129, va_up_ne _ _ (by omega), eG_72, va_up_ne _ _ (by omega), eG_32, va_up_ne _ _ (by omega)], by rw [va_up_ne _ _ h209, va_up_ne _ _ h199, va_up_ne _ _ h189]⟩))))), (fun j h9 => by rw [eG_156, va_up_ne _ _ (by omega), eG_146, va_up_ne _ _ (by omega), eG_129, va_up_ne _ _ (by omega), eG_72, va_up_ne _ _ (by omega), eG_32, va_up_ne _ _ (by omega)])⟩)⟩), by rw [ht]; exact hP, hD⟩, hS.F ht⟩) hS.2.2 dX8_change_159
              · exact absurd (by decide) c_79
            · have h9t : tn i = 9 := by
                have h8 : ¬ tn i ≤ 8 := fun h => c_64 (by rw [ht9]; exact nI_le h (by decide))
                omega
              refine lv_iconst (v := 4) hx hb dX8_change_67 (by decide) ?_
              refine lv_goto (tgt := 72) hx hb dX8_change_68 (by decide) ?_
              refine pv_put (ci := 10) (v := .int 4) (ty := .int) (C := RX8) (T := TX8) (N := 34) hx hb hts hinX8 tyX8 tyX8_ok nmX8 hown hK hP hD hS hM.1 eM rfl 0 (by decide) (hts (.fieldLink RX8 86 "StorageChargeModel" "code" "I") (by decide +kernel)) (fun _ h9 => h9) rfl (by decide +kernel) rfl rfl (Nat.le_of_ble_eq_true rfl) dX8_change_72 (fun H locs hP hD hS => ?_)
              obtain ⟨G_72, eG_72⟩ : ∃ gg9 : Nat → va_E, gg9 = va_up G_32 100 (.inr (10, [.int 4, .int (F 1), .ref (ad 103), .int (F 3), .ref (ad 105), .ref (ad 106), .ref (ad 107), .ref (ad 108), .int (F 8), .ref (ad 110), .ref (ad 111), .ref (ad 112), .ref (ad 113), .int (F 13), .int (nI nu), .ref (ad 116), .ref (ad 117), .ref (ad 118), .ref (ad 119), .ref (ad 120), .ref (ad 121), .int (F 21), .ref (ad 123), .ref (ad 124), .ref (ad 125), .ref (ad 126), .int (F 26), .ref (ad 128), .ref (ad 129), .ref (ad 130), .ref (ad 131), .ref (ad 132), .int (F 32), .ref (ad 134)])) := ⟨_, rfl⟩
              have hP : va_P D vwCl (wl Ls ad G_72) H := by rw [eG_72]; exact hP
              have hD : va_D (fun q => b0 ≤ q) (wl Ls ad G_72) := by rw [eG_72]; exact hD
              have a17 : G_72 118 = .inl (y 0, 24, .inl (A 17)) := by rw [eG_72, va_up_ne _ _ (by omega)]; exact a17
              have a18 : G_72 119 = .inl (y 0, 24, .inl (A 18)) := by rw [eG_72, va_up_ne _ _ (by omega)]; exact a18
              have a19 : G_72 120 = .inl (y 0, 216, .inl (A 19)) := by rw [eG_72, va_up_ne _ _ (by omega)]; exact a19
              have a20 : G_72 121 = .inl (y 0, 216, .inl (A 20)) := by rw [eG_72, va_up_ne _ _ (by omega)]; exact a20
              have eM : G_72 100 = .inr (10, [.int 4, .int (F 1), .ref (ad 103), .int (F 3), .ref (ad 105), .ref (ad 106), .ref (ad 107), .ref (ad 108), .int (F 8), .ref (ad 110), .ref (ad 111), .ref (ad 112), .ref (ad 113), .int (F 13), .int (nI nu), .ref (ad 116), .ref (ad 117), .ref (ad 118), .ref (ad 119), .ref (ad 120), .ref (ad 121), .int (F 21), .ref (ad 123), .ref (ad 124), .ref (ad 125), .ref (ad 126), .int (F 26), .ref (ad 128), .ref (ad 129), .ref (ad 130), .ref (ad 131), .ref (ad 132), .int (F 32), .ref (ad 134)]) := by rw [eG_72]; exact va_up_self _ _ _
              have hMc : ModelAt y Ls ad G_72 (va_up F 0 4) A := (ModelAt_w hM (eM.trans (by rw [← h14]; rfl)) (fun k hk => Or.inl ⟨by rw [eG_72, va_up_ne _ _ (by omega), eG_32, va_up_ne _ _ (by omega)], rfl⟩))
              have hfrc : ∀ j, (j < 100 ∨ 134 < j) → G_72 j = G j := (fun j h9 => by rw [eG_72, va_up_ne _ _ (by omega), eG_32, va_up_ne _ _ (by omega)])
              refine lv_aload_n hx hb dX8_change_75 rfl (lv_at hl 0 rfl) ?_
              refine pv_get (ci := 10) (C := RX8) (T := TX8) (N := 34) hx hb hts hinX8 hown hK hP hM.1 eM rfl 0 (by decide) (hts (.fieldLink RX8 86 "StorageChargeModel" "code" "I") (by decide +kernel)) (fun _ h9 => h9) rfl dX8_change_76 ?_
              refine lv_if_le (tgt := 84) hx hb dX8_change_79 (by decide) (fun c_79 => ?_) (fun c_79 => ?_)
              · exact absurd c_79 (by decide)
              · refine lv_iconst (v := 0) hx hb dX8_change_82 (by decide) ?_
                refine W.widen (k := 0) (n := 0) (Nat.le_of_ble_eq_true rfl) (Nat.le_of_ble_eq_true rfl) ?_
                exact W.zret (v := 0) hx hb hr (by first | rfl | decide | (simp [narrow]; done) | assumption) (fun t ht hW => ⟨⟨0, wl Ls ad G_72, rfl, Or.inr (Or.inr ⟨i, hi, rfl, ⟨(Decidable.byContradiction fun h => c_17 (by rw [hr_14]; exact wI_eq0.mpr h)), (Decidable.byContradiction fun h => c_24 (by rw [hr_21]; exact wI_eq0.mpr h))⟩, Or.inr (Or.inl ⟨hont, h9t, _, rfl, hMc, hfrc⟩)⟩), by rw [ht]; exact hP, hD⟩, hS.F ht⟩) hS.2.2 dX8_change_83
          · have hlate : ¬ A 17 i = 100000 ∨ da < A 19 (9 * i + tn i - 1) := hr_46.elim (fun h => h.2) (fun h => absurd h.1 c_49)
            refine lv_iconst (v := 3) hx hb dX8_change_52 (by decide) ?_
            refine lv_goto (tgt := 72) hx hb dX8_change_53 (by decide) ?_
            refine pv_put (ci := 10) (v := .int 3) (ty := .int) (C := RX8) (T := TX8) (N := 34) hx hb hts hinX8 tyX8 tyX8_ok nmX8 hown hK hP hD hS hM.1 eM rfl 0 (by decide) (hts (.fieldLink RX8 86 "StorageChargeModel" "code" "I") (by decide +kernel)) (fun _ h9 => h9) rfl (by decide +kernel) rfl rfl (Nat.le_of_ble_eq_true rfl) dX8_change_72 (fun H locs hP hD hS => ?_)
            obtain ⟨G_72, eG_72⟩ : ∃ gg9 : Nat → va_E, gg9 = va_up G_32 100 (.inr (10, [.int 3, .int (F 1), .ref (ad 103), .int (F 3), .ref (ad 105), .ref (ad 106), .ref (ad 107), .ref (ad 108), .int (F 8), .ref (ad 110), .ref (ad 111), .ref (ad 112), .ref (ad 113), .int (F 13), .int (nI nu), .ref (ad 116), .ref (ad 117), .ref (ad 118), .ref (ad 119), .ref (ad 120), .ref (ad 121), .int (F 21), .ref (ad 123), .ref (ad 124), .ref (ad 125), .ref (ad 126), .int (F 26), .ref (ad 128), .ref (ad 129), .ref (ad 130), .ref (ad 131), .ref (ad 132), .int (F 32), .ref (ad 134)])) := ⟨_, rfl⟩
            have hP : va_P D vwCl (wl Ls ad G_72) H := by rw [eG_72]; exact hP
            have hD : va_D (fun q => b0 ≤ q) (wl Ls ad G_72) := by rw [eG_72]; exact hD
            have a17 : G_72 118 = .inl (y 0, 24, .inl (A 17)) := by rw [eG_72, va_up_ne _ _ (by omega)]; exact a17
            have a18 : G_72 119 = .inl (y 0, 24, .inl (A 18)) := by rw [eG_72, va_up_ne _ _ (by omega)]; exact a18
            have a19 : G_72 120 = .inl (y 0, 216, .inl (A 19)) := by rw [eG_72, va_up_ne _ _ (by omega)]; exact a19
            have a20 : G_72 121 = .inl (y 0, 216, .inl (A 20)) := by rw [eG_72, va_up_ne _ _ (by omega)]; exact a20
            have eM : G_72 100 = .inr (10, [.int 3, .int (F 1), .ref (ad 103), .int (F 3), .ref (ad 105), .ref (ad 106), .ref (ad 107), .ref (ad 108), .int (F 8), .ref (ad 110), .ref (ad 111), .ref (ad 112), .ref (ad 113), .int (F 13), .int (nI nu), .ref (ad 116), .ref (ad 117), .ref (ad 118), .ref (ad 119), .ref (ad 120), .ref (ad 121), .int (F 21), .ref (ad 123), .ref (ad 124), .ref (ad 125), .ref (ad 126), .int (F 26), .ref (ad 128), .ref (ad 129), .ref (ad 130), .ref (ad 131), .ref (ad 132), .int (F 32), .ref (ad 134)]) := by rw [eG_72]; exact va_up_self _ _ _
            have hMc : ModelAt y Ls ad G_72 (va_up F 0 3) A := (ModelAt_w hM (eM.trans (by rw [← h14]; rfl)) (fun k hk => Or.inl ⟨by rw [eG_72, va_up_ne _ _ (by omega), eG_32, va_up_ne _ _ (by omega)], rfl⟩))
            have hfrc : ∀ j, (j < 100 ∨ 134 < j) → G_72 j = G j := (fun j h9 => by rw [eG_72, va_up_ne _ _ (by omega), eG_32, va_up_ne _ _ (by omega)])
            refine lv_aload_n hx hb dX8_change_75 rfl (lv_at hl 0 rfl) ?_
            refine pv_get (ci := 10) (C := RX8) (T := TX8) (N := 34) hx hb hts hinX8 hown hK hP hM.1 eM rfl 0 (by decide) (hts (.fieldLink RX8 86 "StorageChargeModel" "code" "I") (by decide +kernel)) (fun _ h9 => h9) rfl dX8_change_76 ?_
            refine lv_if_le (tgt := 84) hx hb dX8_change_79 (by decide) (fun c_79 => ?_) (fun c_79 => ?_)
            · exact absurd c_79 (by decide)
            · refine lv_iconst (v := 0) hx hb dX8_change_82 (by decide) ?_
              refine W.widen (k := 0) (n := 0) (Nat.le_of_ble_eq_true rfl) (Nat.le_of_ble_eq_true rfl) ?_
              exact W.zret (v := 0) hx hb hr (by first | rfl | decide | (simp [narrow]; done) | assumption) (fun t ht hW => ⟨⟨0, wl Ls ad G_72, rfl, Or.inr (Or.inr ⟨i, hi, rfl, ⟨(Decidable.byContradiction fun h => c_17 (by rw [hr_14]; exact wI_eq0.mpr h)), (Decidable.byContradiction fun h => c_24 (by rw [hr_21]; exact wI_eq0.mpr h))⟩, Or.inl ⟨hlate, _, rfl, hMc, hfrc⟩⟩), by rw [ht]; exact hP, hD⟩, hS.F ht⟩) hS.2.2 dX8_change_83
      · refine lv_iconst (v := 2) hx hb dX8_change_27 (by decide) ?_
        refine lv_goto (tgt := 32) hx hb dX8_change_28 (by decide) ?_
        refine pv_put (ci := 10) (v := .int 2) (ty := .int) (C := RX8) (T := TX8) (N := 34) hx hb hts hinX8 tyX8 tyX8_ok nmX8 hown hK hP hD hS hM.1 eM rfl 0 (by decide) (hts (.fieldLink RX8 86 "StorageChargeModel" "code" "I") (by decide +kernel)) (fun _ h9 => h9) rfl (by decide +kernel) rfl rfl (Nat.le_of_ble_eq_true rfl) dX8_change_32 (fun H locs hP hD hS => ?_)
        obtain ⟨G_32, eG_32⟩ : ∃ gg9 : Nat → va_E, gg9 = va_up G 100 (.inr (10, [.int 2, .int (F 1), .ref (ad 103), .int (F 3), .ref (ad 105), .ref (ad 106), .ref (ad 107), .ref (ad 108), .int (F 8), .ref (ad 110), .ref (ad 111), .ref (ad 112), .ref (ad 113), .int (F 13), .int (nI nu), .ref (ad 116), .ref (ad 117), .ref (ad 118), .ref (ad 119), .ref (ad 120), .ref (ad 121), .int (F 21), .ref (ad 123), .ref (ad 124), .ref (ad 125), .ref (ad 126), .int (F 26), .ref (ad 128), .ref (ad 129), .ref (ad 130), .ref (ad 131), .ref (ad 132), .int (F 32), .ref (ad 134)])) := ⟨_, rfl⟩
        have hP : va_P D vwCl (wl Ls ad G_32) H := by rw [eG_32]; exact hP
        have hD : va_D (fun q => b0 ≤ q) (wl Ls ad G_32) := by rw [eG_32]; exact hD
        have a17 : G_32 118 = .inl (y 0, 24, .inl (A 17)) := by rw [eG_32, va_up_ne _ _ (by omega)]; exact a17
        have a18 : G_32 119 = .inl (y 0, 24, .inl (A 18)) := by rw [eG_32, va_up_ne _ _ (by omega)]; exact a18
        have a19 : G_32 120 = .inl (y 0, 216, .inl (A 19)) := by rw [eG_32, va_up_ne _ _ (by omega)]; exact a19
        have a20 : G_32 121 = .inl (y 0, 216, .inl (A 20)) := by rw [eG_32, va_up_ne _ _ (by omega)]; exact a20
        have eM : G_32 100 = .inr (10, [.int 2, .int (F 1), .ref (ad 103), .int (F 3), .ref (ad 105), .ref (ad 106), .ref (ad 107), .ref (ad 108), .int (F 8), .ref (ad 110), .ref (ad 111), .ref (ad 112), .ref (ad 113), .int (F 13), .int (nI nu), .ref (ad 116), .ref (ad 117), .ref (ad 118), .ref (ad 119), .ref (ad 120), .ref (ad 121), .int (F 21), .ref (ad 123), .ref (ad 124), .ref (ad 125), .ref (ad 126), .int (F 26), .ref (ad 128), .ref (ad 129), .ref (ad 130), .ref (ad 131), .ref (ad 132), .int (F 32), .ref (ad 134)]) := by rw [eG_32]; exact va_up_self _ _ _
        refine lv_aload_n hx hb dX8_change_35 rfl (lv_at hl 0 rfl) ?_
        refine pv_get (ci := 10) (C := RX8) (T := TX8) (N := 34) hx hb hts hinX8 hown hK hP hM.1 eM rfl 0 (by decide) (hts (.fieldLink RX8 86 "StorageChargeModel" "code" "I") (by decide +kernel)) (fun _ h9 => h9) rfl dX8_change_36 ?_
        refine lv_if_ne (tgt := 75) hx hb dX8_change_39 (by decide) (fun c_39 => ?_) (fun c_39 => ?_)
        · have hMc : ModelAt y Ls ad G_32 (va_up F 0 2) A := (ModelAt_w hM (eM.trans (by rw [← h14]; rfl)) (fun k hk => Or.inl ⟨by rw [eG_32, va_up_ne _ _ (by omega)], rfl⟩))
          have hfrc : ∀ j, (j < 100 ∨ 134 < j) → G_32 j = G j := (fun j h9 => by rw [eG_32, va_up_ne _ _ (by omega)])
          refine lv_aload_n hx hb dX8_change_75 rfl (lv_at hl 0 rfl) ?_
          refine pv_get (ci := 10) (C := RX8) (T := TX8) (N := 34) hx hb hts hinX8 hown hK hP hM.1 eM rfl 0 (by decide) (hts (.fieldLink RX8 86 "StorageChargeModel" "code" "I") (by decide +kernel)) (fun _ h9 => h9) rfl dX8_change_76 ?_
          refine lv_if_le (tgt := 84) hx hb dX8_change_79 (by decide) (fun c_79 => ?_) (fun c_79 => ?_)
          · exact absurd c_79 (by decide)
          · refine lv_iconst (v := 0) hx hb dX8_change_82 (by decide) ?_
            refine W.widen (k := 0) (n := 0) (Nat.le_of_ble_eq_true rfl) (Nat.le_of_ble_eq_true rfl) ?_
            exact W.zret (v := 0) hx hb hr (by first | rfl | decide | (simp [narrow]; done) | assumption) (fun t ht hW => ⟨⟨0, wl Ls ad G_32, rfl, Or.inr (Or.inl ⟨hq9, (by first | exact fun h => absurd h.1 (wI_eq0.mp (by rw [← hr_14]; exact c_17)) | exact fun h => absurd h.2 (wI_eq0.mp (by rw [← hr_21]; exact c_24))), _, rfl, hMc, hfrc⟩), by rw [ht]; exact hP, hD⟩, hS.F ht⟩) hS.2.2 dX8_change_83
        · exact absurd c_39 (by decide)
  · refine lv_iconst (v := 1) hx hb dX8_change_9 (by decide) ?_
    refine lv_goto (tgt := 32) hx hb dX8_change_10 (by decide) ?_
    refine pv_put (ci := 10) (v := .int 1) (ty := .int) (C := RX8) (T := TX8) (N := 34) hx hb hts hinX8 tyX8 tyX8_ok nmX8 hown hK hP hD hS hM.1 eM rfl 0 (by decide) (hts (.fieldLink RX8 86 "StorageChargeModel" "code" "I") (by decide +kernel)) (fun _ h9 => h9) rfl (by decide +kernel) rfl rfl (Nat.le_of_ble_eq_true rfl) dX8_change_32 (fun H locs hP hD hS => ?_)
    obtain ⟨G_32, eG_32⟩ : ∃ gg9 : Nat → va_E, gg9 = va_up G 100 (.inr (10, [.int 1, .int (F 1), .ref (ad 103), .int (F 3), .ref (ad 105), .ref (ad 106), .ref (ad 107), .ref (ad 108), .int (F 8), .ref (ad 110), .ref (ad 111), .ref (ad 112), .ref (ad 113), .int (F 13), .int (nI nu), .ref (ad 116), .ref (ad 117), .ref (ad 118), .ref (ad 119), .ref (ad 120), .ref (ad 121), .int (F 21), .ref (ad 123), .ref (ad 124), .ref (ad 125), .ref (ad 126), .int (F 26), .ref (ad 128), .ref (ad 129), .ref (ad 130), .ref (ad 131), .ref (ad 132), .int (F 32), .ref (ad 134)])) := ⟨_, rfl⟩
    have hP : va_P D vwCl (wl Ls ad G_32) H := by rw [eG_32]; exact hP
    have hD : va_D (fun q => b0 ≤ q) (wl Ls ad G_32) := by rw [eG_32]; exact hD
    have a17 : G_32 118 = .inl (y 0, 24, .inl (A 17)) := by rw [eG_32, va_up_ne _ _ (by omega)]; exact a17
    have a18 : G_32 119 = .inl (y 0, 24, .inl (A 18)) := by rw [eG_32, va_up_ne _ _ (by omega)]; exact a18
    have a19 : G_32 120 = .inl (y 0, 216, .inl (A 19)) := by rw [eG_32, va_up_ne _ _ (by omega)]; exact a19
    have a20 : G_32 121 = .inl (y 0, 216, .inl (A 20)) := by rw [eG_32, va_up_ne _ _ (by omega)]; exact a20
    have eM : G_32 100 = .inr (10, [.int 1, .int (F 1), .ref (ad 103), .int (F 3), .ref (ad 105), .ref (ad 106), .ref (ad 107), .ref (ad 108), .int (F 8), .ref (ad 110), .ref (ad 111), .ref (ad 112), .ref (ad 113), .int (F 13), .int (nI nu), .ref (ad 116), .ref (ad 117), .ref (ad 118), .ref (ad 119), .ref (ad 120), .ref (ad 121), .int (F 21), .ref (ad 123), .ref (ad 124), .ref (ad 125), .ref (ad 126), .int (F 26), .ref (ad 128), .ref (ad 129), .ref (ad 130), .ref (ad 131), .ref (ad 132), .int (F 32), .ref (ad 134)]) := by rw [eG_32]; exact va_up_self _ _ _
    refine lv_aload_n hx hb dX8_change_35 rfl (lv_at hl 0 rfl) ?_
    refine pv_get (ci := 10) (C := RX8) (T := TX8) (N := 34) hx hb hts hinX8 hown hK hP hM.1 eM rfl 0 (by decide) (hts (.fieldLink RX8 86 "StorageChargeModel" "code" "I") (by decide +kernel)) (fun _ h9 => h9) rfl dX8_change_36 ?_
    refine lv_if_ne (tgt := 75) hx hb dX8_change_39 (by decide) (fun c_39 => ?_) (fun c_39 => ?_)
    · have hMc : ModelAt y Ls ad G_32 (va_up F 0 1) A := (ModelAt_w hM (eM.trans (by rw [← h14]; rfl)) (fun k hk => Or.inl ⟨by rw [eG_32, va_up_ne _ _ (by omega)], rfl⟩))
      have hfrc : ∀ j, (j < 100 ∨ 134 < j) → G_32 j = G j := (fun j h9 => by rw [eG_32, va_up_ne _ _ (by omega)])
      refine lv_aload_n hx hb dX8_change_75 rfl (lv_at hl 0 rfl) ?_
      refine pv_get (ci := 10) (C := RX8) (T := TX8) (N := 34) hx hb hts hinX8 hown hK hP hM.1 eM rfl 0 (by decide) (hts (.fieldLink RX8 86 "StorageChargeModel" "code" "I") (by decide +kernel)) (fun _ h9 => h9) rfl dX8_change_76 ?_
      refine lv_if_le (tgt := 84) hx hb dX8_change_79 (by decide) (fun c_79 => ?_) (fun c_79 => ?_)
      · exact absurd c_79 (by decide)
      · refine lv_iconst (v := 0) hx hb dX8_change_82 (by decide) ?_
        refine W.widen (k := 0) (n := 0) (Nat.le_of_ble_eq_true rfl) (Nat.le_of_ble_eq_true rfl) ?_
        exact W.zret (v := 0) hx hb hr (by first | rfl | decide | (simp [narrow]; done) | assumption) (fun t ht hW => ⟨⟨0, wl Ls ad G_32, rfl, Or.inl ⟨(wI_eq0.mp (by rw [← hr_3]; exact c_6)), _, rfl, hMc, hfrc⟩, by rw [ht]; exact hP, hD⟩, hS.F ht⟩) hS.2.2 dX8_change_83
    · exact absurd c_39 (by decide)

set_option maxHeartbeats 4000000 in
set_option maxRecDepth 100000 in
/-- gone -/
theorem c_X8_gone (l : Launch) (hl0 : l.stackTraces = false) (D : va_G) (y : Nat → ClassId) (b0 : Nat) (Ls : List Nat) (ad : Nat → Nat) (G : Nat → va_E) (F : Nat → Int32) (A : Nat → Nat → Int32) (hM : ModelAt y Ls ad G F A) (nu : Nat) (h14 : F 14 = nI nu) (hnu : nu ≤ 24) (tn : Nat → Nat) (htn : ∀ u, u < nu → A 18 u = nI (tn u) ∧ 1 ≤ tn u ∧ tn u ≤ 9) (a0 da : Int32) : Met l yX8_gone wsX8_gone ({ frames := 2, cells := 0, slots := 0, locals := 43 }) (va_Pc [.ref (ad 100), .int a0, .int da] (WdM D y b0 (wl Ls ad G))) (va_Qi (fun (r : Int32) (u : va_W) => (¬ inR a0 (nI nu - 1) ∧ ∃ G2, u = wl Ls ad G2 ∧ ModelAt y Ls ad G2 (va_up F 0 1) A ∧ (∀ j, (j < 100 ∨ 134 < j) → G2 j = G j)) ∨ (inR a0 (nI nu - 1) ∧ ¬ inR da 3599 ∧ ∃ G2, u = wl Ls ad G2 ∧ ModelAt y Ls ad G2 (va_up F 0 2) A ∧ (∀ j, (j < 100 ∨ 134 < j) → G2 j = G j)) ∨ (∃ i, i < nu ∧ a0 = nI i ∧ inR da 3599 ∧ (((¬ A 17 i = 100000 ∨ da < A 19 (9 * i + tn i - 1)) ∧ ∃ G2, u = wl Ls ad G2 ∧ ModelAt y Ls ad G2 (va_up F 0 3) A ∧ (∀ j, (j < 100 ∨ 134 < j) → G2 j = G j)) ∨ ((A 17 i = 100000 ∧ A 19 (9 * i + tn i - 1) ≤ da) ∧ r = da - A 16 i + 1 ∧ ∃ G2, u = wl Ls ad G2 ∧ ModelAt y Ls ad G2 (va_up F 0 0) (va_up A 17 (upd (A 17) i da)) ∧ (∀ j, (j < 100 ∨ 134 < j) → G2 j = G j))))) (WB D b0) (fun q => b0 ≤ q)) 0 0 (fun q => b0 ≤ q) := by
  refine Met.ofW (cc := cX8_gone) (maxL := 3) (ret := (some .int)) (by decide) rfl ?_
  intro p e s m args below meth c s₁ B hml hv
  obtain ⟨rfl, ⟨hP, hK, hN⟩, hD, hb0, hT⟩ := hv
  have hx := B.exec
  have hb := B.bytes
  have hr := B.returns
  have hts := atoms_spec (ws := wsX8_gone) B.pre
  have hown : s.vm.findClass RX8 = some m.cls := findClass_of_methodNamed B.named
  have hlocks := B.notSynchronized
  have hS : va_S (fun q => b0 ≤ q) s.heap s.heap [] := va_S.rf
  have hinX8 : ∀ w ∈ wsX80, w ∈ wsX8_gone := by decide +kernel
  have eM : G 100 = .inr (10, [.int (F 0), .int (F 1), .ref (ad 103), .int (F 3), .ref (ad 105), .ref (ad 106), .ref (ad 107), .ref (ad 108), .int (F 8), .ref (ad 110), .ref (ad 111), .ref (ad 112), .ref (ad 113), .int (F 13), .int (nI nu), .ref (ad 116), .ref (ad 117), .ref (ad 118), .ref (ad 119), .ref (ad 120), .ref (ad 121), .int (F 21), .ref (ad 123), .ref (ad 124), .ref (ad 125), .ref (ad 126), .int (F 26), .ref (ad 128), .ref (ad 129), .ref (ad 130), .ref (ad 131), .ref (ad 132), .int (F 32), .ref (ad 134)]) := hM.2.1.trans (by rw [mfs, h14])
  obtain ⟨j16, a16⟩ : 117 ∈ Ls ∧ G 117 = .inl (y 0, 24, .inl (A 16)) := hM.2.2 16 (by decide)
  obtain ⟨j17, a17⟩ : 118 ∈ Ls ∧ G 118 = .inl (y 0, 24, .inl (A 17)) := hM.2.2 17 (by decide)
  have hl := lv_entry ([.ref (ad 100), .int a0, .int da]) (n := 3) (Nat.le_of_ble_eq_true rfl)
  rw [lg_entry_eq]
  generalize (lg_sl ([.ref (ad 100), .int a0, .int da]) ++ List.replicate (3 - (lg_sl ([.ref (ad 100), .int a0, .int da])).length) Slot.unset).toArray = ls at hl ⊢
  have hl : lv_has ls 3 [(0, .ref (ad 100)), (1, .int a0), (2, .int da)] := hl
  refine lv_aload_n hx hb dX8_gone_0 rfl (lv_at hl 0 rfl) ?_
  refine lv_aload_n hx hb dX8_gone_1 rfl (lv_at hl 0 rfl) ?_
  refine lv_iload_n hx hb dX8_gone_2 rfl (lv_at hl 1 rfl) ?_
  refine vp_callSi (va_Run.run (va_runV (As := [.int a0]) (rest := [.ref (ad 100)]) ⟨hx, hb, hml, hown, hts⟩ (c_X8_isUnit l D y Ls ad G F A hM nu h14 a0) (cwV 1 hts gX8_gone_X8_isUnit rfl rfl rfl (by decide +kernel) ⟨Nat.le_of_ble_eq_true rfl, Nat.le_of_ble_eq_true rfl⟩) ⟨Wd_blind, Wd_recv hK hP (ci := 10) rfl hM.1 eM, Wd_at hP hK hN⟩ rfl rfl hl.1 rfl (lv_room (Nat.le_of_ble_eq_true rfl)) dX8_gone_3 ⟨(Nat.le_of_ble_eq_true rfl), (Nat.le_of_ble_eq_true rfl)⟩)) (fun r_3 hr_3 => ?_)
  refine lv_if_ne (tgt := 13) hx hb dX8_gone_6 (by decide) (fun c_6 => ?_) (fun c_6 => ?_)
  · have hq9 : inR a0 (nI nu - 1) := (Decidable.byContradiction fun h => c_6 (by rw [hr_3]; exact wI_eq0.mpr h))
    obtain ⟨i, hi, rfl⟩ := in_len (by omega) hq9
    obtain ⟨ht9, ht1, ht2⟩ := htn i hi
    refine lv_iload_n hx hb dX8_gone_13 rfl (lv_at hl 2 rfl) ?_
    refine vp_callSi (va_Run.run (va_runS (As := [.int da]) (rest := [.ref (ad 100)]) ⟨hx, hb, hml, hown, hts⟩ (c_X8_isDay l da) (va_cwS 1 hts gX8_gone_X8_isDay rfl rfl rfl (by decide +kernel) ⟨Nat.le_of_ble_eq_true rfl, Nat.le_of_ble_eq_true rfl⟩) ⟨fun _ _ _ _ q => q, fun U hU hW => ⟨rfl, trivial⟩⟩ rfl rfl hl.1 rfl (lv_room (Nat.le_of_ble_eq_true rfl)) dX8_gone_14 ⟨(Nat.le_of_ble_eq_true rfl), (Nat.le_of_ble_eq_true rfl)⟩)) (fun r_14 hr_14 => ?_)
    refine lv_if_ne (tgt := 24) hx hb dX8_gone_17 (by decide) (fun c_17 => ?_) (fun c_17 => ?_)
    · refine lv_iconst (v := 0) hx hb dX8_gone_24 (by decide) ?_
      refine pv_put (ci := 10) (v := .int 0) (ty := .int) (C := RX8) (T := TX8) (N := 34) hx hb hts hinX8 tyX8 tyX8_ok nmX8 hown hK hP hD hS hM.1 eM rfl 0 (by decide) (hts (.fieldLink RX8 86 "StorageChargeModel" "code" "I") (by decide +kernel)) (fun _ h9 => h9) rfl (by decide +kernel) rfl rfl (Nat.le_of_ble_eq_true rfl) dX8_gone_25 (fun H locs hP hD hS => ?_)
      obtain ⟨G_25, eG_25⟩ : ∃ gg9 : Nat → va_E, gg9 = va_up G 100 (.inr (10, [.int 0, .int (F 1), .ref (ad 103), .int (F 3), .ref (ad 105), .ref (ad 106), .ref (ad 107), .ref (ad 108), .int (F 8), .ref (ad 110), .ref (ad 111), .ref (ad 112), .ref (ad 113), .int (F 13), .int (nI nu), .ref (ad 116), .ref (ad 117), .ref (ad 118), .ref (ad 119), .ref (ad 120), .ref (ad 121), .int (F 21), .ref (ad 123), .ref (ad 124), .ref (ad 125), .ref (ad 126), .int (F 26), .ref (ad 128), .ref (ad 129), .ref (ad 130), .ref (ad 131), .ref (ad 132), .int (F 32), .ref (ad 134)])) := ⟨_, rfl⟩
      have hP : va_P D vwCl (wl Ls ad G_25) H := by rw [eG_25]; exact hP
      have hD : va_D (fun q => b0 ≤ q) (wl Ls ad G_25) := by rw [eG_25]; exact hD
      have a16 : G_25 117 = .inl (y 0, 24, .inl (A 16)) := by rw [eG_25, va_up_ne _ _ (by omega)]; exact a16
      have a17 : G_25 118 = .inl (y 0, 24, .inl (A 17)) := by rw [eG_25, va_up_ne _ _ (by omega)]; exact a17
      have eM : G_25 100 = .inr (10, [.int 0, .int (F 1), .ref (ad 103), .int (F 3), .ref (ad 105), .ref (ad 106), .ref (ad 107), .ref (ad 108), .int (F 8), .ref (ad 110), .ref (ad 111), .ref (ad 112), .ref (ad 113), .int (F 13), .int (nI nu), .ref (ad 116), .ref (ad 117), .ref (ad 118), .ref (ad 119), .ref (ad 120), .ref (ad 121), .int (F 21), .ref (ad 123), .ref (ad 124), .ref (ad 125), .ref (ad 126), .int (F 26), .ref (ad 128), .ref (ad 129), .ref (ad 130), .ref (ad 131), .ref (ad 132), .int (F 32), .ref (ad 134)]) := by rw [eG_25]; exact va_up_self _ _ _
      refine lv_aload_n hx hb dX8_gone_28 rfl (lv_at hl 0 rfl) ?_
      refine pv_get (ci := 10) (C := RX8) (T := TX8) (N := 34) hx hb hts hinX8 hown hK hP hM.1 eM rfl 0 (by decide) (hts (.fieldLink RX8 86 "StorageChargeModel" "code" "I") (by decide +kernel)) (fun _ h9 => h9) rfl dX8_gone_29 ?_
      refine lv_if_ne (tgt := 53) hx hb dX8_gone_32 (by decide) (fun c_32 => ?_) (fun c_32 => ?_)
      · exact absurd rfl c_32
      · have hM0 : ModelAt y Ls ad G_25 (va_up F 0 0) A := (ModelAt_w hM (eM.trans (by rw [← h14]; rfl)) (fun k hk => Or.inl ⟨by rw [eG_25, va_up_ne _ _ (by omega)], rfl⟩))
        refine lv_aload_n hx hb dX8_gone_35 rfl (lv_at hl 0 rfl) ?_
        refine lv_aload_n hx hb dX8_gone_36 rfl (lv_at hl 0 rfl) ?_
        refine lv_iload_n hx hb dX8_gone_37 rfl (lv_at hl 1 rfl) ?_
        refine lv_iload_n hx hb dX8_gone_38 rfl (lv_at hl 2 rfl) ?_
        refine vp_callSi (va_Run.run (va_runV (As := [.int (nI i), .int da]) (rest := [.ref (ad 100)]) ⟨hx, hb, hml, hown, hts⟩ (c_X8_isLate l D y Ls ad G_25 (va_up F 0 0) A hM0 i (tn i) (by omega) ht9 ht1 ht2 da) (cwV 2 hts gX8_gone_X8_isLate rfl rfl rfl (by decide +kernel) ⟨Nat.le_of_ble_eq_true rfl, Nat.le_of_ble_eq_true rfl⟩) ⟨Wd_blind, Wd_recv hK hP (ci := 10) rfl hM.1 eM, Wd_at hP hK hN⟩ rfl rfl hl.1 rfl (lv_room (Nat.le_of_ble_eq_true rfl)) dX8_gone_39 ⟨(Nat.le_of_ble_eq_true rfl), (Nat.le_of_ble_eq_true rfl)⟩)) (fun r_39 hr_39 => ?_)
        refine lv_if_eq (tgt := 49) hx hb dX8_gone_42 (by decide) (fun c_42 => ?_) (fun c_42 => ?_)
        · have hont : A 17 i = 100000 ∧ A 19 (9 * i + tn i - 1) ≤ da := hr_39.elim (fun h => absurd (h.1.symm.trans c_42) (by decide)) (fun h => h.2)
          refine lv_iconst (v := 0) hx hb dX8_gone_49 (by decide) ?_
          refine pv_put (ci := 10) (v := .int 0) (ty := .int) (C := RX8) (T := TX8) (N := 34) hx hb hts hinX8 tyX8 tyX8_ok nmX8 hown hK hP hD hS hM.1 eM rfl 0 (by decide) (hts (.fieldLink RX8 86 "StorageChargeModel" "code" "I") (by decide +kernel)) (fun _ h9 => h9) rfl (by decide +kernel) rfl rfl (Nat.le_of_ble_eq_true rfl) dX8_gone_50 (fun H locs hP hD hS => ?_)
          obtain ⟨G_50, eG_50⟩ : ∃ gg9 : Nat → va_E, gg9 = va_up G_25 100 (.inr (10, [.int 0, .int (F 1), .ref (ad 103), .int (F 3), .ref (ad 105), .ref (ad 106), .ref (ad 107), .ref (ad 108), .int (F 8), .ref (ad 110), .ref (ad 111), .ref (ad 112), .ref (ad 113), .int (F 13), .int (nI nu), .ref (ad 116), .ref (ad 117), .ref (ad 118), .ref (ad 119), .ref (ad 120), .ref (ad 121), .int (F 21), .ref (ad 123), .ref (ad 124), .ref (ad 125), .ref (ad 126), .int (F 26), .ref (ad 128), .ref (ad 129), .ref (ad 130), .ref (ad 131), .ref (ad 132), .int (F 32), .ref (ad 134)])) := ⟨_, rfl⟩
          have hP : va_P D vwCl (wl Ls ad G_50) H := by rw [eG_50]; exact hP
          have hD : va_D (fun q => b0 ≤ q) (wl Ls ad G_50) := by rw [eG_50]; exact hD
          have a16 : G_50 117 = .inl (y 0, 24, .inl (A 16)) := by rw [eG_50, va_up_ne _ _ (by omega)]; exact a16
          have a17 : G_50 118 = .inl (y 0, 24, .inl (A 17)) := by rw [eG_50, va_up_ne _ _ (by omega)]; exact a17
          have eM : G_50 100 = .inr (10, [.int 0, .int (F 1), .ref (ad 103), .int (F 3), .ref (ad 105), .ref (ad 106), .ref (ad 107), .ref (ad 108), .int (F 8), .ref (ad 110), .ref (ad 111), .ref (ad 112), .ref (ad 113), .int (F 13), .int (nI nu), .ref (ad 116), .ref (ad 117), .ref (ad 118), .ref (ad 119), .ref (ad 120), .ref (ad 121), .int (F 21), .ref (ad 123), .ref (ad 124), .ref (ad 125), .ref (ad 126), .int (F 26), .ref (ad 128), .ref (ad 129), .ref (ad 130), .ref (ad 131), .ref (ad 132), .int (F 32), .ref (ad 134)]) := by rw [eG_50]; exact va_up_self _ _ _
          have hMc : ModelAt y Ls ad G_50 (va_up F 0 0) A := (ModelAt_w hM (eM.trans (by rw [← h14]; rfl)) (fun k hk => Or.inl ⟨by rw [eG_50, va_up_ne _ _ (by omega), eG_25, va_up_ne _ _ (by omega)], rfl⟩))
          have hfrc : ∀ j, (j < 100 ∨ 134 < j) → G_50 j = G j := (fun j h9 => by rw [eG_50, va_up_ne _ _ (by omega), eG_25, va_up_ne _ _ (by omega)])
          refine lv_aload_n hx hb dX8_gone_53 rfl (lv_at hl 0 rfl) ?_
          refine pv_get (ci := 10) (C := RX8) (T := TX8) (N := 34) hx hb hts hinX8 hown hK hP hM.1 eM rfl 0 (by decide) (hts (.fieldLink RX8 86 "StorageChargeModel" "code" "I") (by decide +kernel)) (fun _ h9 => h9) rfl dX8_gone_54 ?_
          refine lv_if_le (tgt := 62) hx hb dX8_gone_57 (by decide) (fun c_57 => ?_) (fun c_57 => ?_)
          · refine lv_aload_n hx hb dX8_gone_62 rfl (lv_at hl 0 rfl) ?_
            refine pv_get (ci := 10) (C := RX8) (T := TX8) (N := 34) hx hb hts hinX8 hown hK hP hM.1 eM rfl 17 (by decide) (hts (.fieldLink RX8 43 "StorageChargeModel" "to" "[I") (by decide +kernel)) (fun _ h9 => h9) rfl dX8_gone_63 ?_
            refine lv_iload_n hx hb dX8_gone_66 rfl (lv_at hl 1 rfl) ?_
            refine lv_iload_n hx hb dX8_gone_67 rfl (lv_at hl 2 rfl) ?_
            refine pv_iast hx hb hK hP hD hS j17 0 a17 rfl (k := i) rfl (by omega) (by decide) dX8_gone_68 (fun H locs hP hD hS => ?_)
            obtain ⟨G_68, eG_68⟩ : ∃ gg9 : Nat → va_E, gg9 = va_up G_50 118 (.inl (y 0, 24, .inl (upd (A 17) i da))) := ⟨_, rfl⟩
            have hP : va_P D vwCl (wl Ls ad G_68) H := by rw [eG_68]; exact hP
            have hD : va_D (fun q => b0 ≤ q) (wl Ls ad G_68) := by rw [eG_68]; exact hD
            have eM : G_68 100 = .inr (10, [.int 0, .int (F 1), .ref (ad 103), .int (F 3), .ref (ad 105), .ref (ad 106), .ref (ad 107), .ref (ad 108), .int (F 8), .ref (ad 110), .ref (ad 111), .ref (ad 112), .ref (ad 113), .int (F 13), .int (nI nu), .ref (ad 116), .ref (ad 117), .ref (ad 118), .ref (ad 119), .ref (ad 120), .ref (ad 121), .int (F 21), .ref (ad 123), .ref (ad 124), .ref (ad 125), .ref (ad 126), .int (F 26), .ref (ad 128), .ref (ad 129), .ref (ad 130), .ref (ad 131), .ref (ad 132), .int (F 32), .ref (ad 134)]) := by rw [eG_68, va_up_ne _ _ (by omega)]; exact eM
            have a16 : G_68 117 = .inl (y 0, 24, .inl (A 16)) := by rw [eG_68, va_up_ne _ _ (by omega)]; exact a16
            have a17 : G_68 118 = .inl (y 0, 24, .inl (upd (A 17) i da)) := by rw [eG_68]; exact va_up_self _ _ _
            refine lv_iload_n hx hb dX8_gone_69 rfl (lv_at hl 2 rfl) ?_
            refine lv_aload_n hx hb dX8_gone_70 rfl (lv_at hl 0 rfl) ?_
            refine pv_get (ci := 10) (C := RX8) (T := TX8) (N := 34) hx hb hts hinX8 hown hK hP hM.1 eM rfl 16 (by decide) (hts (.fieldLink RX8 40 "StorageChargeModel" "from" "[I") (by decide +kernel)) (fun _ h9 => h9) rfl dX8_gone_71 ?_
            refine lv_iload_n hx hb dX8_gone_74 rfl (lv_at hl 1 rfl) ?_
            refine pv_iald hx hb hK hP j16 0 a16 rfl (k := i) rfl (by omega) (by decide) dX8_gone_75 ?_
            refine lv_isub hx hb dX8_gone_76 ?_
            refine lv_iconst (v := 1) hx hb dX8_gone_77 (by decide) ?_
            refine lv_iadd hx hb dX8_gone_78 ?_
            refine W.widen (k := 0) (n := 0) (Nat.le_of_ble_eq_true rfl) (Nat.le_of_ble_eq_true rfl) ?_
            exact W.iret (v := ((da - ((A 16) i)) + 1)) hx hb hr (fun t ht hW => ⟨⟨((da - ((A 16) i)) + 1), wl Ls ad G_68, rfl, Or.inr (Or.inr ⟨i, hi, rfl, (Decidable.byContradiction fun h => c_17 (by rw [hr_14]; exact wI_eq0.mpr h)), Or.inr ⟨hont, rfl, _, rfl, (ModelAt_w hM (eM.trans (by rw [← h14]; rfl)) (fun k hk => if h179 : k = 17 then Or.inr (by subst h179; exact a17) else (Or.inl ⟨by rw [eG_68, va_up_ne _ _ (by omega), eG_50, va_up_ne _ _ (by omega), eG_25, va_up_ne _ _ (by omega)], by rw [va_up_ne _ _ h179]⟩))), (fun j h9 => by rw [eG_68, va_up_ne _ _ (by omega), eG_50, va_up_ne _ _ (by omega), eG_25, va_up_ne _ _ (by omega)])⟩⟩), by rw [ht]; exact hP, hD⟩, hS.F ht⟩) hS.2.2 dX8_gone_79
          · exact absurd (by decide) c_57
        · have hlate : ¬ A 17 i = 100000 ∨ da < A 19 (9 * i + tn i - 1) := hr_39.elim (fun h => h.2) (fun h => absurd h.1 c_42)
          refine lv_iconst (v := 3) hx hb dX8_gone_45 (by decide) ?_
          refine lv_goto (tgt := 50) hx hb dX8_gone_46 (by decide) ?_
          refine pv_put (ci := 10) (v := .int 3) (ty := .int) (C := RX8) (T := TX8) (N := 34) hx hb hts hinX8 tyX8 tyX8_ok nmX8 hown hK hP hD hS hM.1 eM rfl 0 (by decide) (hts (.fieldLink RX8 86 "StorageChargeModel" "code" "I") (by decide +kernel)) (fun _ h9 => h9) rfl (by decide +kernel) rfl rfl (Nat.le_of_ble_eq_true rfl) dX8_gone_50 (fun H locs hP hD hS => ?_)
          obtain ⟨G_50, eG_50⟩ : ∃ gg9 : Nat → va_E, gg9 = va_up G_25 100 (.inr (10, [.int 3, .int (F 1), .ref (ad 103), .int (F 3), .ref (ad 105), .ref (ad 106), .ref (ad 107), .ref (ad 108), .int (F 8), .ref (ad 110), .ref (ad 111), .ref (ad 112), .ref (ad 113), .int (F 13), .int (nI nu), .ref (ad 116), .ref (ad 117), .ref (ad 118), .ref (ad 119), .ref (ad 120), .ref (ad 121), .int (F 21), .ref (ad 123), .ref (ad 124), .ref (ad 125), .ref (ad 126), .int (F 26), .ref (ad 128), .ref (ad 129), .ref (ad 130), .ref (ad 131), .ref (ad 132), .int (F 32), .ref (ad 134)])) := ⟨_, rfl⟩
          have hP : va_P D vwCl (wl Ls ad G_50) H := by rw [eG_50]; exact hP
          have hD : va_D (fun q => b0 ≤ q) (wl Ls ad G_50) := by rw [eG_50]; exact hD
          have a16 : G_50 117 = .inl (y 0, 24, .inl (A 16)) := by rw [eG_50, va_up_ne _ _ (by omega)]; exact a16
          have a17 : G_50 118 = .inl (y 0, 24, .inl (A 17)) := by rw [eG_50, va_up_ne _ _ (by omega)]; exact a17
          have eM : G_50 100 = .inr (10, [.int 3, .int (F 1), .ref (ad 103), .int (F 3), .ref (ad 105), .ref (ad 106), .ref (ad 107), .ref (ad 108), .int (F 8), .ref (ad 110), .ref (ad 111), .ref (ad 112), .ref (ad 113), .int (F 13), .int (nI nu), .ref (ad 116), .ref (ad 117), .ref (ad 118), .ref (ad 119), .ref (ad 120), .ref (ad 121), .int (F 21), .ref (ad 123), .ref (ad 124), .ref (ad 125), .ref (ad 126), .int (F 26), .ref (ad 128), .ref (ad 129), .ref (ad 130), .ref (ad 131), .ref (ad 132), .int (F 32), .ref (ad 134)]) := by rw [eG_50]; exact va_up_self _ _ _
          have hMc : ModelAt y Ls ad G_50 (va_up F 0 3) A := (ModelAt_w hM (eM.trans (by rw [← h14]; rfl)) (fun k hk => Or.inl ⟨by rw [eG_50, va_up_ne _ _ (by omega), eG_25, va_up_ne _ _ (by omega)], rfl⟩))
          have hfrc : ∀ j, (j < 100 ∨ 134 < j) → G_50 j = G j := (fun j h9 => by rw [eG_50, va_up_ne _ _ (by omega), eG_25, va_up_ne _ _ (by omega)])
          refine lv_aload_n hx hb dX8_gone_53 rfl (lv_at hl 0 rfl) ?_
          refine pv_get (ci := 10) (C := RX8) (T := TX8) (N := 34) hx hb hts hinX8 hown hK hP hM.1 eM rfl 0 (by decide) (hts (.fieldLink RX8 86 "StorageChargeModel" "code" "I") (by decide +kernel)) (fun _ h9 => h9) rfl dX8_gone_54 ?_
          refine lv_if_le (tgt := 62) hx hb dX8_gone_57 (by decide) (fun c_57 => ?_) (fun c_57 => ?_)
          · exact absurd c_57 (by decide)
          · refine lv_iconst (v := 0) hx hb dX8_gone_60 (by decide) ?_
            refine W.widen (k := 0) (n := 0) (Nat.le_of_ble_eq_true rfl) (Nat.le_of_ble_eq_true rfl) ?_
            exact W.iret (v := 0) hx hb hr (fun t ht hW => ⟨⟨0, wl Ls ad G_50, rfl, Or.inr (Or.inr ⟨i, hi, rfl, (Decidable.byContradiction fun h => c_17 (by rw [hr_14]; exact wI_eq0.mpr h)), Or.inl ⟨hlate, _, rfl, hMc, hfrc⟩⟩), by rw [ht]; exact hP, hD⟩, hS.F ht⟩) hS.2.2 dX8_gone_61
    · refine lv_iconst (v := 2) hx hb dX8_gone_20 (by decide) ?_
      refine lv_goto (tgt := 25) hx hb dX8_gone_21 (by decide) ?_
      refine pv_put (ci := 10) (v := .int 2) (ty := .int) (C := RX8) (T := TX8) (N := 34) hx hb hts hinX8 tyX8 tyX8_ok nmX8 hown hK hP hD hS hM.1 eM rfl 0 (by decide) (hts (.fieldLink RX8 86 "StorageChargeModel" "code" "I") (by decide +kernel)) (fun _ h9 => h9) rfl (by decide +kernel) rfl rfl (Nat.le_of_ble_eq_true rfl) dX8_gone_25 (fun H locs hP hD hS => ?_)
      obtain ⟨G_25, eG_25⟩ : ∃ gg9 : Nat → va_E, gg9 = va_up G 100 (.inr (10, [.int 2, .int (F 1), .ref (ad 103), .int (F 3), .ref (ad 105), .ref (ad 106), .ref (ad 107), .ref (ad 108), .int (F 8), .ref (ad 110), .ref (ad 111), .ref (ad 112), .ref (ad 113), .int (F 13), .int (nI nu), .ref (ad 116), .ref (ad 117), .ref (ad 118), .ref (ad 119), .ref (ad 120), .ref (ad 121), .int (F 21), .ref (ad 123), .ref (ad 124), .ref (ad 125), .ref (ad 126), .int (F 26), .ref (ad 128), .ref (ad 129), .ref (ad 130), .ref (ad 131), .ref (ad 132), .int (F 32), .ref (ad 134)])) := ⟨_, rfl⟩
      have hP : va_P D vwCl (wl Ls ad G_25) H := by rw [eG_25]; exact hP
      have hD : va_D (fun q => b0 ≤ q) (wl Ls ad G_25) := by rw [eG_25]; exact hD
      have a16 : G_25 117 = .inl (y 0, 24, .inl (A 16)) := by rw [eG_25, va_up_ne _ _ (by omega)]; exact a16
      have a17 : G_25 118 = .inl (y 0, 24, .inl (A 17)) := by rw [eG_25, va_up_ne _ _ (by omega)]; exact a17
      have eM : G_25 100 = .inr (10, [.int 2, .int (F 1), .ref (ad 103), .int (F 3), .ref (ad 105), .ref (ad 106), .ref (ad 107), .ref (ad 108), .int (F 8), .ref (ad 110), .ref (ad 111), .ref (ad 112), .ref (ad 113), .int (F 13), .int (nI nu), .ref (ad 116), .ref (ad 117), .ref (ad 118), .ref (ad 119), .ref (ad 120), .ref (ad 121), .int (F 21), .ref (ad 123), .ref (ad 124), .ref (ad 125), .ref (ad 126), .int (F 26), .ref (ad 128), .ref (ad 129), .ref (ad 130), .ref (ad 131), .ref (ad 132), .int (F 32), .ref (ad 134)]) := by rw [eG_25]; exact va_up_self _ _ _
      refine lv_aload_n hx hb dX8_gone_28 rfl (lv_at hl 0 rfl) ?_
      refine pv_get (ci := 10) (C := RX8) (T := TX8) (N := 34) hx hb hts hinX8 hown hK hP hM.1 eM rfl 0 (by decide) (hts (.fieldLink RX8 86 "StorageChargeModel" "code" "I") (by decide +kernel)) (fun _ h9 => h9) rfl dX8_gone_29 ?_
      refine lv_if_ne (tgt := 53) hx hb dX8_gone_32 (by decide) (fun c_32 => ?_) (fun c_32 => ?_)
      · have hMc : ModelAt y Ls ad G_25 (va_up F 0 2) A := (ModelAt_w hM (eM.trans (by rw [← h14]; rfl)) (fun k hk => Or.inl ⟨by rw [eG_25, va_up_ne _ _ (by omega)], rfl⟩))
        have hfrc : ∀ j, (j < 100 ∨ 134 < j) → G_25 j = G j := (fun j h9 => by rw [eG_25, va_up_ne _ _ (by omega)])
        refine lv_aload_n hx hb dX8_gone_53 rfl (lv_at hl 0 rfl) ?_
        refine pv_get (ci := 10) (C := RX8) (T := TX8) (N := 34) hx hb hts hinX8 hown hK hP hM.1 eM rfl 0 (by decide) (hts (.fieldLink RX8 86 "StorageChargeModel" "code" "I") (by decide +kernel)) (fun _ h9 => h9) rfl dX8_gone_54 ?_
        refine lv_if_le (tgt := 62) hx hb dX8_gone_57 (by decide) (fun c_57 => ?_) (fun c_57 => ?_)
        · exact absurd c_57 (by decide)
        · refine lv_iconst (v := 0) hx hb dX8_gone_60 (by decide) ?_
          refine W.widen (k := 0) (n := 0) (Nat.le_of_ble_eq_true rfl) (Nat.le_of_ble_eq_true rfl) ?_
          exact W.iret (v := 0) hx hb hr (fun t ht hW => ⟨⟨0, wl Ls ad G_25, rfl, Or.inr (Or.inl ⟨hq9, (wI_eq0.mp (by rw [← hr_14]; exact c_17)), _, rfl, hMc, hfrc⟩), by rw [ht]; exact hP, hD⟩, hS.F ht⟩) hS.2.2 dX8_gone_61
      · exact absurd c_32 (by decide)
  · refine lv_iconst (v := 1) hx hb dX8_gone_9 (by decide) ?_
    refine lv_goto (tgt := 25) hx hb dX8_gone_10 (by decide) ?_
    refine pv_put (ci := 10) (v := .int 1) (ty := .int) (C := RX8) (T := TX8) (N := 34) hx hb hts hinX8 tyX8 tyX8_ok nmX8 hown hK hP hD hS hM.1 eM rfl 0 (by decide) (hts (.fieldLink RX8 86 "StorageChargeModel" "code" "I") (by decide +kernel)) (fun _ h9 => h9) rfl (by decide +kernel) rfl rfl (Nat.le_of_ble_eq_true rfl) dX8_gone_25 (fun H locs hP hD hS => ?_)
    obtain ⟨G_25, eG_25⟩ : ∃ gg9 : Nat → va_E, gg9 = va_up G 100 (.inr (10, [.int 1, .int (F 1), .ref (ad 103), .int (F 3), .ref (ad 105), .ref (ad 106), .ref (ad 107), .ref (ad 108), .int (F 8), .ref (ad 110), .ref (ad 111), .ref (ad 112), .ref (ad 113), .int (F 13), .int (nI nu), .ref (ad 116), .ref (ad 117), .ref (ad 118), .ref (ad 119), .ref (ad 120), .ref (ad 121), .int (F 21), .ref (ad 123), .ref (ad 124), .ref (ad 125), .ref (ad 126), .int (F 26), .ref (ad 128), .ref (ad 129), .ref (ad 130), .ref (ad 131), .ref (ad 132), .int (F 32), .ref (ad 134)])) := ⟨_, rfl⟩
    have hP : va_P D vwCl (wl Ls ad G_25) H := by rw [eG_25]; exact hP
    have hD : va_D (fun q => b0 ≤ q) (wl Ls ad G_25) := by rw [eG_25]; exact hD
    have a16 : G_25 117 = .inl (y 0, 24, .inl (A 16)) := by rw [eG_25, va_up_ne _ _ (by omega)]; exact a16
    have a17 : G_25 118 = .inl (y 0, 24, .inl (A 17)) := by rw [eG_25, va_up_ne _ _ (by omega)]; exact a17
    have eM : G_25 100 = .inr (10, [.int 1, .int (F 1), .ref (ad 103), .int (F 3), .ref (ad 105), .ref (ad 106), .ref (ad 107), .ref (ad 108), .int (F 8), .ref (ad 110), .ref (ad 111), .ref (ad 112), .ref (ad 113), .int (F 13), .int (nI nu), .ref (ad 116), .ref (ad 117), .ref (ad 118), .ref (ad 119), .ref (ad 120), .ref (ad 121), .int (F 21), .ref (ad 123), .ref (ad 124), .ref (ad 125), .ref (ad 126), .int (F 26), .ref (ad 128), .ref (ad 129), .ref (ad 130), .ref (ad 131), .ref (ad 132), .int (F 32), .ref (ad 134)]) := by rw [eG_25]; exact va_up_self _ _ _
    refine lv_aload_n hx hb dX8_gone_28 rfl (lv_at hl 0 rfl) ?_
    refine pv_get (ci := 10) (C := RX8) (T := TX8) (N := 34) hx hb hts hinX8 hown hK hP hM.1 eM rfl 0 (by decide) (hts (.fieldLink RX8 86 "StorageChargeModel" "code" "I") (by decide +kernel)) (fun _ h9 => h9) rfl dX8_gone_29 ?_
    refine lv_if_ne (tgt := 53) hx hb dX8_gone_32 (by decide) (fun c_32 => ?_) (fun c_32 => ?_)
    · have hMc : ModelAt y Ls ad G_25 (va_up F 0 1) A := (ModelAt_w hM (eM.trans (by rw [← h14]; rfl)) (fun k hk => Or.inl ⟨by rw [eG_25, va_up_ne _ _ (by omega)], rfl⟩))
      have hfrc : ∀ j, (j < 100 ∨ 134 < j) → G_25 j = G j := (fun j h9 => by rw [eG_25, va_up_ne _ _ (by omega)])
      refine lv_aload_n hx hb dX8_gone_53 rfl (lv_at hl 0 rfl) ?_
      refine pv_get (ci := 10) (C := RX8) (T := TX8) (N := 34) hx hb hts hinX8 hown hK hP hM.1 eM rfl 0 (by decide) (hts (.fieldLink RX8 86 "StorageChargeModel" "code" "I") (by decide +kernel)) (fun _ h9 => h9) rfl dX8_gone_54 ?_
      refine lv_if_le (tgt := 62) hx hb dX8_gone_57 (by decide) (fun c_57 => ?_) (fun c_57 => ?_)
      · exact absurd c_57 (by decide)
      · refine lv_iconst (v := 0) hx hb dX8_gone_60 (by decide) ?_
        refine W.widen (k := 0) (n := 0) (Nat.le_of_ble_eq_true rfl) (Nat.le_of_ble_eq_true rfl) ?_
        exact W.iret (v := 0) hx hb hr (fun t ht hW => ⟨⟨0, wl Ls ad G_25, rfl, Or.inl ⟨(wI_eq0.mp (by rw [← hr_3]; exact c_6)), _, rfl, hMc, hfrc⟩, by rw [ht]; exact hP, hD⟩, hS.F ht⟩) hS.2.2 dX8_gone_61
    · exact absurd c_32 (by decide)

set_option maxHeartbeats 4000000 in
set_option maxRecDepth 100000 in
/-- move -/
theorem c_X8_move (l : Launch) (hl0 : l.stackTraces = false) (D : va_G) (y : Nat → ClassId) (b0 : Nat) (Ls : List Nat) (ad : Nat → Nat) (G : Nat → va_E) (F : Nat → Int32) (A : Nat → Nat → Int32) (hM : ModelAt y Ls ad G F A) (nm : Nat) (h21 : F 21 = nI nm) (hnm : nm ≤ 60) (o kd da pc0 : Int32) : Met l yX8_move wsX8_move ({ frames := 2, cells := 0, slots := 0, locals := 42 }) (va_Pc [.ref (ad 100), .int o, .int kd, .int da, .int pc0] (WdM D y b0 (wl Ls ad G))) (va_Qi (fun (r : Int32) (u : va_W) => (¬ (inR o 7 ∧ inR kd 4 ∧ inR da 3599 ∧ (1 ≤ pc0 ∧ pc0 ≤ 100)) ∧ ∃ G2, u = wl Ls ad G2 ∧ ModelAt y Ls ad G2 (va_up F 0 1) A ∧ (∀ j, (j < 100 ∨ 134 < j) → G2 j = G j)) ∨ ((inR o 7 ∧ inR kd 4 ∧ inR da 3599 ∧ (1 ≤ pc0 ∧ pc0 ≤ 100)) ∧ nm = 60 ∧ ∃ G2, u = wl Ls ad G2 ∧ ModelAt y Ls ad G2 (va_up F 0 2) A ∧ (∀ j, (j < 100 ∨ 134 < j) → G2 j = G j)) ∨ ((inR o 7 ∧ inR kd 4 ∧ inR da 3599 ∧ (1 ≤ pc0 ∧ pc0 ≤ 100)) ∧ nm < 60 ∧ r = nI (cnt (upd (A 22) nm o) o (nm + 1)) ∧ ∃ G2, u = wl Ls ad G2 ∧ ModelAt y Ls ad G2 (va_up (va_up F 0 0) 21 (nI (nm + 1))) (va_up (va_up (va_up (va_up A 22 (upd (A 22) nm o)) 23 (upd (A 23) nm kd)) 24 (upd (A 24) nm da)) 25 (upd (A 25) nm pc0)) ∧ (∀ j, (j < 100 ∨ 134 < j) → G2 j = G j))) (WB D b0) (fun q => b0 ≤ q)) 0 0 (fun q => b0 ≤ q) := by
  refine Met.ofW (cc := cX8_move) (maxL := 7) (ret := (some .int)) (by decide) rfl ?_
  intro p e s m args below meth c s₁ B hml hv
  obtain ⟨rfl, ⟨hP, hK, hN⟩, hD, hb0, hT⟩ := hv
  have hx := B.exec
  have hb := B.bytes
  have hr := B.returns
  have hts := atoms_spec (ws := wsX8_move) B.pre
  have hown : s.vm.findClass RX8 = some m.cls := findClass_of_methodNamed B.named
  have hlocks := B.notSynchronized
  have hS : va_S (fun q => b0 ≤ q) s.heap s.heap [] := va_S.rf
  have hinX8 : ∀ w ∈ wsX80, w ∈ wsX8_move := by decide +kernel
  have eM : G 100 = .inr (10, [.int (F 0), .int (F 1), .ref (ad 103), .int (F 3), .ref (ad 105), .ref (ad 106), .ref (ad 107), .ref (ad 108), .int (F 8), .ref (ad 110), .ref (ad 111), .ref (ad 112), .ref (ad 113), .int (F 13), .int (F 14), .ref (ad 116), .ref (ad 117), .ref (ad 118), .ref (ad 119), .ref (ad 120), .ref (ad 121), .int (nI nm), .ref (ad 123), .ref (ad 124), .ref (ad 125), .ref (ad 126), .int (F 26), .ref (ad 128), .ref (ad 129), .ref (ad 130), .ref (ad 131), .ref (ad 132), .int (F 32), .ref (ad 134)]) := hM.2.1.trans (by rw [mfs, h21])
  obtain ⟨j22, a22⟩ : 123 ∈ Ls ∧ G 123 = .inl (y 0, 60, .inl (A 22)) := hM.2.2 22 (by decide)
  obtain ⟨j23, a23⟩ : 124 ∈ Ls ∧ G 124 = .inl (y 0, 60, .inl (A 23)) := hM.2.2 23 (by decide)
  obtain ⟨j24, a24⟩ : 125 ∈ Ls ∧ G 125 = .inl (y 0, 60, .inl (A 24)) := hM.2.2 24 (by decide)
  obtain ⟨j25, a25⟩ : 126 ∈ Ls ∧ G 126 = .inl (y 0, 60, .inl (A 25)) := hM.2.2 25 (by decide)
  have hl := lv_entry ([.ref (ad 100), .int o, .int kd, .int da, .int pc0]) (n := 7) (Nat.le_of_ble_eq_true rfl)
  rw [lg_entry_eq]
  generalize (lg_sl ([.ref (ad 100), .int o, .int kd, .int da, .int pc0]) ++ List.replicate (7 - (lg_sl ([.ref (ad 100), .int o, .int kd, .int da, .int pc0])).length) Slot.unset).toArray = ls at hl ⊢
  have hl : lv_has ls 7 [(0, .ref (ad 100)), (1, .int o), (2, .int kd), (3, .int da), (4, .int pc0)] := hl
  refine lv_aload_n hx hb dX8_move_0 rfl (lv_at hl 0 rfl) ?_
  refine lv_iload_n hx hb dX8_move_1 rfl (lv_at hl 1 rfl) ?_
  refine vp_callSi (va_Run.run (va_runS (As := [.int o]) (rest := [.ref (ad 100)]) ⟨hx, hb, hml, hown, hts⟩ (c_X8_isOwner l o) (va_cwS 1 hts gX8_move_X8_isOwner rfl rfl rfl (by decide +kernel) ⟨Nat.le_of_ble_eq_true rfl, Nat.le_of_ble_eq_true rfl⟩) ⟨fun _ _ _ _ q => q, fun U hU hW => ⟨rfl, trivial⟩⟩ rfl rfl hl.1 rfl (lv_room (Nat.le_of_ble_eq_true rfl)) dX8_move_2 ⟨(Nat.le_of_ble_eq_true rfl), (Nat.le_of_ble_eq_true rfl)⟩)) (fun r_2 hr_2 => ?_)
  refine lv_if_eq (tgt := 33) hx hb dX8_move_5 (by decide) (fun c_5 => ?_) (fun c_5 => ?_)
  · refine lv_iconst (v := 1) hx hb dX8_move_33 (by decide) ?_
    refine lv_goto (tgt := 51) hx hb dX8_move_34 (by decide) ?_
    refine pv_put (ci := 10) (v := .int 1) (ty := .int) (C := RX8) (T := TX8) (N := 34) hx hb hts hinX8 tyX8 tyX8_ok nmX8 hown hK hP hD hS hM.1 eM rfl 0 (by decide) (hts (.fieldLink RX8 86 "StorageChargeModel" "code" "I") (by decide +kernel)) (fun _ h9 => h9) rfl (by decide +kernel) rfl rfl (Nat.le_of_ble_eq_true rfl) dX8_move_51 (fun H locs hP hD hS => ?_)
    obtain ⟨G_51, eG_51⟩ : ∃ gg9 : Nat → va_E, gg9 = va_up G 100 (.inr (10, [.int 1, .int (F 1), .ref (ad 103), .int (F 3), .ref (ad 105), .ref (ad 106), .ref (ad 107), .ref (ad 108), .int (F 8), .ref (ad 110), .ref (ad 111), .ref (ad 112), .ref (ad 113), .int (F 13), .int (F 14), .ref (ad 116), .ref (ad 117), .ref (ad 118), .ref (ad 119), .ref (ad 120), .ref (ad 121), .int (nI nm), .ref (ad 123), .ref (ad 124), .ref (ad 125), .ref (ad 126), .int (F 26), .ref (ad 128), .ref (ad 129), .ref (ad 130), .ref (ad 131), .ref (ad 132), .int (F 32), .ref (ad 134)])) := ⟨_, rfl⟩
    have hP : va_P D vwCl (wl Ls ad G_51) H := by rw [eG_51]; exact hP
    have hD : va_D (fun q => b0 ≤ q) (wl Ls ad G_51) := by rw [eG_51]; exact hD
    have a22 : G_51 123 = .inl (y 0, 60, .inl (A 22)) := by rw [eG_51, va_up_ne _ _ (by omega)]; exact a22
    have a23 : G_51 124 = .inl (y 0, 60, .inl (A 23)) := by rw [eG_51, va_up_ne _ _ (by omega)]; exact a23
    have a24 : G_51 125 = .inl (y 0, 60, .inl (A 24)) := by rw [eG_51, va_up_ne _ _ (by omega)]; exact a24
    have a25 : G_51 126 = .inl (y 0, 60, .inl (A 25)) := by rw [eG_51, va_up_ne _ _ (by omega)]; exact a25
    have eM : G_51 100 = .inr (10, [.int 1, .int (F 1), .ref (ad 103), .int (F 3), .ref (ad 105), .ref (ad 106), .ref (ad 107), .ref (ad 108), .int (F 8), .ref (ad 110), .ref (ad 111), .ref (ad 112), .ref (ad 113), .int (F 13), .int (F 14), .ref (ad 116), .ref (ad 117), .ref (ad 118), .ref (ad 119), .ref (ad 120), .ref (ad 121), .int (nI nm), .ref (ad 123), .ref (ad 124), .ref (ad 125), .ref (ad 126), .int (F 26), .ref (ad 128), .ref (ad 129), .ref (ad 130), .ref (ad 131), .ref (ad 132), .int (F 32), .ref (ad 134)]) := by rw [eG_51]; exact va_up_self _ _ _
    have hMc : ModelAt y Ls ad G_51 (va_up F 0 1) A := (ModelAt_w hM (eM.trans (by rw [← h21]; rfl)) (fun k hk => Or.inl ⟨by rw [eG_51, va_up_ne _ _ (by omega)], rfl⟩))
    have hfrc : ∀ j, (j < 100 ∨ 134 < j) → G_51 j = G j := (fun j h9 => by rw [eG_51, va_up_ne _ _ (by omega)])
    refine lv_aload_n hx hb dX8_move_54 rfl (lv_at hl 0 rfl) ?_
    refine pv_get (ci := 10) (C := RX8) (T := TX8) (N := 34) hx hb hts hinX8 hown hK hP hM.1 eM rfl 0 (by decide) (hts (.fieldLink RX8 86 "StorageChargeModel" "code" "I") (by decide +kernel)) (fun _ h9 => h9) rfl dX8_move_55 ?_
    refine lv_if_le (tgt := 63) hx hb dX8_move_58 (by decide) (fun c_58 => ?_) (fun c_58 => ?_)
    · exact absurd c_58 (by decide)
    · refine lv_iconst (v := 0) hx hb dX8_move_61 (by decide) ?_
      refine W.widen (k := 0) (n := 0) (Nat.le_of_ble_eq_true rfl) (Nat.le_of_ble_eq_true rfl) ?_
      exact W.iret (v := 0) hx hb hr (fun t ht hW => ⟨⟨0, wl Ls ad G_51, rfl, (by first | exact Or.inl ⟨fun h => absurd h.1 (wI_eq0.mp (by rw [← hr_2]; exact c_5)), _, rfl, hMc, hfrc⟩ | exact Or.inl ⟨fun h => absurd h.2.1 (wI_eq0.mp (by rw [← hr_9]; exact c_12)), _, rfl, hMc, hfrc⟩ | exact Or.inl ⟨fun h => absurd h.2.2.1 (wI_eq0.mp (by rw [← hr_16]; exact c_19)), _, rfl, hMc, hfrc⟩ | exact Or.inl ⟨fun h => absurd h.2.2.2 (wI_eq0.mp (by rw [← hr_27]; exact c_30)), _, rfl, hMc, hfrc⟩), by rw [ht]; exact hP, hD⟩, hS.F ht⟩) hS.2.2 dX8_move_62
  · refine lv_iload_n hx hb dX8_move_8 rfl (lv_at hl 2 rfl) ?_
    refine vp_callSi (va_Run.run (va_runS (As := [.int kd]) (rest := [.ref (ad 100)]) ⟨hx, hb, hml, hown, hts⟩ (c_X8_isKind l kd) (va_cwS 1 hts gX8_move_X8_isKind rfl rfl rfl (by decide +kernel) ⟨Nat.le_of_ble_eq_true rfl, Nat.le_of_ble_eq_true rfl⟩) ⟨fun _ _ _ _ q => q, fun U hU hW => ⟨rfl, trivial⟩⟩ rfl rfl hl.1 rfl (lv_room (Nat.le_of_ble_eq_true rfl)) dX8_move_9 ⟨(Nat.le_of_ble_eq_true rfl), (Nat.le_of_ble_eq_true rfl)⟩)) (fun r_9 hr_9 => ?_)
    refine lv_if_eq (tgt := 33) hx hb dX8_move_12 (by decide) (fun c_12 => ?_) (fun c_12 => ?_)
    · refine lv_iconst (v := 1) hx hb dX8_move_33 (by decide) ?_
      refine lv_goto (tgt := 51) hx hb dX8_move_34 (by decide) ?_
      refine pv_put (ci := 10) (v := .int 1) (ty := .int) (C := RX8) (T := TX8) (N := 34) hx hb hts hinX8 tyX8 tyX8_ok nmX8 hown hK hP hD hS hM.1 eM rfl 0 (by decide) (hts (.fieldLink RX8 86 "StorageChargeModel" "code" "I") (by decide +kernel)) (fun _ h9 => h9) rfl (by decide +kernel) rfl rfl (Nat.le_of_ble_eq_true rfl) dX8_move_51 (fun H locs hP hD hS => ?_)
      obtain ⟨G_51, eG_51⟩ : ∃ gg9 : Nat → va_E, gg9 = va_up G 100 (.inr (10, [.int 1, .int (F 1), .ref (ad 103), .int (F 3), .ref (ad 105), .ref (ad 106), .ref (ad 107), .ref (ad 108), .int (F 8), .ref (ad 110), .ref (ad 111), .ref (ad 112), .ref (ad 113), .int (F 13), .int (F 14), .ref (ad 116), .ref (ad 117), .ref (ad 118), .ref (ad 119), .ref (ad 120), .ref (ad 121), .int (nI nm), .ref (ad 123), .ref (ad 124), .ref (ad 125), .ref (ad 126), .int (F 26), .ref (ad 128), .ref (ad 129), .ref (ad 130), .ref (ad 131), .ref (ad 132), .int (F 32), .ref (ad 134)])) := ⟨_, rfl⟩
      have hP : va_P D vwCl (wl Ls ad G_51) H := by rw [eG_51]; exact hP
      have hD : va_D (fun q => b0 ≤ q) (wl Ls ad G_51) := by rw [eG_51]; exact hD
      have a22 : G_51 123 = .inl (y 0, 60, .inl (A 22)) := by rw [eG_51, va_up_ne _ _ (by omega)]; exact a22
      have a23 : G_51 124 = .inl (y 0, 60, .inl (A 23)) := by rw [eG_51, va_up_ne _ _ (by omega)]; exact a23
      have a24 : G_51 125 = .inl (y 0, 60, .inl (A 24)) := by rw [eG_51, va_up_ne _ _ (by omega)]; exact a24
      have a25 : G_51 126 = .inl (y 0, 60, .inl (A 25)) := by rw [eG_51, va_up_ne _ _ (by omega)]; exact a25
      have eM : G_51 100 = .inr (10, [.int 1, .int (F 1), .ref (ad 103), .int (F 3), .ref (ad 105), .ref (ad 106), .ref (ad 107), .ref (ad 108), .int (F 8), .ref (ad 110), .ref (ad 111), .ref (ad 112), .ref (ad 113), .int (F 13), .int (F 14), .ref (ad 116), .ref (ad 117), .ref (ad 118), .ref (ad 119), .ref (ad 120), .ref (ad 121), .int (nI nm), .ref (ad 123), .ref (ad 124), .ref (ad 125), .ref (ad 126), .int (F 26), .ref (ad 128), .ref (ad 129), .ref (ad 130), .ref (ad 131), .ref (ad 132), .int (F 32), .ref (ad 134)]) := by rw [eG_51]; exact va_up_self _ _ _
      have hMc : ModelAt y Ls ad G_51 (va_up F 0 1) A := (ModelAt_w hM (eM.trans (by rw [← h21]; rfl)) (fun k hk => Or.inl ⟨by rw [eG_51, va_up_ne _ _ (by omega)], rfl⟩))
      have hfrc : ∀ j, (j < 100 ∨ 134 < j) → G_51 j = G j := (fun j h9 => by rw [eG_51, va_up_ne _ _ (by omega)])
      refine lv_aload_n hx hb dX8_move_54 rfl (lv_at hl 0 rfl) ?_
      refine pv_get (ci := 10) (C := RX8) (T := TX8) (N := 34) hx hb hts hinX8 hown hK hP hM.1 eM rfl 0 (by decide) (hts (.fieldLink RX8 86 "StorageChargeModel" "code" "I") (by decide +kernel)) (fun _ h9 => h9) rfl dX8_move_55 ?_
      refine lv_if_le (tgt := 63) hx hb dX8_move_58 (by decide) (fun c_58 => ?_) (fun c_58 => ?_)
      · exact absurd c_58 (by decide)
      · refine lv_iconst (v := 0) hx hb dX8_move_61 (by decide) ?_
        refine W.widen (k := 0) (n := 0) (Nat.le_of_ble_eq_true rfl) (Nat.le_of_ble_eq_true rfl) ?_
        exact W.iret (v := 0) hx hb hr (fun t ht hW => ⟨⟨0, wl Ls ad G_51, rfl, (by first | exact Or.inl ⟨fun h => absurd h.1 (wI_eq0.mp (by rw [← hr_2]; exact c_5)), _, rfl, hMc, hfrc⟩ | exact Or.inl ⟨fun h => absurd h.2.1 (wI_eq0.mp (by rw [← hr_9]; exact c_12)), _, rfl, hMc, hfrc⟩ | exact Or.inl ⟨fun h => absurd h.2.2.1 (wI_eq0.mp (by rw [← hr_16]; exact c_19)), _, rfl, hMc, hfrc⟩ | exact Or.inl ⟨fun h => absurd h.2.2.2 (wI_eq0.mp (by rw [← hr_27]; exact c_30)), _, rfl, hMc, hfrc⟩), by rw [ht]; exact hP, hD⟩, hS.F ht⟩) hS.2.2 dX8_move_62
    · refine lv_iload_n hx hb dX8_move_15 rfl (lv_at hl 3 rfl) ?_
      refine vp_callSi (va_Run.run (va_runS (As := [.int da]) (rest := [.ref (ad 100)]) ⟨hx, hb, hml, hown, hts⟩ (c_X8_isDay l da) (va_cwS 1 hts gX8_move_X8_isDay rfl rfl rfl (by decide +kernel) ⟨Nat.le_of_ble_eq_true rfl, Nat.le_of_ble_eq_true rfl⟩) ⟨fun _ _ _ _ q => q, fun U hU hW => ⟨rfl, trivial⟩⟩ rfl rfl hl.1 rfl (lv_room (Nat.le_of_ble_eq_true rfl)) dX8_move_16 ⟨(Nat.le_of_ble_eq_true rfl), (Nat.le_of_ble_eq_true rfl)⟩)) (fun r_16 hr_16 => ?_)
      refine lv_if_eq (tgt := 33) hx hb dX8_move_19 (by decide) (fun c_19 => ?_) (fun c_19 => ?_)
      · refine lv_iconst (v := 1) hx hb dX8_move_33 (by decide) ?_
        refine lv_goto (tgt := 51) hx hb dX8_move_34 (by decide) ?_
        refine pv_put (ci := 10) (v := .int 1) (ty := .int) (C := RX8) (T := TX8) (N := 34) hx hb hts hinX8 tyX8 tyX8_ok nmX8 hown hK hP hD hS hM.1 eM rfl 0 (by decide) (hts (.fieldLink RX8 86 "StorageChargeModel" "code" "I") (by decide +kernel)) (fun _ h9 => h9) rfl (by decide +kernel) rfl rfl (Nat.le_of_ble_eq_true rfl) dX8_move_51 (fun H locs hP hD hS => ?_)
        obtain ⟨G_51, eG_51⟩ : ∃ gg9 : Nat → va_E, gg9 = va_up G 100 (.inr (10, [.int 1, .int (F 1), .ref (ad 103), .int (F 3), .ref (ad 105), .ref (ad 106), .ref (ad 107), .ref (ad 108), .int (F 8), .ref (ad 110), .ref (ad 111), .ref (ad 112), .ref (ad 113), .int (F 13), .int (F 14), .ref (ad 116), .ref (ad 117), .ref (ad 118), .ref (ad 119), .ref (ad 120), .ref (ad 121), .int (nI nm), .ref (ad 123), .ref (ad 124), .ref (ad 125), .ref (ad 126), .int (F 26), .ref (ad 128), .ref (ad 129), .ref (ad 130), .ref (ad 131), .ref (ad 132), .int (F 32), .ref (ad 134)])) := ⟨_, rfl⟩
        have hP : va_P D vwCl (wl Ls ad G_51) H := by rw [eG_51]; exact hP
        have hD : va_D (fun q => b0 ≤ q) (wl Ls ad G_51) := by rw [eG_51]; exact hD
        have a22 : G_51 123 = .inl (y 0, 60, .inl (A 22)) := by rw [eG_51, va_up_ne _ _ (by omega)]; exact a22
        have a23 : G_51 124 = .inl (y 0, 60, .inl (A 23)) := by rw [eG_51, va_up_ne _ _ (by omega)]; exact a23
        have a24 : G_51 125 = .inl (y 0, 60, .inl (A 24)) := by rw [eG_51, va_up_ne _ _ (by omega)]; exact a24
        have a25 : G_51 126 = .inl (y 0, 60, .inl (A 25)) := by rw [eG_51, va_up_ne _ _ (by omega)]; exact a25
        have eM : G_51 100 = .inr (10, [.int 1, .int (F 1), .ref (ad 103), .int (F 3), .ref (ad 105), .ref (ad 106), .ref (ad 107), .ref (ad 108), .int (F 8), .ref (ad 110), .ref (ad 111), .ref (ad 112), .ref (ad 113), .int (F 13), .int (F 14), .ref (ad 116), .ref (ad 117), .ref (ad 118), .ref (ad 119), .ref (ad 120), .ref (ad 121), .int (nI nm), .ref (ad 123), .ref (ad 124), .ref (ad 125), .ref (ad 126), .int (F 26), .ref (ad 128), .ref (ad 129), .ref (ad 130), .ref (ad 131), .ref (ad 132), .int (F 32), .ref (ad 134)]) := by rw [eG_51]; exact va_up_self _ _ _
        have hMc : ModelAt y Ls ad G_51 (va_up F 0 1) A := (ModelAt_w hM (eM.trans (by rw [← h21]; rfl)) (fun k hk => Or.inl ⟨by rw [eG_51, va_up_ne _ _ (by omega)], rfl⟩))
        have hfrc : ∀ j, (j < 100 ∨ 134 < j) → G_51 j = G j := (fun j h9 => by rw [eG_51, va_up_ne _ _ (by omega)])
        refine lv_aload_n hx hb dX8_move_54 rfl (lv_at hl 0 rfl) ?_
        refine pv_get (ci := 10) (C := RX8) (T := TX8) (N := 34) hx hb hts hinX8 hown hK hP hM.1 eM rfl 0 (by decide) (hts (.fieldLink RX8 86 "StorageChargeModel" "code" "I") (by decide +kernel)) (fun _ h9 => h9) rfl dX8_move_55 ?_
        refine lv_if_le (tgt := 63) hx hb dX8_move_58 (by decide) (fun c_58 => ?_) (fun c_58 => ?_)
        · exact absurd c_58 (by decide)
        · refine lv_iconst (v := 0) hx hb dX8_move_61 (by decide) ?_
          refine W.widen (k := 0) (n := 0) (Nat.le_of_ble_eq_true rfl) (Nat.le_of_ble_eq_true rfl) ?_
          exact W.iret (v := 0) hx hb hr (fun t ht hW => ⟨⟨0, wl Ls ad G_51, rfl, (by first | exact Or.inl ⟨fun h => absurd h.1 (wI_eq0.mp (by rw [← hr_2]; exact c_5)), _, rfl, hMc, hfrc⟩ | exact Or.inl ⟨fun h => absurd h.2.1 (wI_eq0.mp (by rw [← hr_9]; exact c_12)), _, rfl, hMc, hfrc⟩ | exact Or.inl ⟨fun h => absurd h.2.2.1 (wI_eq0.mp (by rw [← hr_16]; exact c_19)), _, rfl, hMc, hfrc⟩ | exact Or.inl ⟨fun h => absurd h.2.2.2 (wI_eq0.mp (by rw [← hr_27]; exact c_30)), _, rfl, hMc, hfrc⟩), by rw [ht]; exact hP, hD⟩, hS.F ht⟩) hS.2.2 dX8_move_62
      · refine lv_iload hx hb dX8_move_22 (lv_at hl 4 rfl) ?_
        refine lv_iconst (v := 1) hx hb dX8_move_24 (by decide) ?_
        refine lv_bipush (v := 100) hx hb dX8_move_25 (by decide) ?_
        refine vp_callSi (va_Run.run (va_runS (As := [.int pc0, .int 1, .int 100]) (rest := [.ref (ad 100)]) ⟨hx, hb, hml, hown, hts⟩ (c_X8_in l pc0 1 100) (va_cwS 3 hts gX8_move_X8_in rfl rfl rfl (by decide +kernel) ⟨Nat.le_of_ble_eq_true rfl, Nat.le_of_ble_eq_true rfl⟩) ⟨fun _ _ _ _ q => q, fun U hU hW => ⟨rfl, trivial⟩⟩ rfl rfl hl.1 rfl (lv_room (Nat.le_of_ble_eq_true rfl)) dX8_move_27 ⟨(Nat.le_of_ble_eq_true rfl), (Nat.le_of_ble_eq_true rfl)⟩)) (fun r_27 hr_27 => ?_)
        refine lv_if_ne (tgt := 37) hx hb dX8_move_30 (by decide) (fun c_30 => ?_) (fun c_30 => ?_)
        · refine lv_aload_n hx hb dX8_move_37 rfl (lv_at hl 0 rfl) ?_
          refine pv_get (ci := 10) (C := RX8) (T := TX8) (N := 34) hx hb hts hinX8 hown hK hP hM.1 eM rfl 21 (by decide) (hts (.fieldLink RX8 145 "StorageChargeModel" "moves" "I") (by decide +kernel)) (fun _ h9 => h9) rfl dX8_move_38 ?_
          refine lv_bipush (v := 60) hx hb dX8_move_41 (by decide) ?_
          refine lv_icmp_ne (tgt := 50) hx hb dX8_move_43 (by decide) (fun c_43 => ?_) (fun c_43 => ?_)
          · have hlt : nm < 60 := by
              have h9 : nm ≠ 60 := fun h => c_43 (by rw [h]; rfl)
              omega
            refine lv_iconst (v := 0) hx hb dX8_move_50 (by decide) ?_
            refine pv_put (ci := 10) (v := .int 0) (ty := .int) (C := RX8) (T := TX8) (N := 34) hx hb hts hinX8 tyX8 tyX8_ok nmX8 hown hK hP hD hS hM.1 eM rfl 0 (by decide) (hts (.fieldLink RX8 86 "StorageChargeModel" "code" "I") (by decide +kernel)) (fun _ h9 => h9) rfl (by decide +kernel) rfl rfl (Nat.le_of_ble_eq_true rfl) dX8_move_51 (fun H locs hP hD hS => ?_)
            obtain ⟨G_51, eG_51⟩ : ∃ gg9 : Nat → va_E, gg9 = va_up G 100 (.inr (10, [.int 0, .int (F 1), .ref (ad 103), .int (F 3), .ref (ad 105), .ref (ad 106), .ref (ad 107), .ref (ad 108), .int (F 8), .ref (ad 110), .ref (ad 111), .ref (ad 112), .ref (ad 113), .int (F 13), .int (F 14), .ref (ad 116), .ref (ad 117), .ref (ad 118), .ref (ad 119), .ref (ad 120), .ref (ad 121), .int (nI nm), .ref (ad 123), .ref (ad 124), .ref (ad 125), .ref (ad 126), .int (F 26), .ref (ad 128), .ref (ad 129), .ref (ad 130), .ref (ad 131), .ref (ad 132), .int (F 32), .ref (ad 134)])) := ⟨_, rfl⟩
            have hP : va_P D vwCl (wl Ls ad G_51) H := by rw [eG_51]; exact hP
            have hD : va_D (fun q => b0 ≤ q) (wl Ls ad G_51) := by rw [eG_51]; exact hD
            have a22 : G_51 123 = .inl (y 0, 60, .inl (A 22)) := by rw [eG_51, va_up_ne _ _ (by omega)]; exact a22
            have a23 : G_51 124 = .inl (y 0, 60, .inl (A 23)) := by rw [eG_51, va_up_ne _ _ (by omega)]; exact a23
            have a24 : G_51 125 = .inl (y 0, 60, .inl (A 24)) := by rw [eG_51, va_up_ne _ _ (by omega)]; exact a24
            have a25 : G_51 126 = .inl (y 0, 60, .inl (A 25)) := by rw [eG_51, va_up_ne _ _ (by omega)]; exact a25
            have eM : G_51 100 = .inr (10, [.int 0, .int (F 1), .ref (ad 103), .int (F 3), .ref (ad 105), .ref (ad 106), .ref (ad 107), .ref (ad 108), .int (F 8), .ref (ad 110), .ref (ad 111), .ref (ad 112), .ref (ad 113), .int (F 13), .int (F 14), .ref (ad 116), .ref (ad 117), .ref (ad 118), .ref (ad 119), .ref (ad 120), .ref (ad 121), .int (nI nm), .ref (ad 123), .ref (ad 124), .ref (ad 125), .ref (ad 126), .int (F 26), .ref (ad 128), .ref (ad 129), .ref (ad 130), .ref (ad 131), .ref (ad 132), .int (F 32), .ref (ad 134)]) := by rw [eG_51]; exact va_up_self _ _ _
            have hMc : ModelAt y Ls ad G_51 (va_up F 0 0) A := (ModelAt_w hM (eM.trans (by rw [← h21]; rfl)) (fun k hk => Or.inl ⟨by rw [eG_51, va_up_ne _ _ (by omega)], rfl⟩))
            have hfrc : ∀ j, (j < 100 ∨ 134 < j) → G_51 j = G j := (fun j h9 => by rw [eG_51, va_up_ne _ _ (by omega)])
            refine lv_aload_n hx hb dX8_move_54 rfl (lv_at hl 0 rfl) ?_
            refine pv_get (ci := 10) (C := RX8) (T := TX8) (N := 34) hx hb hts hinX8 hown hK hP hM.1 eM rfl 0 (by decide) (hts (.fieldLink RX8 86 "StorageChargeModel" "code" "I") (by decide +kernel)) (fun _ h9 => h9) rfl dX8_move_55 ?_
            refine lv_if_le (tgt := 63) hx hb dX8_move_58 (by decide) (fun c_58 => ?_) (fun c_58 => ?_)
            · refine lv_aload_n hx hb dX8_move_63 rfl (lv_at hl 0 rfl) ?_
              refine pv_get (ci := 10) (C := RX8) (T := TX8) (N := 34) hx hb hts hinX8 hown hK hP hM.1 eM rfl 22 (by decide) (hts (.fieldLink RX8 55 "StorageChargeModel" "moveOwner" "[I") (by decide +kernel)) (fun _ h9 => h9) rfl dX8_move_64 ?_
              refine lv_aload_n hx hb dX8_move_67 rfl (lv_at hl 0 rfl) ?_
              refine pv_get (ci := 10) (C := RX8) (T := TX8) (N := 34) hx hb hts hinX8 hown hK hP hM.1 eM rfl 21 (by decide) (hts (.fieldLink RX8 145 "StorageChargeModel" "moves" "I") (by decide +kernel)) (fun _ h9 => h9) rfl dX8_move_68 ?_
              refine lv_iload_n hx hb dX8_move_71 rfl (lv_at hl 1 rfl) ?_
              refine pv_iast hx hb hK hP hD hS j22 0 a22 rfl (k := nm) rfl (by omega) (by decide) dX8_move_72 (fun H locs hP hD hS => ?_)
              obtain ⟨G_72, eG_72⟩ : ∃ gg9 : Nat → va_E, gg9 = va_up G_51 123 (.inl (y 0, 60, .inl (upd (A 22) nm o))) := ⟨_, rfl⟩
              have hP : va_P D vwCl (wl Ls ad G_72) H := by rw [eG_72]; exact hP
              have hD : va_D (fun q => b0 ≤ q) (wl Ls ad G_72) := by rw [eG_72]; exact hD
              have eM : G_72 100 = .inr (10, [.int 0, .int (F 1), .ref (ad 103), .int (F 3), .ref (ad 105), .ref (ad 106), .ref (ad 107), .ref (ad 108), .int (F 8), .ref (ad 110), .ref (ad 111), .ref (ad 112), .ref (ad 113), .int (F 13), .int (F 14), .ref (ad 116), .ref (ad 117), .ref (ad 118), .ref (ad 119), .ref (ad 120), .ref (ad 121), .int (nI nm), .ref (ad 123), .ref (ad 124), .ref (ad 125), .ref (ad 126), .int (F 26), .ref (ad 128), .ref (ad 129), .ref (ad 130), .ref (ad 131), .ref (ad 132), .int (F 32), .ref (ad 134)]) := by rw [eG_72, va_up_ne _ _ (by omega)]; exact eM
              have a23 : G_72 124 = .inl (y 0, 60, .inl (A 23)) := by rw [eG_72, va_up_ne _ _ (by omega)]; exact a23
              have a24 : G_72 125 = .inl (y 0, 60, .inl (A 24)) := by rw [eG_72, va_up_ne _ _ (by omega)]; exact a24
              have a25 : G_72 126 = .inl (y 0, 60, .inl (A 25)) := by rw [eG_72, va_up_ne _ _ (by omega)]; exact a25
              have a22 : G_72 123 = .inl (y 0, 60, .inl (upd (A 22) nm o)) := by rw [eG_72]; exact va_up_self _ _ _
              refine lv_aload_n hx hb dX8_move_73 rfl (lv_at hl 0 rfl) ?_
              refine pv_get (ci := 10) (C := RX8) (T := TX8) (N := 34) hx hb hts hinX8 hown hK hP hM.1 eM rfl 23 (by decide) (hts (.fieldLink RX8 58 "StorageChargeModel" "moveKind" "[I") (by decide +kernel)) (fun _ h9 => h9) rfl dX8_move_74 ?_
              refine lv_aload_n hx hb dX8_move_77 rfl (lv_at hl 0 rfl) ?_
              refine pv_get (ci := 10) (C := RX8) (T := TX8) (N := 34) hx hb hts hinX8 hown hK hP hM.1 eM rfl 21 (by decide) (hts (.fieldLink RX8 145 "StorageChargeModel" "moves" "I") (by decide +kernel)) (fun _ h9 => h9) rfl dX8_move_78 ?_
              refine lv_iload_n hx hb dX8_move_81 rfl (lv_at hl 2 rfl) ?_
              refine pv_iast hx hb hK hP hD hS j23 0 a23 rfl (k := nm) rfl (by omega) (by decide) dX8_move_82 (fun H locs hP hD hS => ?_)
              obtain ⟨G_82, eG_82⟩ : ∃ gg9 : Nat → va_E, gg9 = va_up G_72 124 (.inl (y 0, 60, .inl (upd (A 23) nm kd))) := ⟨_, rfl⟩
              have hP : va_P D vwCl (wl Ls ad G_82) H := by rw [eG_82]; exact hP
              have hD : va_D (fun q => b0 ≤ q) (wl Ls ad G_82) := by rw [eG_82]; exact hD
              have eM : G_82 100 = .inr (10, [.int 0, .int (F 1), .ref (ad 103), .int (F 3), .ref (ad 105), .ref (ad 106), .ref (ad 107), .ref (ad 108), .int (F 8), .ref (ad 110), .ref (ad 111), .ref (ad 112), .ref (ad 113), .int (F 13), .int (F 14), .ref (ad 116), .ref (ad 117), .ref (ad 118), .ref (ad 119), .ref (ad 120), .ref (ad 121), .int (nI nm), .ref (ad 123), .ref (ad 124), .ref (ad 125), .ref (ad 126), .int (F 26), .ref (ad 128), .ref (ad 129), .ref (ad 130), .ref (ad 131), .ref (ad 132), .int (F 32), .ref (ad 134)]) := by rw [eG_82, va_up_ne _ _ (by omega)]; exact eM
              have a22 : G_82 123 = .inl (y 0, 60, .inl (upd (A 22) nm o)) := by rw [eG_82, va_up_ne _ _ (by omega)]; exact a22
              have a24 : G_82 125 = .inl (y 0, 60, .inl (A 24)) := by rw [eG_82, va_up_ne _ _ (by omega)]; exact a24
              have a25 : G_82 126 = .inl (y 0, 60, .inl (A 25)) := by rw [eG_82, va_up_ne _ _ (by omega)]; exact a25
              have a23 : G_82 124 = .inl (y 0, 60, .inl (upd (A 23) nm kd)) := by rw [eG_82]; exact va_up_self _ _ _
              refine lv_aload_n hx hb dX8_move_83 rfl (lv_at hl 0 rfl) ?_
              refine pv_get (ci := 10) (C := RX8) (T := TX8) (N := 34) hx hb hts hinX8 hown hK hP hM.1 eM rfl 24 (by decide) (hts (.fieldLink RX8 61 "StorageChargeModel" "moveDay" "[I") (by decide +kernel)) (fun _ h9 => h9) rfl dX8_move_84 ?_
              refine lv_aload_n hx hb dX8_move_87 rfl (lv_at hl 0 rfl) ?_
              refine pv_get (ci := 10) (C := RX8) (T := TX8) (N := 34) hx hb hts hinX8 hown hK hP hM.1 eM rfl 21 (by decide) (hts (.fieldLink RX8 145 "StorageChargeModel" "moves" "I") (by decide +kernel)) (fun _ h9 => h9) rfl dX8_move_88 ?_
              refine lv_iload_n hx hb dX8_move_91 rfl (lv_at hl 3 rfl) ?_
              refine pv_iast hx hb hK hP hD hS j24 0 a24 rfl (k := nm) rfl (by omega) (by decide) dX8_move_92 (fun H locs hP hD hS => ?_)
              obtain ⟨G_92, eG_92⟩ : ∃ gg9 : Nat → va_E, gg9 = va_up G_82 125 (.inl (y 0, 60, .inl (upd (A 24) nm da))) := ⟨_, rfl⟩
              have hP : va_P D vwCl (wl Ls ad G_92) H := by rw [eG_92]; exact hP
              have hD : va_D (fun q => b0 ≤ q) (wl Ls ad G_92) := by rw [eG_92]; exact hD
              have eM : G_92 100 = .inr (10, [.int 0, .int (F 1), .ref (ad 103), .int (F 3), .ref (ad 105), .ref (ad 106), .ref (ad 107), .ref (ad 108), .int (F 8), .ref (ad 110), .ref (ad 111), .ref (ad 112), .ref (ad 113), .int (F 13), .int (F 14), .ref (ad 116), .ref (ad 117), .ref (ad 118), .ref (ad 119), .ref (ad 120), .ref (ad 121), .int (nI nm), .ref (ad 123), .ref (ad 124), .ref (ad 125), .ref (ad 126), .int (F 26), .ref (ad 128), .ref (ad 129), .ref (ad 130), .ref (ad 131), .ref (ad 132), .int (F 32), .ref (ad 134)]) := by rw [eG_92, va_up_ne _ _ (by omega)]; exact eM
              have a22 : G_92 123 = .inl (y 0, 60, .inl (upd (A 22) nm o)) := by rw [eG_92, va_up_ne _ _ (by omega)]; exact a22
              have a23 : G_92 124 = .inl (y 0, 60, .inl (upd (A 23) nm kd)) := by rw [eG_92, va_up_ne _ _ (by omega)]; exact a23
              have a25 : G_92 126 = .inl (y 0, 60, .inl (A 25)) := by rw [eG_92, va_up_ne _ _ (by omega)]; exact a25
              have a24 : G_92 125 = .inl (y 0, 60, .inl (upd (A 24) nm da)) := by rw [eG_92]; exact va_up_self _ _ _
              refine lv_aload_n hx hb dX8_move_93 rfl (lv_at hl 0 rfl) ?_
              refine pv_get (ci := 10) (C := RX8) (T := TX8) (N := 34) hx hb hts hinX8 hown hK hP hM.1 eM rfl 25 (by decide) (hts (.fieldLink RX8 64 "StorageChargeModel" "pieces" "[I") (by decide +kernel)) (fun _ h9 => h9) rfl dX8_move_94 ?_
              refine lv_aload_n hx hb dX8_move_97 rfl (lv_at hl 0 rfl) ?_
              refine pv_get (ci := 10) (C := RX8) (T := TX8) (N := 34) hx hb hts hinX8 hown hK hP hM.1 eM rfl 21 (by decide) (hts (.fieldLink RX8 145 "StorageChargeModel" "moves" "I") (by decide +kernel)) (fun _ h9 => h9) rfl dX8_move_98 ?_
              refine lv_iload hx hb dX8_move_101 (lv_at hl 4 rfl) ?_
              refine pv_iast hx hb hK hP hD hS j25 0 a25 rfl (k := nm) rfl (by omega) (by decide) dX8_move_103 (fun H locs hP hD hS => ?_)
              obtain ⟨G_103, eG_103⟩ : ∃ gg9 : Nat → va_E, gg9 = va_up G_92 126 (.inl (y 0, 60, .inl (upd (A 25) nm pc0))) := ⟨_, rfl⟩
              have hP : va_P D vwCl (wl Ls ad G_103) H := by rw [eG_103]; exact hP
              have hD : va_D (fun q => b0 ≤ q) (wl Ls ad G_103) := by rw [eG_103]; exact hD
              have eM : G_103 100 = .inr (10, [.int 0, .int (F 1), .ref (ad 103), .int (F 3), .ref (ad 105), .ref (ad 106), .ref (ad 107), .ref (ad 108), .int (F 8), .ref (ad 110), .ref (ad 111), .ref (ad 112), .ref (ad 113), .int (F 13), .int (F 14), .ref (ad 116), .ref (ad 117), .ref (ad 118), .ref (ad 119), .ref (ad 120), .ref (ad 121), .int (nI nm), .ref (ad 123), .ref (ad 124), .ref (ad 125), .ref (ad 126), .int (F 26), .ref (ad 128), .ref (ad 129), .ref (ad 130), .ref (ad 131), .ref (ad 132), .int (F 32), .ref (ad 134)]) := by rw [eG_103, va_up_ne _ _ (by omega)]; exact eM
              have a22 : G_103 123 = .inl (y 0, 60, .inl (upd (A 22) nm o)) := by rw [eG_103, va_up_ne _ _ (by omega)]; exact a22
              have a23 : G_103 124 = .inl (y 0, 60, .inl (upd (A 23) nm kd)) := by rw [eG_103, va_up_ne _ _ (by omega)]; exact a23
              have a24 : G_103 125 = .inl (y 0, 60, .inl (upd (A 24) nm da)) := by rw [eG_103, va_up_ne _ _ (by omega)]; exact a24
              have a25 : G_103 126 = .inl (y 0, 60, .inl (upd (A 25) nm pc0)) := by rw [eG_103]; exact va_up_self _ _ _
              refine lv_aload_n hx hb dX8_move_104 rfl (lv_at hl 0 rfl) ?_
              refine lv_dup hx hb dX8_move_105 rfl ?_
              refine pv_get (ci := 10) (C := RX8) (T := TX8) (N := 34) hx hb hts hinX8 hown hK hP hM.1 eM rfl 21 (by decide) (hts (.fieldLink RX8 145 "StorageChargeModel" "moves" "I") (by decide +kernel)) (fun _ h9 => h9) rfl dX8_move_106 ?_
              refine lv_iconst (v := 1) hx hb dX8_move_109 (by decide) ?_
              refine lv_iadd hx hb dX8_move_110 ?_
              refine lv_topi (fun z9 ez9 => ?_)
              obtain rfl : z9 = nI (nm + 1) := ez9.trans (nI_1 nm)
              refine pv_put (ci := 10) (v := .int (nI (nm + 1))) (ty := .int) (C := RX8) (T := TX8) (N := 34) hx hb hts hinX8 tyX8 tyX8_ok nmX8 hown hK hP hD hS hM.1 eM rfl 21 (by decide) (hts (.fieldLink RX8 145 "StorageChargeModel" "moves" "I") (by decide +kernel)) (fun _ h9 => h9) rfl (by decide +kernel) rfl rfl (Nat.le_of_ble_eq_true rfl) dX8_move_111 (fun H locs hP hD hS => ?_)
              obtain ⟨G_111, eG_111⟩ : ∃ gg9 : Nat → va_E, gg9 = va_up G_103 100 (.inr (10, [.int 0, .int (F 1), .ref (ad 103), .int (F 3), .ref (ad 105), .ref (ad 106), .ref (ad 107), .ref (ad 108), .int (F 8), .ref (ad 110), .ref (ad 111), .ref (ad 112), .ref (ad 113), .int (F 13), .int (F 14), .ref (ad 116), .ref (ad 117), .ref (ad 118), .ref (ad 119), .ref (ad 120), .ref (ad 121), .int (nI (nm + 1)), .ref (ad 123), .ref (ad 124), .ref (ad 125), .ref (ad 126), .int (F 26), .ref (ad 128), .ref (ad 129), .ref (ad 130), .ref (ad 131), .ref (ad 132), .int (F 32), .ref (ad 134)])) := ⟨_, rfl⟩
              have hP : va_P D vwCl (wl Ls ad G_111) H := by rw [eG_111]; exact hP
              have hD : va_D (fun q => b0 ≤ q) (wl Ls ad G_111) := by rw [eG_111]; exact hD
              have a22 : G_111 123 = .inl (y 0, 60, .inl (upd (A 22) nm o)) := by rw [eG_111, va_up_ne _ _ (by omega)]; exact a22
              have a23 : G_111 124 = .inl (y 0, 60, .inl (upd (A 23) nm kd)) := by rw [eG_111, va_up_ne _ _ (by omega)]; exact a23
              have a24 : G_111 125 = .inl (y 0, 60, .inl (upd (A 24) nm da)) := by rw [eG_111, va_up_ne _ _ (by omega)]; exact a24
              have a25 : G_111 126 = .inl (y 0, 60, .inl (upd (A 25) nm pc0)) := by rw [eG_111, va_up_ne _ _ (by omega)]; exact a25
              have eM : G_111 100 = .inr (10, [.int 0, .int (F 1), .ref (ad 103), .int (F 3), .ref (ad 105), .ref (ad 106), .ref (ad 107), .ref (ad 108), .int (F 8), .ref (ad 110), .ref (ad 111), .ref (ad 112), .ref (ad 113), .int (F 13), .int (F 14), .ref (ad 116), .ref (ad 117), .ref (ad 118), .ref (ad 119), .ref (ad 120), .ref (ad 121), .int (nI (nm + 1)), .ref (ad 123), .ref (ad 124), .ref (ad 125), .ref (ad 126), .int (F 26), .ref (ad 128), .ref (ad 129), .ref (ad 130), .ref (ad 131), .ref (ad 132), .int (F 32), .ref (ad 134)]) := by rw [eG_111]; exact va_up_self _ _ _
              have hMm : ModelAt y Ls ad G_111 (va_up (va_up F 0 0) 21 (nI (nm + 1))) (va_up (va_up (va_up (va_up A 22 (upd (A 22) nm o)) 23 (upd (A 23) nm kd)) 24 (upd (A 24) nm da)) 25 (upd (A 25) nm pc0)) := (ModelAt_w hM (eM) (fun k hk => if h229 : k = 22 then Or.inr (by subst h229; exact a22) else (if h239 : k = 23 then Or.inr (by subst h239; exact a23) else (if h249 : k = 24 then Or.inr (by subst h249; exact a24) else (if h259 : k = 25 then Or.inr (by subst h259; exact a25) else (Or.inl ⟨by rw [eG_111, va_up_ne _ _ (by omega), eG_103, va_up_ne _ _ (by omega), eG_92, va_up_ne _ _ (by omega), eG_82, va_up_ne _ _ (by omega), eG_72, va_up_ne _ _ (by omega), eG_51, va_up_ne _ _ (by omega)], by rw [va_up_ne _ _ h259, va_up_ne _ _ h249, va_up_ne _ _ h239, va_up_ne _ _ h229]⟩))))))
              have hfrm : ∀ j, (j < 100 ∨ 134 < j) → G_111 j = G j := (fun j h9 => by rw [eG_111, va_up_ne _ _ (by omega), eG_103, va_up_ne _ _ (by omega), eG_92, va_up_ne _ _ (by omega), eG_82, va_up_ne _ _ (by omega), eG_72, va_up_ne _ _ (by omega), eG_51, va_up_ne _ _ (by omega)])
              have loop120 : ∀ (n : Nat) (i : Nat) (k : Int32), i ≤ nm + 1 → nm + 1 < i + n → k = nI (cnt (upd (A 22) nm o) o i) → ∀ (H : Heap) (locs : List Loc), va_P D vwCl (wl Ls ad G_111) H → va_D (fun q => b0 ≤ q) (wl Ls ad G_111) → va_S (fun q => b0 ≤ q) s.heap H locs → ∀ ls : Array Slot, lv_has ls 7 [(0, .ref (ad 100)), (1, .int o), (5, .int k), (6, .int (nI i))] → W p l e (headSpec wsX8_move ({ frames := 2, cells := 0, slots := 0, locals := 42 })).room s m ([.ref (ad 100), .int o, .int kd, .int da, .int pc0] : List Value).toArray below meth c H locs 0 0 (MQ below (va_Qi (fun (r : Int32) (u : va_W) => (¬ (inR o 7 ∧ inR kd 4 ∧ inR da 3599 ∧ (1 ≤ pc0 ∧ pc0 ≤ 100)) ∧ ∃ G2, u = wl Ls ad G2 ∧ ModelAt y Ls ad G2 (va_up F 0 1) A ∧ (∀ j, (j < 100 ∨ 134 < j) → G2 j = G j)) ∨ ((inR o 7 ∧ inR kd 4 ∧ inR da 3599 ∧ (1 ≤ pc0 ∧ pc0 ≤ 100)) ∧ nm = 60 ∧ ∃ G2, u = wl Ls ad G2 ∧ ModelAt y Ls ad G2 (va_up F 0 2) A ∧ (∀ j, (j < 100 ∨ 134 < j) → G2 j = G j)) ∨ ((inR o 7 ∧ inR kd 4 ∧ inR da 3599 ∧ (1 ≤ pc0 ∧ pc0 ≤ 100)) ∧ nm < 60 ∧ r = nI (cnt (upd (A 22) nm o) o (nm + 1)) ∧ ∃ G2, u = wl Ls ad G2 ∧ ModelAt y Ls ad G2 (va_up (va_up F 0 0) 21 (nI (nm + 1))) (va_up (va_up (va_up (va_up A 22 (upd (A 22) nm o)) 23 (upd (A 23) nm kd)) 24 (upd (A 24) nm da)) 25 (upd (A 25) nm pc0)) ∧ (∀ j, (j < 100 ∨ 134 < j) → G2 j = G j))) (WB D b0) (fun q => b0 ≤ q)) ([.ref (ad 100), .int o, .int kd, .int da, .int pc0] : List Value).toArray s 0 0 (fun q => b0 ≤ q)) (F0 m 120 ls []) := by
                intro n
                induction n with
                | zero =>
                  intro i k hi hn; exact absurd hn (by omega)
                | succ n ih120 =>
                  intro i k hi hn ek H locs hP hD hS ls hl
                  refine lv_iload hx hb dX8_move_120 (lv_at hl 3 rfl) ?_
                  refine lv_aload_n hx hb dX8_move_122 rfl (lv_at hl 0 rfl) ?_
                  refine pv_get (ci := 10) (C := RX8) (T := TX8) (N := 34) hx hb hts hinX8 hown hK hP hM.1 eM rfl 21 (by decide) (hts (.fieldLink RX8 145 "StorageChargeModel" "moves" "I") (by decide +kernel)) (fun _ h9 => h9) rfl dX8_move_123 ?_
                  refine lv_icmp_ge (tgt := 156) hx hb dX8_move_126 (by decide) (fun c_126 => ?_) (fun c_126 => ?_)
                  · have hge9 : i = nm + 1 := by
                      have h8 := Nat.le_of_not_lt (fun h : i < nm + 1 => absurd c_126 (nI_ge h (by omega)))
                      omega
                    refine lv_iload hx hb dX8_move_156 (lv_at hl 2 rfl) ?_
                    refine W.widen (k := 0) (n := 0) (Nat.le_of_ble_eq_true rfl) (Nat.le_of_ble_eq_true rfl) ?_
                    exact W.iret (v := k) hx hb hr (fun t ht hW => ⟨⟨k, wl Ls ad G_111, rfl, Or.inr (Or.inr ⟨⟨(Decidable.byContradiction fun h => c_5 (by rw [hr_2]; exact wI_eq0.mpr h)), (Decidable.byContradiction fun h => c_12 (by rw [hr_9]; exact wI_eq0.mpr h)), (Decidable.byContradiction fun h => c_19 (by rw [hr_16]; exact wI_eq0.mpr h)), (Decidable.byContradiction fun h => c_30 (by rw [hr_27]; exact wI_eq0.mpr h))⟩, hlt, by rw [ek, hge9], _, rfl, hMm, hfrm⟩), by rw [ht]; exact hP, hD⟩, hS.F ht⟩) hS.2.2 dX8_move_158
                  · have hli : i < nm + 1 := Nat.lt_of_not_le fun h => c_126 (nI_le h (by omega))
                    refine lv_iload hx hb dX8_move_129 (lv_at hl 2 rfl) ?_
                    refine lv_aload_n hx hb dX8_move_131 rfl (lv_at hl 0 rfl) ?_
                    refine pv_get (ci := 10) (C := RX8) (T := TX8) (N := 34) hx hb hts hinX8 hown hK hP hM.1 eM rfl 22 (by decide) (hts (.fieldLink RX8 55 "StorageChargeModel" "moveOwner" "[I") (by decide +kernel)) (fun _ h9 => h9) rfl dX8_move_132 ?_
                    refine lv_iload hx hb dX8_move_135 (lv_at hl 3 rfl) ?_
                    refine pv_iald hx hb hK hP j22 0 a22 rfl (k := i) rfl (by omega) (by decide) dX8_move_137 ?_
                    refine lv_iload_n hx hb dX8_move_138 rfl (lv_at hl 1 rfl) ?_
                    refine lv_icmp_ne (tgt := 146) hx hb dX8_move_139 (by decide) (fun c_139 => ?_) (fun c_139 => ?_)
                    · refine lv_iconst (v := 0) hx hb dX8_move_146 (by decide) ?_
                      refine lv_iadd hx hb dX8_move_147 ?_
                      refine lv_topi (fun x_148 ex_148 => ?_)
                      refine lv_istore (lv' := [(5, .int x_148), (0, .ref (ad 100)), (1, .int o), (6, .int (nI i))]) hx hb dX8_move_148 hl (by decide) rfl (fun ls hl => ?_)
                      refine lv_iinc (v := nI (i + 1)) (lv' := [(6, .int (nI (i + 1))), (5, .int x_148), (0, .ref (ad 100)), (1, .int o)]) hx hb dX8_move_150 hl (k := 3) rfl (nI_1 i) (by decide) rfl (fun ls hl => ?_)
                      refine lv_goto (tgt := 120) hx hb dX8_move_153 (by decide) ?_
                      exact ih120 (i + 1) x_148 (by omega) (by omega) (by first | (rw [cnt, if_neg c_139, ex_148, ek]; exact Int32.add_zero _) | (rw [cnt, if_pos c_139, ex_148, ek]; exact nI_1 _)) _ _ hP hD hS ls (lv_sub hl [2, 3, 1, 0] rfl)
                    · refine lv_iconst (v := 1) hx hb dX8_move_142 (by decide) ?_
                      refine lv_goto (tgt := 147) hx hb dX8_move_143 (by decide) ?_
                      refine lv_iadd hx hb dX8_move_147 ?_
                      refine lv_topi (fun x_148 ex_148 => ?_)
                      refine lv_istore (lv' := [(5, .int x_148), (0, .ref (ad 100)), (1, .int o), (6, .int (nI i))]) hx hb dX8_move_148 hl (by decide) rfl (fun ls hl => ?_)
                      refine lv_iinc (v := nI (i + 1)) (lv' := [(6, .int (nI (i + 1))), (5, .int x_148), (0, .ref (ad 100)), (1, .int o)]) hx hb dX8_move_150 hl (k := 3) rfl (nI_1 i) (by decide) rfl (fun ls hl => ?_)
                      refine lv_goto (tgt := 120) hx hb dX8_move_153 (by decide) ?_
                      exact ih120 (i + 1) x_148 (by omega) (by omega) (by first | (rw [cnt, if_neg c_139, ex_148, ek]; exact Int32.add_zero _) | (rw [cnt, if_pos c_139, ex_148, ek]; exact nI_1 _)) _ _ hP hD hS ls (lv_sub hl [2, 3, 1, 0] rfl)
              refine lv_iconst (v := 0) hx hb dX8_move_114 (by decide) ?_
              refine lv_istore (lv' := [(5, .int 0), (0, .ref (ad 100)), (1, .int o), (2, .int kd), (3, .int da), (4, .int pc0)]) hx hb dX8_move_115 hl (by decide) rfl (fun ls hl => ?_)
              refine lv_iconst (v := 0) hx hb dX8_move_117 (by decide) ?_
              refine lv_istore (lv' := [(6, .int 0), (5, .int 0), (0, .ref (ad 100)), (1, .int o), (2, .int kd), (3, .int da), (4, .int pc0)]) hx hb dX8_move_118 hl (by decide) rfl (fun ls hl => ?_)
              exact loop120 (nm + 2) 0 0 (by omega) (by omega) rfl _ _ hP hD hS ls (lv_sub hl [2, 3, 1, 0] rfl)
            · exact absurd (by decide) c_58
          · have h60 : nm = 60 := (nI_eq (by omega) (by decide)).mp (show nI nm = nI 60 from c_43)
            refine lv_iconst (v := 2) hx hb dX8_move_46 (by decide) ?_
            refine lv_goto (tgt := 51) hx hb dX8_move_47 (by decide) ?_
            refine pv_put (ci := 10) (v := .int 2) (ty := .int) (C := RX8) (T := TX8) (N := 34) hx hb hts hinX8 tyX8 tyX8_ok nmX8 hown hK hP hD hS hM.1 eM rfl 0 (by decide) (hts (.fieldLink RX8 86 "StorageChargeModel" "code" "I") (by decide +kernel)) (fun _ h9 => h9) rfl (by decide +kernel) rfl rfl (Nat.le_of_ble_eq_true rfl) dX8_move_51 (fun H locs hP hD hS => ?_)
            obtain ⟨G_51, eG_51⟩ : ∃ gg9 : Nat → va_E, gg9 = va_up G 100 (.inr (10, [.int 2, .int (F 1), .ref (ad 103), .int (F 3), .ref (ad 105), .ref (ad 106), .ref (ad 107), .ref (ad 108), .int (F 8), .ref (ad 110), .ref (ad 111), .ref (ad 112), .ref (ad 113), .int (F 13), .int (F 14), .ref (ad 116), .ref (ad 117), .ref (ad 118), .ref (ad 119), .ref (ad 120), .ref (ad 121), .int (nI nm), .ref (ad 123), .ref (ad 124), .ref (ad 125), .ref (ad 126), .int (F 26), .ref (ad 128), .ref (ad 129), .ref (ad 130), .ref (ad 131), .ref (ad 132), .int (F 32), .ref (ad 134)])) := ⟨_, rfl⟩
            have hP : va_P D vwCl (wl Ls ad G_51) H := by rw [eG_51]; exact hP
            have hD : va_D (fun q => b0 ≤ q) (wl Ls ad G_51) := by rw [eG_51]; exact hD
            have a22 : G_51 123 = .inl (y 0, 60, .inl (A 22)) := by rw [eG_51, va_up_ne _ _ (by omega)]; exact a22
            have a23 : G_51 124 = .inl (y 0, 60, .inl (A 23)) := by rw [eG_51, va_up_ne _ _ (by omega)]; exact a23
            have a24 : G_51 125 = .inl (y 0, 60, .inl (A 24)) := by rw [eG_51, va_up_ne _ _ (by omega)]; exact a24
            have a25 : G_51 126 = .inl (y 0, 60, .inl (A 25)) := by rw [eG_51, va_up_ne _ _ (by omega)]; exact a25
            have eM : G_51 100 = .inr (10, [.int 2, .int (F 1), .ref (ad 103), .int (F 3), .ref (ad 105), .ref (ad 106), .ref (ad 107), .ref (ad 108), .int (F 8), .ref (ad 110), .ref (ad 111), .ref (ad 112), .ref (ad 113), .int (F 13), .int (F 14), .ref (ad 116), .ref (ad 117), .ref (ad 118), .ref (ad 119), .ref (ad 120), .ref (ad 121), .int (nI nm), .ref (ad 123), .ref (ad 124), .ref (ad 125), .ref (ad 126), .int (F 26), .ref (ad 128), .ref (ad 129), .ref (ad 130), .ref (ad 131), .ref (ad 132), .int (F 32), .ref (ad 134)]) := by rw [eG_51]; exact va_up_self _ _ _
            have hMc : ModelAt y Ls ad G_51 (va_up F 0 2) A := (ModelAt_w hM (eM.trans (by rw [← h21]; rfl)) (fun k hk => Or.inl ⟨by rw [eG_51, va_up_ne _ _ (by omega)], rfl⟩))
            have hfrc : ∀ j, (j < 100 ∨ 134 < j) → G_51 j = G j := (fun j h9 => by rw [eG_51, va_up_ne _ _ (by omega)])
            refine lv_aload_n hx hb dX8_move_54 rfl (lv_at hl 0 rfl) ?_
            refine pv_get (ci := 10) (C := RX8) (T := TX8) (N := 34) hx hb hts hinX8 hown hK hP hM.1 eM rfl 0 (by decide) (hts (.fieldLink RX8 86 "StorageChargeModel" "code" "I") (by decide +kernel)) (fun _ h9 => h9) rfl dX8_move_55 ?_
            refine lv_if_le (tgt := 63) hx hb dX8_move_58 (by decide) (fun c_58 => ?_) (fun c_58 => ?_)
            · exact absurd c_58 (by decide)
            · refine lv_iconst (v := 0) hx hb dX8_move_61 (by decide) ?_
              refine W.widen (k := 0) (n := 0) (Nat.le_of_ble_eq_true rfl) (Nat.le_of_ble_eq_true rfl) ?_
              exact W.iret (v := 0) hx hb hr (fun t ht hW => ⟨⟨0, wl Ls ad G_51, rfl, Or.inr (Or.inl ⟨⟨(Decidable.byContradiction fun h => c_5 (by rw [hr_2]; exact wI_eq0.mpr h)), (Decidable.byContradiction fun h => c_12 (by rw [hr_9]; exact wI_eq0.mpr h)), (Decidable.byContradiction fun h => c_19 (by rw [hr_16]; exact wI_eq0.mpr h)), (Decidable.byContradiction fun h => c_30 (by rw [hr_27]; exact wI_eq0.mpr h))⟩, h60, _, rfl, hMc, hfrc⟩), by rw [ht]; exact hP, hD⟩, hS.F ht⟩) hS.2.2 dX8_move_62
        · refine lv_iconst (v := 1) hx hb dX8_move_33 (by decide) ?_
          refine lv_goto (tgt := 51) hx hb dX8_move_34 (by decide) ?_
          refine pv_put (ci := 10) (v := .int 1) (ty := .int) (C := RX8) (T := TX8) (N := 34) hx hb hts hinX8 tyX8 tyX8_ok nmX8 hown hK hP hD hS hM.1 eM rfl 0 (by decide) (hts (.fieldLink RX8 86 "StorageChargeModel" "code" "I") (by decide +kernel)) (fun _ h9 => h9) rfl (by decide +kernel) rfl rfl (Nat.le_of_ble_eq_true rfl) dX8_move_51 (fun H locs hP hD hS => ?_)
          obtain ⟨G_51, eG_51⟩ : ∃ gg9 : Nat → va_E, gg9 = va_up G 100 (.inr (10, [.int 1, .int (F 1), .ref (ad 103), .int (F 3), .ref (ad 105), .ref (ad 106), .ref (ad 107), .ref (ad 108), .int (F 8), .ref (ad 110), .ref (ad 111), .ref (ad 112), .ref (ad 113), .int (F 13), .int (F 14), .ref (ad 116), .ref (ad 117), .ref (ad 118), .ref (ad 119), .ref (ad 120), .ref (ad 121), .int (nI nm), .ref (ad 123), .ref (ad 124), .ref (ad 125), .ref (ad 126), .int (F 26), .ref (ad 128), .ref (ad 129), .ref (ad 130), .ref (ad 131), .ref (ad 132), .int (F 32), .ref (ad 134)])) := ⟨_, rfl⟩
          have hP : va_P D vwCl (wl Ls ad G_51) H := by rw [eG_51]; exact hP
          have hD : va_D (fun q => b0 ≤ q) (wl Ls ad G_51) := by rw [eG_51]; exact hD
          have a22 : G_51 123 = .inl (y 0, 60, .inl (A 22)) := by rw [eG_51, va_up_ne _ _ (by omega)]; exact a22
          have a23 : G_51 124 = .inl (y 0, 60, .inl (A 23)) := by rw [eG_51, va_up_ne _ _ (by omega)]; exact a23
          have a24 : G_51 125 = .inl (y 0, 60, .inl (A 24)) := by rw [eG_51, va_up_ne _ _ (by omega)]; exact a24
          have a25 : G_51 126 = .inl (y 0, 60, .inl (A 25)) := by rw [eG_51, va_up_ne _ _ (by omega)]; exact a25
          have eM : G_51 100 = .inr (10, [.int 1, .int (F 1), .ref (ad 103), .int (F 3), .ref (ad 105), .ref (ad 106), .ref (ad 107), .ref (ad 108), .int (F 8), .ref (ad 110), .ref (ad 111), .ref (ad 112), .ref (ad 113), .int (F 13), .int (F 14), .ref (ad 116), .ref (ad 117), .ref (ad 118), .ref (ad 119), .ref (ad 120), .ref (ad 121), .int (nI nm), .ref (ad 123), .ref (ad 124), .ref (ad 125), .ref (ad 126), .int (F 26), .ref (ad 128), .ref (ad 129), .ref (ad 130), .ref (ad 131), .ref (ad 132), .int (F 32), .ref (ad 134)]) := by rw [eG_51]; exact va_up_self _ _ _
          have hMc : ModelAt y Ls ad G_51 (va_up F 0 1) A := (ModelAt_w hM (eM.trans (by rw [← h21]; rfl)) (fun k hk => Or.inl ⟨by rw [eG_51, va_up_ne _ _ (by omega)], rfl⟩))
          have hfrc : ∀ j, (j < 100 ∨ 134 < j) → G_51 j = G j := (fun j h9 => by rw [eG_51, va_up_ne _ _ (by omega)])
          refine lv_aload_n hx hb dX8_move_54 rfl (lv_at hl 0 rfl) ?_
          refine pv_get (ci := 10) (C := RX8) (T := TX8) (N := 34) hx hb hts hinX8 hown hK hP hM.1 eM rfl 0 (by decide) (hts (.fieldLink RX8 86 "StorageChargeModel" "code" "I") (by decide +kernel)) (fun _ h9 => h9) rfl dX8_move_55 ?_
          refine lv_if_le (tgt := 63) hx hb dX8_move_58 (by decide) (fun c_58 => ?_) (fun c_58 => ?_)
          · exact absurd c_58 (by decide)
          · refine lv_iconst (v := 0) hx hb dX8_move_61 (by decide) ?_
            refine W.widen (k := 0) (n := 0) (Nat.le_of_ble_eq_true rfl) (Nat.le_of_ble_eq_true rfl) ?_
            exact W.iret (v := 0) hx hb hr (fun t ht hW => ⟨⟨0, wl Ls ad G_51, rfl, (by first | exact Or.inl ⟨fun h => absurd h.1 (wI_eq0.mp (by rw [← hr_2]; exact c_5)), _, rfl, hMc, hfrc⟩ | exact Or.inl ⟨fun h => absurd h.2.1 (wI_eq0.mp (by rw [← hr_9]; exact c_12)), _, rfl, hMc, hfrc⟩ | exact Or.inl ⟨fun h => absurd h.2.2.1 (wI_eq0.mp (by rw [← hr_16]; exact c_19)), _, rfl, hMc, hfrc⟩ | exact Or.inl ⟨fun h => absurd h.2.2.2 (wI_eq0.mp (by rw [← hr_27]; exact c_30)), _, rfl, hMc, hfrc⟩), by rw [ht]; exact hP, hD⟩, hS.F ht⟩) hS.2.2 dX8_move_62

set_option maxHeartbeats 4000000 in
set_option maxRecDepth 100000 in
/-- keep -/
theorem c_X8_keep (l : Launch) (hl0 : l.stackTraces = false) (D : va_G) (y : Nat → ClassId) (b0 : Nat) (Ls : List Nat) (ad : Nat → Nat) (G : Nat → va_E) (F : Nat → Int32) (A : Nat → Nat → Int32) (hM : ModelAt y Ls ad G F A) (nr : Nat) (h26 : F 26 = nI nr) (hnr : nr < 520) (o mo0 ce z0 : Int32) (hz : vp_nar .boolean z0 = z0) : Met l yX8_keep wsX8_keep ({ frames := 0, cells := 0, slots := 0, locals := 0 }) (va_Pc [.ref (ad 100), .int o, .int mo0, .int ce, .int z0] (WdM D y b0 (wl Ls ad G))) (va_Qv (fun (u : va_W) => ∃ G2, u = wl Ls ad G2 ∧ ModelAt y Ls ad G2 (va_up F 26 (nI (nr + 1))) (va_up (va_up (va_up (va_up A 27 (upd (A 27) nr o)) 28 (upd (A 28) nr mo0)) 29 (upd (A 29) nr (ce))) 30 (upd (A 30) nr z0)) ∧ (∀ j, (j < 100 ∨ 134 < j) → G2 j = G j)) (WB D b0) (fun q => b0 ≤ q)) 0 0 (fun q => b0 ≤ q) := by
  refine Met.ofW (cc := cX8_keep) (maxL := 5) (ret := none) (by decide) rfl ?_
  intro p e s m args below meth c s₁ B hml hv
  obtain ⟨rfl, ⟨hP, hK, hN⟩, hD, hb0, hT⟩ := hv
  have hx := B.exec
  have hb := B.bytes
  have hr := B.returns
  have hts := atoms_spec (ws := wsX8_keep) B.pre
  have hown : s.vm.findClass RX8 = some m.cls := findClass_of_methodNamed B.named
  have hlocks := B.notSynchronized
  have hS : va_S (fun q => b0 ≤ q) s.heap s.heap [] := va_S.rf
  have hinX8 : ∀ w ∈ wsX80, w ∈ wsX8_keep := by decide +kernel
  have eM : G 100 = .inr (10, [.int (F 0), .int (F 1), .ref (ad 103), .int (F 3), .ref (ad 105), .ref (ad 106), .ref (ad 107), .ref (ad 108), .int (F 8), .ref (ad 110), .ref (ad 111), .ref (ad 112), .ref (ad 113), .int (F 13), .int (F 14), .ref (ad 116), .ref (ad 117), .ref (ad 118), .ref (ad 119), .ref (ad 120), .ref (ad 121), .int (F 21), .ref (ad 123), .ref (ad 124), .ref (ad 125), .ref (ad 126), .int (nI nr), .ref (ad 128), .ref (ad 129), .ref (ad 130), .ref (ad 131), .ref (ad 132), .int (F 32), .ref (ad 134)]) := hM.2.1.trans (by rw [mfs, h26])
  obtain ⟨j27, a27⟩ : 128 ∈ Ls ∧ G 128 = .inl (y 0, 520, .inl (A 27)) := hM.2.2 27 (by decide)
  obtain ⟨j28, a28⟩ : 129 ∈ Ls ∧ G 129 = .inl (y 0, 520, .inl (A 28)) := hM.2.2 28 (by decide)
  obtain ⟨j29, a29⟩ : 130 ∈ Ls ∧ G 130 = .inl (y 0, 520, .inl (A 29)) := hM.2.2 29 (by decide)
  obtain ⟨j30, a30⟩ : 131 ∈ Ls ∧ G 131 = .inl (y 2, 520, .inl (A 30)) := hM.2.2 30 (by decide)
  have hl := lv_entry ([.ref (ad 100), .int o, .int mo0, .int ce, .int z0]) (n := 5) (Nat.le_of_ble_eq_true rfl)
  rw [lg_entry_eq]
  generalize (lg_sl ([.ref (ad 100), .int o, .int mo0, .int ce, .int z0]) ++ List.replicate (5 - (lg_sl ([.ref (ad 100), .int o, .int mo0, .int ce, .int z0])).length) Slot.unset).toArray = ls at hl ⊢
  have hl : lv_has ls 5 [(0, .ref (ad 100)), (1, .int o), (2, .int mo0), (3, .int ce), (4, .int z0)] := hl
  refine lv_aload_n hx hb dX8_keep_0 rfl (lv_at hl 0 rfl) ?_
  refine pv_get (ci := 10) (C := RX8) (T := TX8) (N := 34) hx hb hts hinX8 hown hK hP hM.1 eM rfl 27 (by decide) (hts (.fieldLink RX8 67 "StorageChargeModel" "rowOwner" "[I") (by decide +kernel)) (fun _ h9 => h9) rfl dX8_keep_1 ?_
  refine lv_aload_n hx hb dX8_keep_4 rfl (lv_at hl 0 rfl) ?_
  refine pv_get (ci := 10) (C := RX8) (T := TX8) (N := 34) hx hb hts hinX8 hown hK hP hM.1 eM rfl 26 (by decide) (hts (.fieldLink RX8 170 "StorageChargeModel" "rows" "I") (by decide +kernel)) (fun _ h9 => h9) rfl dX8_keep_5 ?_
  refine lv_iload_n hx hb dX8_keep_8 rfl (lv_at hl 1 rfl) ?_
  refine pv_iast hx hb hK hP hD hS j27 0 a27 rfl (k := nr) rfl (by omega) (by decide) dX8_keep_9 (fun H locs hP hD hS => ?_)
  obtain ⟨G_9, eG_9⟩ : ∃ gg9 : Nat → va_E, gg9 = va_up G 128 (.inl (y 0, 520, .inl (upd (A 27) nr o))) := ⟨_, rfl⟩
  have hP : va_P D vwCl (wl Ls ad G_9) H := by rw [eG_9]; exact hP
  have hD : va_D (fun q => b0 ≤ q) (wl Ls ad G_9) := by rw [eG_9]; exact hD
  have eM : G_9 100 = .inr (10, [.int (F 0), .int (F 1), .ref (ad 103), .int (F 3), .ref (ad 105), .ref (ad 106), .ref (ad 107), .ref (ad 108), .int (F 8), .ref (ad 110), .ref (ad 111), .ref (ad 112), .ref (ad 113), .int (F 13), .int (F 14), .ref (ad 116), .ref (ad 117), .ref (ad 118), .ref (ad 119), .ref (ad 120), .ref (ad 121), .int (F 21), .ref (ad 123), .ref (ad 124), .ref (ad 125), .ref (ad 126), .int (nI nr), .ref (ad 128), .ref (ad 129), .ref (ad 130), .ref (ad 131), .ref (ad 132), .int (F 32), .ref (ad 134)]) := by rw [eG_9, va_up_ne _ _ (by omega)]; exact eM
  have a28 : G_9 129 = .inl (y 0, 520, .inl (A 28)) := by rw [eG_9, va_up_ne _ _ (by omega)]; exact a28
  have a29 : G_9 130 = .inl (y 0, 520, .inl (A 29)) := by rw [eG_9, va_up_ne _ _ (by omega)]; exact a29
  have a30 : G_9 131 = .inl (y 2, 520, .inl (A 30)) := by rw [eG_9, va_up_ne _ _ (by omega)]; exact a30
  have a27 : G_9 128 = .inl (y 0, 520, .inl (upd (A 27) nr o)) := by rw [eG_9]; exact va_up_self _ _ _
  refine lv_aload_n hx hb dX8_keep_10 rfl (lv_at hl 0 rfl) ?_
  refine pv_get (ci := 10) (C := RX8) (T := TX8) (N := 34) hx hb hts hinX8 hown hK hP hM.1 eM rfl 28 (by decide) (hts (.fieldLink RX8 70 "StorageChargeModel" "rowMonth" "[I") (by decide +kernel)) (fun _ h9 => h9) rfl dX8_keep_11 ?_
  refine lv_aload_n hx hb dX8_keep_14 rfl (lv_at hl 0 rfl) ?_
  refine pv_get (ci := 10) (C := RX8) (T := TX8) (N := 34) hx hb hts hinX8 hown hK hP hM.1 eM rfl 26 (by decide) (hts (.fieldLink RX8 170 "StorageChargeModel" "rows" "I") (by decide +kernel)) (fun _ h9 => h9) rfl dX8_keep_15 ?_
  refine lv_iload_n hx hb dX8_keep_18 rfl (lv_at hl 2 rfl) ?_
  refine pv_iast hx hb hK hP hD hS j28 0 a28 rfl (k := nr) rfl (by omega) (by decide) dX8_keep_19 (fun H locs hP hD hS => ?_)
  obtain ⟨G_19, eG_19⟩ : ∃ gg9 : Nat → va_E, gg9 = va_up G_9 129 (.inl (y 0, 520, .inl (upd (A 28) nr mo0))) := ⟨_, rfl⟩
  have hP : va_P D vwCl (wl Ls ad G_19) H := by rw [eG_19]; exact hP
  have hD : va_D (fun q => b0 ≤ q) (wl Ls ad G_19) := by rw [eG_19]; exact hD
  have eM : G_19 100 = .inr (10, [.int (F 0), .int (F 1), .ref (ad 103), .int (F 3), .ref (ad 105), .ref (ad 106), .ref (ad 107), .ref (ad 108), .int (F 8), .ref (ad 110), .ref (ad 111), .ref (ad 112), .ref (ad 113), .int (F 13), .int (F 14), .ref (ad 116), .ref (ad 117), .ref (ad 118), .ref (ad 119), .ref (ad 120), .ref (ad 121), .int (F 21), .ref (ad 123), .ref (ad 124), .ref (ad 125), .ref (ad 126), .int (nI nr), .ref (ad 128), .ref (ad 129), .ref (ad 130), .ref (ad 131), .ref (ad 132), .int (F 32), .ref (ad 134)]) := by rw [eG_19, va_up_ne _ _ (by omega)]; exact eM
  have a27 : G_19 128 = .inl (y 0, 520, .inl (upd (A 27) nr o)) := by rw [eG_19, va_up_ne _ _ (by omega)]; exact a27
  have a29 : G_19 130 = .inl (y 0, 520, .inl (A 29)) := by rw [eG_19, va_up_ne _ _ (by omega)]; exact a29
  have a30 : G_19 131 = .inl (y 2, 520, .inl (A 30)) := by rw [eG_19, va_up_ne _ _ (by omega)]; exact a30
  have a28 : G_19 129 = .inl (y 0, 520, .inl (upd (A 28) nr mo0)) := by rw [eG_19]; exact va_up_self _ _ _
  refine lv_aload_n hx hb dX8_keep_20 rfl (lv_at hl 0 rfl) ?_
  refine pv_get (ci := 10) (C := RX8) (T := TX8) (N := 34) hx hb hts hinX8 hown hK hP hM.1 eM rfl 29 (by decide) (hts (.fieldLink RX8 73 "StorageChargeModel" "rowCents" "[I") (by decide +kernel)) (fun _ h9 => h9) rfl dX8_keep_21 ?_
  refine lv_aload_n hx hb dX8_keep_24 rfl (lv_at hl 0 rfl) ?_
  refine pv_get (ci := 10) (C := RX8) (T := TX8) (N := 34) hx hb hts hinX8 hown hK hP hM.1 eM rfl 26 (by decide) (hts (.fieldLink RX8 170 "StorageChargeModel" "rows" "I") (by decide +kernel)) (fun _ h9 => h9) rfl dX8_keep_25 ?_
  refine lv_iload_n hx hb dX8_keep_28 rfl (lv_at hl 3 rfl) ?_
  refine pv_iast hx hb hK hP hD hS j29 0 a29 rfl (k := nr) rfl (by omega) (by decide) dX8_keep_29 (fun H locs hP hD hS => ?_)
  obtain ⟨G_29, eG_29⟩ : ∃ gg9 : Nat → va_E, gg9 = va_up G_19 130 (.inl (y 0, 520, .inl (upd (A 29) nr ce))) := ⟨_, rfl⟩
  have hP : va_P D vwCl (wl Ls ad G_29) H := by rw [eG_29]; exact hP
  have hD : va_D (fun q => b0 ≤ q) (wl Ls ad G_29) := by rw [eG_29]; exact hD
  have eM : G_29 100 = .inr (10, [.int (F 0), .int (F 1), .ref (ad 103), .int (F 3), .ref (ad 105), .ref (ad 106), .ref (ad 107), .ref (ad 108), .int (F 8), .ref (ad 110), .ref (ad 111), .ref (ad 112), .ref (ad 113), .int (F 13), .int (F 14), .ref (ad 116), .ref (ad 117), .ref (ad 118), .ref (ad 119), .ref (ad 120), .ref (ad 121), .int (F 21), .ref (ad 123), .ref (ad 124), .ref (ad 125), .ref (ad 126), .int (nI nr), .ref (ad 128), .ref (ad 129), .ref (ad 130), .ref (ad 131), .ref (ad 132), .int (F 32), .ref (ad 134)]) := by rw [eG_29, va_up_ne _ _ (by omega)]; exact eM
  have a27 : G_29 128 = .inl (y 0, 520, .inl (upd (A 27) nr o)) := by rw [eG_29, va_up_ne _ _ (by omega)]; exact a27
  have a28 : G_29 129 = .inl (y 0, 520, .inl (upd (A 28) nr mo0)) := by rw [eG_29, va_up_ne _ _ (by omega)]; exact a28
  have a30 : G_29 131 = .inl (y 2, 520, .inl (A 30)) := by rw [eG_29, va_up_ne _ _ (by omega)]; exact a30
  have a29 : G_29 130 = .inl (y 0, 520, .inl (upd (A 29) nr ce)) := by rw [eG_29]; exact va_up_self _ _ _
  refine lv_aload_n hx hb dX8_keep_30 rfl (lv_at hl 0 rfl) ?_
  refine pv_get (ci := 10) (C := RX8) (T := TX8) (N := 34) hx hb hts hinX8 hown hK hP hM.1 eM rfl 30 (by decide) (hts (.fieldLink RX8 76 "StorageChargeModel" "rowCorrects" "[Z") (by decide +kernel)) (fun _ h9 => h9) rfl dX8_keep_31 ?_
  refine lv_aload_n hx hb dX8_keep_34 rfl (lv_at hl 0 rfl) ?_
  refine pv_get (ci := 10) (C := RX8) (T := TX8) (N := 34) hx hb hts hinX8 hown hK hP hM.1 eM rfl 26 (by decide) (hts (.fieldLink RX8 170 "StorageChargeModel" "rows" "I") (by decide +kernel)) (fun _ h9 => h9) rfl dX8_keep_35 ?_
  refine lv_iload hx hb dX8_keep_38 (lv_at hl 4 rfl) ?_
  refine pv_zast hx hb hK hP hD hS j30 2 a30 rfl (k := nr) rfl (by omega) (by decide) dX8_keep_40 (fun H locs hP hD hS => ?_)
  obtain ⟨G_40, eG_40⟩ : ∃ gg9 : Nat → va_E, gg9 = va_up G_29 131 (.inl (y 2, 520, .inl (upd (A 30) nr (vp_nar .boolean z0)))) := ⟨_, rfl⟩
  have hP : va_P D vwCl (wl Ls ad G_40) H := by rw [eG_40]; exact hP
  have hD : va_D (fun q => b0 ≤ q) (wl Ls ad G_40) := by rw [eG_40]; exact hD
  have eM : G_40 100 = .inr (10, [.int (F 0), .int (F 1), .ref (ad 103), .int (F 3), .ref (ad 105), .ref (ad 106), .ref (ad 107), .ref (ad 108), .int (F 8), .ref (ad 110), .ref (ad 111), .ref (ad 112), .ref (ad 113), .int (F 13), .int (F 14), .ref (ad 116), .ref (ad 117), .ref (ad 118), .ref (ad 119), .ref (ad 120), .ref (ad 121), .int (F 21), .ref (ad 123), .ref (ad 124), .ref (ad 125), .ref (ad 126), .int (nI nr), .ref (ad 128), .ref (ad 129), .ref (ad 130), .ref (ad 131), .ref (ad 132), .int (F 32), .ref (ad 134)]) := by rw [eG_40, va_up_ne _ _ (by omega)]; exact eM
  have a27 : G_40 128 = .inl (y 0, 520, .inl (upd (A 27) nr o)) := by rw [eG_40, va_up_ne _ _ (by omega)]; exact a27
  have a28 : G_40 129 = .inl (y 0, 520, .inl (upd (A 28) nr mo0)) := by rw [eG_40, va_up_ne _ _ (by omega)]; exact a28
  have a29 : G_40 130 = .inl (y 0, 520, .inl (upd (A 29) nr ce)) := by rw [eG_40, va_up_ne _ _ (by omega)]; exact a29
  have a30 : G_40 131 = .inl (y 2, 520, .inl (upd (A 30) nr (vp_nar .boolean z0))) := by rw [eG_40]; exact va_up_self _ _ _
  refine lv_aload_n hx hb dX8_keep_41 rfl (lv_at hl 0 rfl) ?_
  refine lv_dup hx hb dX8_keep_42 rfl ?_
  refine pv_get (ci := 10) (C := RX8) (T := TX8) (N := 34) hx hb hts hinX8 hown hK hP hM.1 eM rfl 26 (by decide) (hts (.fieldLink RX8 170 "StorageChargeModel" "rows" "I") (by decide +kernel)) (fun _ h9 => h9) rfl dX8_keep_43 ?_
  refine lv_iconst (v := 1) hx hb dX8_keep_46 (by decide) ?_
  refine lv_iadd hx hb dX8_keep_47 ?_
  refine lv_topi (fun z9 ez9 => ?_)
  obtain rfl : z9 = nI (nr + 1) := ez9.trans (nI_1 nr)
  refine pv_put (ci := 10) (v := .int (nI (nr + 1))) (ty := .int) (C := RX8) (T := TX8) (N := 34) hx hb hts hinX8 tyX8 tyX8_ok nmX8 hown hK hP hD hS hM.1 eM rfl 26 (by decide) (hts (.fieldLink RX8 170 "StorageChargeModel" "rows" "I") (by decide +kernel)) (fun _ h9 => h9) rfl (by decide +kernel) rfl rfl (Nat.le_of_ble_eq_true rfl) dX8_keep_48 (fun H locs hP hD hS => ?_)
  obtain ⟨G_48, eG_48⟩ : ∃ gg9 : Nat → va_E, gg9 = va_up G_40 100 (.inr (10, [.int (F 0), .int (F 1), .ref (ad 103), .int (F 3), .ref (ad 105), .ref (ad 106), .ref (ad 107), .ref (ad 108), .int (F 8), .ref (ad 110), .ref (ad 111), .ref (ad 112), .ref (ad 113), .int (F 13), .int (F 14), .ref (ad 116), .ref (ad 117), .ref (ad 118), .ref (ad 119), .ref (ad 120), .ref (ad 121), .int (F 21), .ref (ad 123), .ref (ad 124), .ref (ad 125), .ref (ad 126), .int (nI (nr + 1)), .ref (ad 128), .ref (ad 129), .ref (ad 130), .ref (ad 131), .ref (ad 132), .int (F 32), .ref (ad 134)])) := ⟨_, rfl⟩
  have hP : va_P D vwCl (wl Ls ad G_48) H := by rw [eG_48]; exact hP
  have hD : va_D (fun q => b0 ≤ q) (wl Ls ad G_48) := by rw [eG_48]; exact hD
  have a27 : G_48 128 = .inl (y 0, 520, .inl (upd (A 27) nr o)) := by rw [eG_48, va_up_ne _ _ (by omega)]; exact a27
  have a28 : G_48 129 = .inl (y 0, 520, .inl (upd (A 28) nr mo0)) := by rw [eG_48, va_up_ne _ _ (by omega)]; exact a28
  have a29 : G_48 130 = .inl (y 0, 520, .inl (upd (A 29) nr ce)) := by rw [eG_48, va_up_ne _ _ (by omega)]; exact a29
  have a30 : G_48 131 = .inl (y 2, 520, .inl (upd (A 30) nr (vp_nar .boolean z0))) := by rw [eG_48, va_up_ne _ _ (by omega)]; exact a30
  have eM : G_48 100 = .inr (10, [.int (F 0), .int (F 1), .ref (ad 103), .int (F 3), .ref (ad 105), .ref (ad 106), .ref (ad 107), .ref (ad 108), .int (F 8), .ref (ad 110), .ref (ad 111), .ref (ad 112), .ref (ad 113), .int (F 13), .int (F 14), .ref (ad 116), .ref (ad 117), .ref (ad 118), .ref (ad 119), .ref (ad 120), .ref (ad 121), .int (F 21), .ref (ad 123), .ref (ad 124), .ref (ad 125), .ref (ad 126), .int (nI (nr + 1)), .ref (ad 128), .ref (ad 129), .ref (ad 130), .ref (ad 131), .ref (ad 132), .int (F 32), .ref (ad 134)]) := by rw [eG_48]; exact va_up_self _ _ _
  refine W.widen (k := 0) (n := 0) (Nat.le_of_ble_eq_true rfl) (Nat.le_of_ble_eq_true rfl) ?_
  exact W.vret hx hb hr (fun t ht hW => ⟨⟨wl Ls ad G_48, rfl, ⟨_, rfl, (ModelAt_w hM (eM) (fun k hk => if h279 : k = 27 then Or.inr (by subst h279; exact a27) else (if h289 : k = 28 then Or.inr (by subst h289; exact a28) else (if h299 : k = 29 then Or.inr (by subst h299; exact a29) else (if h309 : k = 30 then Or.inr (by subst h309; rw [hz] at a30; exact a30) else (Or.inl ⟨by rw [eG_48, va_up_ne _ _ (by omega), eG_40, va_up_ne _ _ (by omega), eG_29, va_up_ne _ _ (by omega), eG_19, va_up_ne _ _ (by omega), eG_9, va_up_ne _ _ (by omega)], by rw [va_up_ne _ _ h309, va_up_ne _ _ h299, va_up_ne _ _ h289, va_up_ne _ _ h279]⟩)))))), (fun j h9 => by rw [eG_48, va_up_ne _ _ (by omega), eG_40, va_up_ne _ _ (by omega), eG_29, va_up_ne _ _ (by omega), eG_19, va_up_ne _ _ (by omega), eG_9, va_up_ne _ _ (by omega)])⟩, by rw [ht]; exact hP, hD⟩, hS.F ht⟩) hS.2.2 dX8_keep_51

set_option maxHeartbeats 4000000 in
set_option maxRecDepth 100000 in
/-- bill -/
theorem c_X8_bill (l : Launch) (hl0 : l.stackTraces = false) (D : va_G) (y : Nat → ClassId) (b0 : Nat) (Ls : List Nat) (ad : Nat → Nat) (G : Nat → va_E) (F : Nat → Int32) (A : Nat → Nat → Int32) (hM : ModelAt y Ls ad G F A) (nu : Nat) (h14 : F 14 = nI nu) (nl : Nat) (h3 : F 3 = nI nl) (nm : Nat) (h21 : F 21 = nI nm) (hnu : nu ≤ 24) (hnl : nl ≤ 60) (hnm : nm ≤ 60) (tn : Nat → Nat) (htn : ∀ u, u < nu → A 18 u = nI (tn u) ∧ tn u ≤ 9) (nr : Nat) (h26 : F 26 = nI nr) (hnr : nr < 520) (o mo0 : Int32) : Met l yX8_bill wsX8_bill ({ frames := 4, cells := 0, slots := 0, locals := 100 }) (va_Pc [.ref (ad 100), .int o, .int mo0] (WdM D y b0 (wl Ls ad G))) (va_Qi (fun (r : Int32) (u : va_W) => (¬ (inR o 7 ∧ inR mo0 119) ∧ ∃ G2, u = wl Ls ad G2 ∧ ModelAt y Ls ad G2 (va_up F 0 1) A ∧ (∀ j, (j < 100 ∨ 134 < j) → G2 j = G j)) ∨ (∃ o9 m0, o9 < 8 ∧ m0 < 120 ∧ o = nI o9 ∧ mo0 = nI m0 ∧ ((¬ A 31 (120 * o9 + m0) = 0 ∧ ∃ G2, u = wl Ls ad G2 ∧ ModelAt y Ls ad G2 (va_up F 0 2) A ∧ (∀ j, (j < 100 ∨ 134 < j) → G2 j = G j)) ∨ (A 31 (120 * o9 + m0) = 0 ∧ r = mSum A nl nu nm tn o o m0 ∧ ∃ G2, u = wl Ls ad G2 ∧ ModelAt y Ls ad G2 (va_up (va_up F 0 0) 26 (nI (nr + 1))) (va_up (va_up (va_up (va_up (va_up A 31 (upd (A 31) (120 * o9 + m0) (vp_nar .boolean 1))) 27 (upd (A 27) nr o)) 28 (upd (A 28) nr mo0)) 29 (upd (A 29) nr (mSum A nl nu nm tn o o m0))) 30 (upd (A 30) nr 0)) ∧ (∀ j, (j < 100 ∨ 134 < j) → G2 j = G j))))) (WB D b0) (fun q => b0 ≤ q)) 0 0 (fun q => b0 ≤ q) := by
  refine Met.ofW (cc := cX8_bill) (maxL := 3) (ret := (some .int)) (by decide) rfl ?_
  intro p e s m args below meth c s₁ B hml hv
  obtain ⟨rfl, ⟨hP, hK, hN⟩, hD, hb0, hT⟩ := hv
  have hx := B.exec
  have hb := B.bytes
  have hr := B.returns
  have hts := atoms_spec (ws := wsX8_bill) B.pre
  have hown : s.vm.findClass RX8 = some m.cls := findClass_of_methodNamed B.named
  have hlocks := B.notSynchronized
  have hS : va_S (fun q => b0 ≤ q) s.heap s.heap [] := va_S.rf
  have hinX8 : ∀ w ∈ wsX80, w ∈ wsX8_bill := by decide +kernel
  have eM : G 100 = .inr (10, [.int (F 0), .int (F 1), .ref (ad 103), .int (F 3), .ref (ad 105), .ref (ad 106), .ref (ad 107), .ref (ad 108), .int (F 8), .ref (ad 110), .ref (ad 111), .ref (ad 112), .ref (ad 113), .int (F 13), .int (F 14), .ref (ad 116), .ref (ad 117), .ref (ad 118), .ref (ad 119), .ref (ad 120), .ref (ad 121), .int (F 21), .ref (ad 123), .ref (ad 124), .ref (ad 125), .ref (ad 126), .int (F 26), .ref (ad 128), .ref (ad 129), .ref (ad 130), .ref (ad 131), .ref (ad 132), .int (F 32), .ref (ad 134)]) := hM.2.1
  obtain ⟨j31, a31⟩ : 132 ∈ Ls ∧ G 132 = .inl (y 2, 960, .inl (A 31)) := hM.2.2 31 (by decide)
  have hl := lv_entry ([.ref (ad 100), .int o, .int mo0]) (n := 3) (Nat.le_of_ble_eq_true rfl)
  rw [lg_entry_eq]
  generalize (lg_sl ([.ref (ad 100), .int o, .int mo0]) ++ List.replicate (3 - (lg_sl ([.ref (ad 100), .int o, .int mo0])).length) Slot.unset).toArray = ls at hl ⊢
  have hl : lv_has ls 3 [(0, .ref (ad 100)), (1, .int o), (2, .int mo0)] := hl
  refine lv_aload_n hx hb dX8_bill_0 rfl (lv_at hl 0 rfl) ?_
  refine lv_iload_n hx hb dX8_bill_1 rfl (lv_at hl 1 rfl) ?_
  refine vp_callSi (va_Run.run (va_runS (As := [.int o]) (rest := [.ref (ad 100)]) ⟨hx, hb, hml, hown, hts⟩ (c_X8_isOwner l o) (va_cwS 1 hts gX8_bill_X8_isOwner rfl rfl rfl (by decide +kernel) ⟨Nat.le_of_ble_eq_true rfl, Nat.le_of_ble_eq_true rfl⟩) ⟨fun _ _ _ _ q => q, fun U hU hW => ⟨rfl, trivial⟩⟩ rfl rfl hl.1 rfl (lv_room (Nat.le_of_ble_eq_true rfl)) dX8_bill_2 ⟨(Nat.le_of_ble_eq_true rfl), (Nat.le_of_ble_eq_true rfl)⟩)) (fun r_2 hr_2 => ?_)
  refine lv_if_eq (tgt := 15) hx hb dX8_bill_5 (by decide) (fun c_5 => ?_) (fun c_5 => ?_)
  · refine lv_iconst (v := 1) hx hb dX8_bill_15 (by decide) ?_
    refine lv_goto (tgt := 20) hx hb dX8_bill_16 (by decide) ?_
    refine pv_put (ci := 10) (v := .int 1) (ty := .int) (C := RX8) (T := TX8) (N := 34) hx hb hts hinX8 tyX8 tyX8_ok nmX8 hown hK hP hD hS hM.1 eM rfl 0 (by decide) (hts (.fieldLink RX8 86 "StorageChargeModel" "code" "I") (by decide +kernel)) (fun _ h9 => h9) rfl (by decide +kernel) rfl rfl (Nat.le_of_ble_eq_true rfl) dX8_bill_20 (fun H locs hP hD hS => ?_)
    obtain ⟨G_20, eG_20⟩ : ∃ gg9 : Nat → va_E, gg9 = va_up G 100 (.inr (10, [.int 1, .int (F 1), .ref (ad 103), .int (F 3), .ref (ad 105), .ref (ad 106), .ref (ad 107), .ref (ad 108), .int (F 8), .ref (ad 110), .ref (ad 111), .ref (ad 112), .ref (ad 113), .int (F 13), .int (F 14), .ref (ad 116), .ref (ad 117), .ref (ad 118), .ref (ad 119), .ref (ad 120), .ref (ad 121), .int (F 21), .ref (ad 123), .ref (ad 124), .ref (ad 125), .ref (ad 126), .int (F 26), .ref (ad 128), .ref (ad 129), .ref (ad 130), .ref (ad 131), .ref (ad 132), .int (F 32), .ref (ad 134)])) := ⟨_, rfl⟩
    have hP : va_P D vwCl (wl Ls ad G_20) H := by rw [eG_20]; exact hP
    have hD : va_D (fun q => b0 ≤ q) (wl Ls ad G_20) := by rw [eG_20]; exact hD
    have a31 : G_20 132 = .inl (y 2, 960, .inl (A 31)) := by rw [eG_20, va_up_ne _ _ (by omega)]; exact a31
    have eM : G_20 100 = .inr (10, [.int 1, .int (F 1), .ref (ad 103), .int (F 3), .ref (ad 105), .ref (ad 106), .ref (ad 107), .ref (ad 108), .int (F 8), .ref (ad 110), .ref (ad 111), .ref (ad 112), .ref (ad 113), .int (F 13), .int (F 14), .ref (ad 116), .ref (ad 117), .ref (ad 118), .ref (ad 119), .ref (ad 120), .ref (ad 121), .int (F 21), .ref (ad 123), .ref (ad 124), .ref (ad 125), .ref (ad 126), .int (F 26), .ref (ad 128), .ref (ad 129), .ref (ad 130), .ref (ad 131), .ref (ad 132), .int (F 32), .ref (ad 134)]) := by rw [eG_20]; exact va_up_self _ _ _
    refine lv_aload_n hx hb dX8_bill_23 rfl (lv_at hl 0 rfl) ?_
    refine pv_get (ci := 10) (C := RX8) (T := TX8) (N := 34) hx hb hts hinX8 hown hK hP hM.1 eM rfl 0 (by decide) (hts (.fieldLink RX8 86 "StorageChargeModel" "code" "I") (by decide +kernel)) (fun _ h9 => h9) rfl dX8_bill_24 ?_
    refine lv_if_ne (tgt := 53) hx hb dX8_bill_27 (by decide) (fun c_27 => ?_) (fun c_27 => ?_)
    · have hMc : ModelAt y Ls ad G_20 (va_up F 0 1) A := (ModelAt_w hM (eM) (fun k hk => Or.inl ⟨by rw [eG_20, va_up_ne _ _ (by omega)], rfl⟩))
      have hfrc : ∀ j, (j < 100 ∨ 134 < j) → G_20 j = G j := (fun j h9 => by rw [eG_20, va_up_ne _ _ (by omega)])
      refine lv_aload_n hx hb dX8_bill_53 rfl (lv_at hl 0 rfl) ?_
      refine pv_get (ci := 10) (C := RX8) (T := TX8) (N := 34) hx hb hts hinX8 hown hK hP hM.1 eM rfl 0 (by decide) (hts (.fieldLink RX8 86 "StorageChargeModel" "code" "I") (by decide +kernel)) (fun _ h9 => h9) rfl dX8_bill_54 ?_
      refine lv_if_le (tgt := 62) hx hb dX8_bill_57 (by decide) (fun c_57 => ?_) (fun c_57 => ?_)
      · exact absurd c_57 (by decide)
      · refine lv_iconst (v := 0) hx hb dX8_bill_60 (by decide) ?_
        refine W.widen (k := 0) (n := 0) (Nat.le_of_ble_eq_true rfl) (Nat.le_of_ble_eq_true rfl) ?_
        exact W.iret (v := 0) hx hb hr (fun t ht hW => ⟨⟨0, wl Ls ad G_20, rfl, (by first | exact Or.inl ⟨fun h => absurd h.1 (wI_eq0.mp (by rw [← hr_2]; exact c_5)), _, rfl, hMc, hfrc⟩ | exact Or.inl ⟨fun h => absurd h.2 (wI_eq0.mp (by rw [← hr_9]; exact c_12)), _, rfl, hMc, hfrc⟩), by rw [ht]; exact hP, hD⟩, hS.F ht⟩) hS.2.2 dX8_bill_61
    · exact absurd c_27 (by decide)
  · refine lv_iload_n hx hb dX8_bill_8 rfl (lv_at hl 2 rfl) ?_
    refine vp_callSi (va_Run.run (va_runS (As := [.int mo0]) (rest := [.ref (ad 100)]) ⟨hx, hb, hml, hown, hts⟩ (c_X8_isMonth l mo0) (va_cwS 1 hts gX8_bill_X8_isMonth rfl rfl rfl (by decide +kernel) ⟨Nat.le_of_ble_eq_true rfl, Nat.le_of_ble_eq_true rfl⟩) ⟨fun _ _ _ _ q => q, fun U hU hW => ⟨rfl, trivial⟩⟩ rfl rfl hl.1 rfl (lv_room (Nat.le_of_ble_eq_true rfl)) dX8_bill_9 ⟨(Nat.le_of_ble_eq_true rfl), (Nat.le_of_ble_eq_true rfl)⟩)) (fun r_9 hr_9 => ?_)
    refine lv_if_ne (tgt := 19) hx hb dX8_bill_12 (by decide) (fun c_12 => ?_) (fun c_12 => ?_)
    · have hqm0 : 0 ≤ mo0 ∧ mo0 ≤ 119 := (Decidable.byContradiction fun h => c_12 (by rw [hr_9]; exact wI_eq0.mpr h))
      obtain ⟨m0, hm0, rfl⟩ := within_nI (n := 120) (by decide) (by decide) hqm0
      obtain ⟨o9, ho9, rfl⟩ := within_nI (n := 8) (by decide) (by decide) (Decidable.byContradiction fun h => c_5 (by rw [hr_2]; exact wI_eq0.mpr h))
      refine lv_iconst (v := 0) hx hb dX8_bill_19 (by decide) ?_
      refine pv_put (ci := 10) (v := .int 0) (ty := .int) (C := RX8) (T := TX8) (N := 34) hx hb hts hinX8 tyX8 tyX8_ok nmX8 hown hK hP hD hS hM.1 eM rfl 0 (by decide) (hts (.fieldLink RX8 86 "StorageChargeModel" "code" "I") (by decide +kernel)) (fun _ h9 => h9) rfl (by decide +kernel) rfl rfl (Nat.le_of_ble_eq_true rfl) dX8_bill_20 (fun H locs hP hD hS => ?_)
      obtain ⟨G_20, eG_20⟩ : ∃ gg9 : Nat → va_E, gg9 = va_up G 100 (.inr (10, [.int 0, .int (F 1), .ref (ad 103), .int (F 3), .ref (ad 105), .ref (ad 106), .ref (ad 107), .ref (ad 108), .int (F 8), .ref (ad 110), .ref (ad 111), .ref (ad 112), .ref (ad 113), .int (F 13), .int (F 14), .ref (ad 116), .ref (ad 117), .ref (ad 118), .ref (ad 119), .ref (ad 120), .ref (ad 121), .int (F 21), .ref (ad 123), .ref (ad 124), .ref (ad 125), .ref (ad 126), .int (F 26), .ref (ad 128), .ref (ad 129), .ref (ad 130), .ref (ad 131), .ref (ad 132), .int (F 32), .ref (ad 134)])) := ⟨_, rfl⟩
      have hP : va_P D vwCl (wl Ls ad G_20) H := by rw [eG_20]; exact hP
      have hD : va_D (fun q => b0 ≤ q) (wl Ls ad G_20) := by rw [eG_20]; exact hD
      have a31 : G_20 132 = .inl (y 2, 960, .inl (A 31)) := by rw [eG_20, va_up_ne _ _ (by omega)]; exact a31
      have eM : G_20 100 = .inr (10, [.int 0, .int (F 1), .ref (ad 103), .int (F 3), .ref (ad 105), .ref (ad 106), .ref (ad 107), .ref (ad 108), .int (F 8), .ref (ad 110), .ref (ad 111), .ref (ad 112), .ref (ad 113), .int (F 13), .int (F 14), .ref (ad 116), .ref (ad 117), .ref (ad 118), .ref (ad 119), .ref (ad 120), .ref (ad 121), .int (F 21), .ref (ad 123), .ref (ad 124), .ref (ad 125), .ref (ad 126), .int (F 26), .ref (ad 128), .ref (ad 129), .ref (ad 130), .ref (ad 131), .ref (ad 132), .int (F 32), .ref (ad 134)]) := by rw [eG_20]; exact va_up_self _ _ _
      refine lv_aload_n hx hb dX8_bill_23 rfl (lv_at hl 0 rfl) ?_
      refine pv_get (ci := 10) (C := RX8) (T := TX8) (N := 34) hx hb hts hinX8 hown hK hP hM.1 eM rfl 0 (by decide) (hts (.fieldLink RX8 86 "StorageChargeModel" "code" "I") (by decide +kernel)) (fun _ h9 => h9) rfl dX8_bill_24 ?_
      refine lv_if_ne (tgt := 53) hx hb dX8_bill_27 (by decide) (fun c_27 => ?_) (fun c_27 => ?_)
      · exact absurd rfl c_27
      · refine lv_aload_n hx hb dX8_bill_30 rfl (lv_at hl 0 rfl) ?_
        refine lv_aload_n hx hb dX8_bill_31 rfl (lv_at hl 0 rfl) ?_
        refine pv_get (ci := 10) (C := RX8) (T := TX8) (N := 34) hx hb hts hinX8 hown hK hP hM.1 eM rfl 31 (by decide) (hts (.fieldLink RX8 80 "StorageChargeModel" "isBilled" "[Z") (by decide +kernel)) (fun _ h9 => h9) rfl dX8_bill_32 ?_
        refine lv_bipush (v := 120) hx hb dX8_bill_35 (by decide) ?_
        refine lv_iload_n hx hb dX8_bill_37 rfl (lv_at hl 1 rfl) ?_
        refine lv_imul hx hb dX8_bill_38 ?_
        refine lv_iload_n hx hb dX8_bill_39 rfl (lv_at hl 2 rfl) ?_
        refine lv_iadd hx hb dX8_bill_40 ?_
        refine pv_zald hx hb hK hP j31 2 a31 rfl (k := 120 * o9 + m0) (nI120 _ _) (by omega) (by decide) dX8_bill_41 ?_
        refine lv_if_eq (tgt := 49) hx hb dX8_bill_42 (by decide) (fun c_42 => ?_) (fun c_42 => ?_)
        · refine lv_iconst (v := 0) hx hb dX8_bill_49 (by decide) ?_
          refine pv_put (ci := 10) (v := .int 0) (ty := .int) (C := RX8) (T := TX8) (N := 34) hx hb hts hinX8 tyX8 tyX8_ok nmX8 hown hK hP hD hS hM.1 eM rfl 0 (by decide) (hts (.fieldLink RX8 86 "StorageChargeModel" "code" "I") (by decide +kernel)) (fun _ h9 => h9) rfl (by decide +kernel) rfl rfl (Nat.le_of_ble_eq_true rfl) dX8_bill_50 (fun H locs hP hD hS => ?_)
          obtain ⟨G_50, eG_50⟩ : ∃ gg9 : Nat → va_E, gg9 = va_up G_20 100 (.inr (10, [.int 0, .int (F 1), .ref (ad 103), .int (F 3), .ref (ad 105), .ref (ad 106), .ref (ad 107), .ref (ad 108), .int (F 8), .ref (ad 110), .ref (ad 111), .ref (ad 112), .ref (ad 113), .int (F 13), .int (F 14), .ref (ad 116), .ref (ad 117), .ref (ad 118), .ref (ad 119), .ref (ad 120), .ref (ad 121), .int (F 21), .ref (ad 123), .ref (ad 124), .ref (ad 125), .ref (ad 126), .int (F 26), .ref (ad 128), .ref (ad 129), .ref (ad 130), .ref (ad 131), .ref (ad 132), .int (F 32), .ref (ad 134)])) := ⟨_, rfl⟩
          have hP : va_P D vwCl (wl Ls ad G_50) H := by rw [eG_50]; exact hP
          have hD : va_D (fun q => b0 ≤ q) (wl Ls ad G_50) := by rw [eG_50]; exact hD
          have a31 : G_50 132 = .inl (y 2, 960, .inl (A 31)) := by rw [eG_50, va_up_ne _ _ (by omega)]; exact a31
          have eM : G_50 100 = .inr (10, [.int 0, .int (F 1), .ref (ad 103), .int (F 3), .ref (ad 105), .ref (ad 106), .ref (ad 107), .ref (ad 108), .int (F 8), .ref (ad 110), .ref (ad 111), .ref (ad 112), .ref (ad 113), .int (F 13), .int (F 14), .ref (ad 116), .ref (ad 117), .ref (ad 118), .ref (ad 119), .ref (ad 120), .ref (ad 121), .int (F 21), .ref (ad 123), .ref (ad 124), .ref (ad 125), .ref (ad 126), .int (F 26), .ref (ad 128), .ref (ad 129), .ref (ad 130), .ref (ad 131), .ref (ad 132), .int (F 32), .ref (ad 134)]) := by rw [eG_50]; exact va_up_self _ _ _
          have hMc : ModelAt y Ls ad G_50 (va_up F 0 0) A := (ModelAt_w hM (eM) (fun k hk => Or.inl ⟨by rw [eG_50, va_up_ne _ _ (by omega), eG_20, va_up_ne _ _ (by omega)], rfl⟩))
          have hfrc : ∀ j, (j < 100 ∨ 134 < j) → G_50 j = G j := (fun j h9 => by rw [eG_50, va_up_ne _ _ (by omega), eG_20, va_up_ne _ _ (by omega)])
          refine lv_aload_n hx hb dX8_bill_53 rfl (lv_at hl 0 rfl) ?_
          refine pv_get (ci := 10) (C := RX8) (T := TX8) (N := 34) hx hb hts hinX8 hown hK hP hM.1 eM rfl 0 (by decide) (hts (.fieldLink RX8 86 "StorageChargeModel" "code" "I") (by decide +kernel)) (fun _ h9 => h9) rfl dX8_bill_54 ?_
          refine lv_if_le (tgt := 62) hx hb dX8_bill_57 (by decide) (fun c_57 => ?_) (fun c_57 => ?_)
          · refine lv_aload_n hx hb dX8_bill_62 rfl (lv_at hl 0 rfl) ?_
            refine pv_get (ci := 10) (C := RX8) (T := TX8) (N := 34) hx hb hts hinX8 hown hK hP hM.1 eM rfl 31 (by decide) (hts (.fieldLink RX8 80 "StorageChargeModel" "isBilled" "[Z") (by decide +kernel)) (fun _ h9 => h9) rfl dX8_bill_63 ?_
            refine lv_bipush (v := 120) hx hb dX8_bill_66 (by decide) ?_
            refine lv_iload_n hx hb dX8_bill_68 rfl (lv_at hl 1 rfl) ?_
            refine lv_imul hx hb dX8_bill_69 ?_
            refine lv_iload_n hx hb dX8_bill_70 rfl (lv_at hl 2 rfl) ?_
            refine lv_iadd hx hb dX8_bill_71 ?_
            refine lv_iconst (v := 1) hx hb dX8_bill_72 (by decide) ?_
            refine pv_zast hx hb hK hP hD hS j31 2 a31 rfl (k := 120 * o9 + m0) (nI120 _ _) (by omega) (by decide) dX8_bill_73 (fun H locs hP hD hS => ?_)
            obtain ⟨G_73, eG_73⟩ : ∃ gg9 : Nat → va_E, gg9 = va_up G_50 132 (.inl (y 2, 960, .inl (upd (A 31) (120 * o9 + m0) (vp_nar .boolean 1)))) := ⟨_, rfl⟩
            have hP : va_P D vwCl (wl Ls ad G_73) H := by rw [eG_73]; exact hP
            have hD : va_D (fun q => b0 ≤ q) (wl Ls ad G_73) := by rw [eG_73]; exact hD
            have eM : G_73 100 = .inr (10, [.int 0, .int (F 1), .ref (ad 103), .int (F 3), .ref (ad 105), .ref (ad 106), .ref (ad 107), .ref (ad 108), .int (F 8), .ref (ad 110), .ref (ad 111), .ref (ad 112), .ref (ad 113), .int (F 13), .int (F 14), .ref (ad 116), .ref (ad 117), .ref (ad 118), .ref (ad 119), .ref (ad 120), .ref (ad 121), .int (F 21), .ref (ad 123), .ref (ad 124), .ref (ad 125), .ref (ad 126), .int (F 26), .ref (ad 128), .ref (ad 129), .ref (ad 130), .ref (ad 131), .ref (ad 132), .int (F 32), .ref (ad 134)]) := by rw [eG_73, va_up_ne _ _ (by omega)]; exact eM
            have a31 : G_73 132 = .inl (y 2, 960, .inl (upd (A 31) (120 * o9 + m0) (vp_nar .boolean 1))) := by rw [eG_73]; exact va_up_self _ _ _
            have hM73 : ModelAt y Ls ad G_73 (va_up F 0 0) (va_up A 31 (upd (A 31) (120 * o9 + m0) (vp_nar .boolean 1))) := (ModelAt_w hM (eM) (fun k hk => if h319 : k = 31 then Or.inr (by subst h319; exact a31) else (Or.inl ⟨by rw [eG_73, va_up_ne _ _ (by omega), eG_50, va_up_ne _ _ (by omega), eG_20, va_up_ne _ _ (by omega)], by rw [va_up_ne _ _ h319]⟩)))
            have hfr73 : ∀ j, (j < 100 ∨ 134 < j) → G_73 j = G j := (fun j h9 => by rw [eG_73, va_up_ne _ _ (by omega), eG_50, va_up_ne _ _ (by omega), eG_20, va_up_ne _ _ (by omega)])
            refine lv_aload_n hx hb dX8_bill_74 rfl (lv_at hl 0 rfl) ?_
            refine lv_iload_n hx hb dX8_bill_75 rfl (lv_at hl 1 rfl) ?_
            refine lv_iload_n hx hb dX8_bill_76 rfl (lv_at hl 2 rfl) ?_
            refine lv_aload_n hx hb dX8_bill_77 rfl (lv_at hl 0 rfl) ?_
            refine lv_iload_n hx hb dX8_bill_78 rfl (lv_at hl 1 rfl) ?_
            refine lv_iload_n hx hb dX8_bill_79 rfl (lv_at hl 1 rfl) ?_
            refine lv_iload_n hx hb dX8_bill_80 rfl (lv_at hl 2 rfl) ?_
            refine vp_callSi (va_Run.run (va_runV (As := [.int (nI o9), .int (nI o9), .int (nI m0)]) (rest := [.int (nI m0), .int (nI o9), .ref (ad 100)]) ⟨hx, hb, hml, hown, hts⟩ (c_X8_sumOf l D y Ls ad G_73 (va_up F 0 0) (va_up A 31 (upd (A 31) (120 * o9 + m0) (vp_nar .boolean 1))) hM73 nu ((va_up_ne _ _ (by decide)).trans h14) nl ((va_up_ne _ _ (by decide)).trans h3) nm ((va_up_ne _ _ (by decide)).trans h21) hnu hnl hnm tn htn (nI o9) (nI o9) m0 hm0) (cwV 3 hts gX8_bill_X8_sumOf rfl rfl rfl (by decide +kernel) ⟨Nat.le_of_ble_eq_true rfl, Nat.le_of_ble_eq_true rfl⟩) ⟨Wd_blind, Wd_recv hK hP (ci := 10) rfl hM.1 eM, Wd_at hP hK hN⟩ rfl rfl hl.1 rfl (lv_room (Nat.le_of_ble_eq_true rfl)) dX8_bill_81 ⟨(Nat.le_of_ble_eq_true rfl), (Nat.le_of_ble_eq_true rfl)⟩)) (fun r_81 hr_81 => ?_)
            refine lv_iconst (v := 0) hx hb dX8_bill_84 (by decide) ?_
            refine va_callv (va_runV (As := [.int (nI o9), .int (nI m0), .int r_81, .int 0]) (rest := []) ⟨hx, hb, hml, hown, hts⟩ (c_X8_keep l hl0 D y b0 Ls ad G_73 (va_up F 0 0) (va_up A 31 (upd (A 31) (120 * o9 + m0) (vp_nar .boolean 1))) hM73 nr ((va_up_ne _ _ (by decide)).trans h26) (by omega) (nI o9) (nI m0) r_81 0 (by decide)) (cwV 4 hts gX8_bill_X8_keep rfl rfl rfl (by decide +kernel) ⟨(Nat.le_of_ble_eq_true rfl), (Nat.le_of_ble_eq_true rfl)⟩) ⟨WdM_blind, Wd_recv hK hP (ci := 10) rfl hM.1 eM, WdM_at hP hK hN hD hS hb0 hT⟩ rfl rfl hl.1 rfl (lv_room (Nat.le_of_ble_eq_true rfl)) dX8_bill_85 ⟨(Nat.le_of_ble_eq_true rfl), (Nat.le_of_ble_eq_true rfl)⟩) hS (fun _ _ h => h) (fun _ h => h) (fun u85 t H locs ht hvm hw85 hB hz1 hk1 hS => ?_)
            obtain ⟨hP, hD⟩ := hB
            rw [ht] at hP
            obtain ⟨g85, rfl, hM85, hfr85⟩ := hw85
            have eM := hM85.2.1
            refine lv_aload_n hx hb dX8_bill_88 rfl (lv_at hl 0 rfl) ?_
            refine lv_iload_n hx hb dX8_bill_89 rfl (lv_at hl 1 rfl) ?_
            refine lv_iload_n hx hb dX8_bill_90 rfl (lv_at hl 1 rfl) ?_
            refine lv_iload_n hx hb dX8_bill_91 rfl (lv_at hl 2 rfl) ?_
            refine vp_callSi (va_Run.run (va_runV (As := [.int (nI o9), .int (nI o9), .int (nI m0)]) (rest := []) ⟨hx, hb, hml, hown, hts⟩ (c_X8_sumOf l D y Ls ad g85 _ _ hM85 nu ((va_up_ne _ _ (by decide)).trans ((va_up_ne _ _ (by decide)).trans h14)) nl ((va_up_ne _ _ (by decide)).trans ((va_up_ne _ _ (by decide)).trans h3)) nm ((va_up_ne _ _ (by decide)).trans ((va_up_ne _ _ (by decide)).trans h21)) hnu hnl hnm tn htn (nI o9) (nI o9) m0 hm0) (cwV 3 hts gX8_bill_X8_sumOf rfl rfl rfl (by decide +kernel) ⟨Nat.le_of_ble_eq_true rfl, Nat.le_of_ble_eq_true rfl⟩) ⟨Wd_blind, Wd_recv hK hP (ci := 10) rfl hM.1 eM, Wd_at hP hK hN⟩ rfl rfl hl.1 rfl (lv_room (Nat.le_of_ble_eq_true rfl)) dX8_bill_92 ⟨(Nat.le_of_ble_eq_true rfl), (Nat.le_of_ble_eq_true rfl)⟩)) (fun r_92 hr_92 => ?_)
            refine W.widen (k := 0) (n := 0) (Nat.le_of_ble_eq_true rfl) (Nat.le_of_ble_eq_true rfl) ?_
            exact W.iret (v := r_92) hx hb hr (fun t ht hW => ⟨⟨r_92, wl Ls ad g85, rfl, Or.inr ⟨o9, m0, ho9, hm0, rfl, rfl, Or.inr ⟨c_42, by rw [hr_92, mSum_up (by decide), mSum_up (by decide), mSum_up (by decide), mSum_up (by decide), mSum_up (by decide)], _, rfl, by rw [hr_81, mSum_up (by decide)] at hM85; exact hM85, fun j h9 => (hfr85 j h9).trans (hfr73 j h9)⟩⟩, by rw [ht]; exact hP, hD⟩, hS.F ht⟩) hS.2.2 dX8_bill_95
          · exact absurd (by decide) c_57
        · refine lv_iconst (v := 2) hx hb dX8_bill_45 (by decide) ?_
          refine lv_goto (tgt := 50) hx hb dX8_bill_46 (by decide) ?_
          refine pv_put (ci := 10) (v := .int 2) (ty := .int) (C := RX8) (T := TX8) (N := 34) hx hb hts hinX8 tyX8 tyX8_ok nmX8 hown hK hP hD hS hM.1 eM rfl 0 (by decide) (hts (.fieldLink RX8 86 "StorageChargeModel" "code" "I") (by decide +kernel)) (fun _ h9 => h9) rfl (by decide +kernel) rfl rfl (Nat.le_of_ble_eq_true rfl) dX8_bill_50 (fun H locs hP hD hS => ?_)
          obtain ⟨G_50, eG_50⟩ : ∃ gg9 : Nat → va_E, gg9 = va_up G_20 100 (.inr (10, [.int 2, .int (F 1), .ref (ad 103), .int (F 3), .ref (ad 105), .ref (ad 106), .ref (ad 107), .ref (ad 108), .int (F 8), .ref (ad 110), .ref (ad 111), .ref (ad 112), .ref (ad 113), .int (F 13), .int (F 14), .ref (ad 116), .ref (ad 117), .ref (ad 118), .ref (ad 119), .ref (ad 120), .ref (ad 121), .int (F 21), .ref (ad 123), .ref (ad 124), .ref (ad 125), .ref (ad 126), .int (F 26), .ref (ad 128), .ref (ad 129), .ref (ad 130), .ref (ad 131), .ref (ad 132), .int (F 32), .ref (ad 134)])) := ⟨_, rfl⟩
          have hP : va_P D vwCl (wl Ls ad G_50) H := by rw [eG_50]; exact hP
          have hD : va_D (fun q => b0 ≤ q) (wl Ls ad G_50) := by rw [eG_50]; exact hD
          have a31 : G_50 132 = .inl (y 2, 960, .inl (A 31)) := by rw [eG_50, va_up_ne _ _ (by omega)]; exact a31
          have eM : G_50 100 = .inr (10, [.int 2, .int (F 1), .ref (ad 103), .int (F 3), .ref (ad 105), .ref (ad 106), .ref (ad 107), .ref (ad 108), .int (F 8), .ref (ad 110), .ref (ad 111), .ref (ad 112), .ref (ad 113), .int (F 13), .int (F 14), .ref (ad 116), .ref (ad 117), .ref (ad 118), .ref (ad 119), .ref (ad 120), .ref (ad 121), .int (F 21), .ref (ad 123), .ref (ad 124), .ref (ad 125), .ref (ad 126), .int (F 26), .ref (ad 128), .ref (ad 129), .ref (ad 130), .ref (ad 131), .ref (ad 132), .int (F 32), .ref (ad 134)]) := by rw [eG_50]; exact va_up_self _ _ _
          have hMc : ModelAt y Ls ad G_50 (va_up F 0 2) A := (ModelAt_w hM (eM) (fun k hk => Or.inl ⟨by rw [eG_50, va_up_ne _ _ (by omega), eG_20, va_up_ne _ _ (by omega)], rfl⟩))
          have hfrc : ∀ j, (j < 100 ∨ 134 < j) → G_50 j = G j := (fun j h9 => by rw [eG_50, va_up_ne _ _ (by omega), eG_20, va_up_ne _ _ (by omega)])
          refine lv_aload_n hx hb dX8_bill_53 rfl (lv_at hl 0 rfl) ?_
          refine pv_get (ci := 10) (C := RX8) (T := TX8) (N := 34) hx hb hts hinX8 hown hK hP hM.1 eM rfl 0 (by decide) (hts (.fieldLink RX8 86 "StorageChargeModel" "code" "I") (by decide +kernel)) (fun _ h9 => h9) rfl dX8_bill_54 ?_
          refine lv_if_le (tgt := 62) hx hb dX8_bill_57 (by decide) (fun c_57 => ?_) (fun c_57 => ?_)
          · exact absurd c_57 (by decide)
          · refine lv_iconst (v := 0) hx hb dX8_bill_60 (by decide) ?_
            refine W.widen (k := 0) (n := 0) (Nat.le_of_ble_eq_true rfl) (Nat.le_of_ble_eq_true rfl) ?_
            exact W.iret (v := 0) hx hb hr (fun t ht hW => ⟨⟨0, wl Ls ad G_50, rfl, Or.inr ⟨o9, m0, ho9, hm0, rfl, rfl, Or.inl ⟨c_42, _, rfl, hMc, hfrc⟩⟩, by rw [ht]; exact hP, hD⟩, hS.F ht⟩) hS.2.2 dX8_bill_61
    · refine lv_iconst (v := 1) hx hb dX8_bill_15 (by decide) ?_
      refine lv_goto (tgt := 20) hx hb dX8_bill_16 (by decide) ?_
      refine pv_put (ci := 10) (v := .int 1) (ty := .int) (C := RX8) (T := TX8) (N := 34) hx hb hts hinX8 tyX8 tyX8_ok nmX8 hown hK hP hD hS hM.1 eM rfl 0 (by decide) (hts (.fieldLink RX8 86 "StorageChargeModel" "code" "I") (by decide +kernel)) (fun _ h9 => h9) rfl (by decide +kernel) rfl rfl (Nat.le_of_ble_eq_true rfl) dX8_bill_20 (fun H locs hP hD hS => ?_)
      obtain ⟨G_20, eG_20⟩ : ∃ gg9 : Nat → va_E, gg9 = va_up G 100 (.inr (10, [.int 1, .int (F 1), .ref (ad 103), .int (F 3), .ref (ad 105), .ref (ad 106), .ref (ad 107), .ref (ad 108), .int (F 8), .ref (ad 110), .ref (ad 111), .ref (ad 112), .ref (ad 113), .int (F 13), .int (F 14), .ref (ad 116), .ref (ad 117), .ref (ad 118), .ref (ad 119), .ref (ad 120), .ref (ad 121), .int (F 21), .ref (ad 123), .ref (ad 124), .ref (ad 125), .ref (ad 126), .int (F 26), .ref (ad 128), .ref (ad 129), .ref (ad 130), .ref (ad 131), .ref (ad 132), .int (F 32), .ref (ad 134)])) := ⟨_, rfl⟩
      have hP : va_P D vwCl (wl Ls ad G_20) H := by rw [eG_20]; exact hP
      have hD : va_D (fun q => b0 ≤ q) (wl Ls ad G_20) := by rw [eG_20]; exact hD
      have a31 : G_20 132 = .inl (y 2, 960, .inl (A 31)) := by rw [eG_20, va_up_ne _ _ (by omega)]; exact a31
      have eM : G_20 100 = .inr (10, [.int 1, .int (F 1), .ref (ad 103), .int (F 3), .ref (ad 105), .ref (ad 106), .ref (ad 107), .ref (ad 108), .int (F 8), .ref (ad 110), .ref (ad 111), .ref (ad 112), .ref (ad 113), .int (F 13), .int (F 14), .ref (ad 116), .ref (ad 117), .ref (ad 118), .ref (ad 119), .ref (ad 120), .ref (ad 121), .int (F 21), .ref (ad 123), .ref (ad 124), .ref (ad 125), .ref (ad 126), .int (F 26), .ref (ad 128), .ref (ad 129), .ref (ad 130), .ref (ad 131), .ref (ad 132), .int (F 32), .ref (ad 134)]) := by rw [eG_20]; exact va_up_self _ _ _
      refine lv_aload_n hx hb dX8_bill_23 rfl (lv_at hl 0 rfl) ?_
      refine pv_get (ci := 10) (C := RX8) (T := TX8) (N := 34) hx hb hts hinX8 hown hK hP hM.1 eM rfl 0 (by decide) (hts (.fieldLink RX8 86 "StorageChargeModel" "code" "I") (by decide +kernel)) (fun _ h9 => h9) rfl dX8_bill_24 ?_
      refine lv_if_ne (tgt := 53) hx hb dX8_bill_27 (by decide) (fun c_27 => ?_) (fun c_27 => ?_)
      · have hMc : ModelAt y Ls ad G_20 (va_up F 0 1) A := (ModelAt_w hM (eM) (fun k hk => Or.inl ⟨by rw [eG_20, va_up_ne _ _ (by omega)], rfl⟩))
        have hfrc : ∀ j, (j < 100 ∨ 134 < j) → G_20 j = G j := (fun j h9 => by rw [eG_20, va_up_ne _ _ (by omega)])
        refine lv_aload_n hx hb dX8_bill_53 rfl (lv_at hl 0 rfl) ?_
        refine pv_get (ci := 10) (C := RX8) (T := TX8) (N := 34) hx hb hts hinX8 hown hK hP hM.1 eM rfl 0 (by decide) (hts (.fieldLink RX8 86 "StorageChargeModel" "code" "I") (by decide +kernel)) (fun _ h9 => h9) rfl dX8_bill_54 ?_
        refine lv_if_le (tgt := 62) hx hb dX8_bill_57 (by decide) (fun c_57 => ?_) (fun c_57 => ?_)
        · exact absurd c_57 (by decide)
        · refine lv_iconst (v := 0) hx hb dX8_bill_60 (by decide) ?_
          refine W.widen (k := 0) (n := 0) (Nat.le_of_ble_eq_true rfl) (Nat.le_of_ble_eq_true rfl) ?_
          exact W.iret (v := 0) hx hb hr (fun t ht hW => ⟨⟨0, wl Ls ad G_20, rfl, (by first | exact Or.inl ⟨fun h => absurd h.1 (wI_eq0.mp (by rw [← hr_2]; exact c_5)), _, rfl, hMc, hfrc⟩ | exact Or.inl ⟨fun h => absurd h.2 (wI_eq0.mp (by rw [← hr_9]; exact c_12)), _, rfl, hMc, hfrc⟩), by rw [ht]; exact hP, hD⟩, hS.F ht⟩) hS.2.2 dX8_bill_61
      · exact absurd c_27 (by decide)

set_option maxHeartbeats 4000000 in
set_option maxRecDepth 100000 in
/-- correct -/
theorem c_X8_correct (l : Launch) (hl0 : l.stackTraces = false) (D : va_G) (y : Nat → ClassId) (b0 : Nat) (Ls : List Nat) (ad : Nat → Nat) (G : Nat → va_E) (F : Nat → Int32) (A : Nat → Nat → Int32) (hM : ModelAt y Ls ad G F A) (nu : Nat) (h14 : F 14 = nI nu) (nl : Nat) (h3 : F 3 = nI nl) (nm : Nat) (h21 : F 21 = nI nm) (hnu : nu ≤ 24) (hnl : nl ≤ 60) (hnm : nm ≤ 60) (tn : Nat → Nat) (htn : ∀ u, u < nu → A 18 u = nI (tn u) ∧ tn u ≤ 9) (nr : Nat) (h26 : F 26 = nI nr) (hnr : nr < 520) (o mo0 : Int32) : Met l yX8_correct wsX8_correct ({ frames := 4, cells := 0, slots := 0, locals := 100 }) (va_Pc [.ref (ad 100), .int o, .int mo0] (WdM D y b0 (wl Ls ad G))) (va_Qi (fun (r : Int32) (u : va_W) => (¬ (inR o 7 ∧ inR mo0 119) ∧ ∃ G2, u = wl Ls ad G2 ∧ ModelAt y Ls ad G2 (va_up F 0 1) A ∧ (∀ j, (j < 100 ∨ 134 < j) → G2 j = G j)) ∨ (∃ o8 m8, o8 < 8 ∧ m8 < 120 ∧ o = nI o8 ∧ mo0 = nI m8 ∧ ((A 31 (120 * o8 + m8) = 0 ∧ ∃ G2, u = wl Ls ad G2 ∧ ModelAt y Ls ad G2 (va_up F 0 2) A ∧ (∀ j, (j < 100 ∨ 134 < j) → G2 j = G j)) ∨ (¬ A 31 (120 * o8 + m8) = 0 ∧ r = mSum A nl nu nm tn o o m8 - cM (A 27) (A 28) (A 29) o mo0 nr ∧ ((r = 0 ∧ ∃ G2, u = wl Ls ad G2 ∧ ModelAt y Ls ad G2 (va_up F 0 0) A ∧ (∀ j, (j < 100 ∨ 134 < j) → G2 j = G j)) ∨ (¬ r = 0 ∧ ∃ G2, u = wl Ls ad G2 ∧ ModelAt y Ls ad G2 (va_up (va_up F 0 0) 26 (nI (nr + 1))) (va_up (va_up (va_up (va_up A 27 (upd (A 27) nr o)) 28 (upd (A 28) nr mo0)) 29 (upd (A 29) nr (r))) 30 (upd (A 30) nr 1)) ∧ (∀ j, (j < 100 ∨ 134 < j) → G2 j = G j))))))) (WB D b0) (fun q => b0 ≤ q)) 0 0 (fun q => b0 ≤ q) := by
  refine Met.ofW (cc := cX8_correct) (maxL := 5) (ret := (some .int)) (by decide) rfl ?_
  intro p e s m args below meth c s₁ B hml hv
  obtain ⟨rfl, ⟨hP, hK, hN⟩, hD, hb0, hT⟩ := hv
  have hx := B.exec
  have hb := B.bytes
  have hr := B.returns
  have hts := atoms_spec (ws := wsX8_correct) B.pre
  have hown : s.vm.findClass RX8 = some m.cls := findClass_of_methodNamed B.named
  have hlocks := B.notSynchronized
  have hS : va_S (fun q => b0 ≤ q) s.heap s.heap [] := va_S.rf
  have hinX8 : ∀ w ∈ wsX80, w ∈ wsX8_correct := by decide +kernel
  have eM : G 100 = .inr (10, [.int (F 0), .int (F 1), .ref (ad 103), .int (F 3), .ref (ad 105), .ref (ad 106), .ref (ad 107), .ref (ad 108), .int (F 8), .ref (ad 110), .ref (ad 111), .ref (ad 112), .ref (ad 113), .int (F 13), .int (F 14), .ref (ad 116), .ref (ad 117), .ref (ad 118), .ref (ad 119), .ref (ad 120), .ref (ad 121), .int (F 21), .ref (ad 123), .ref (ad 124), .ref (ad 125), .ref (ad 126), .int (nI nr), .ref (ad 128), .ref (ad 129), .ref (ad 130), .ref (ad 131), .ref (ad 132), .int (F 32), .ref (ad 134)]) := hM.2.1.trans (by rw [mfs, h26])
  obtain ⟨j31, a31⟩ : 132 ∈ Ls ∧ G 132 = .inl (y 2, 960, .inl (A 31)) := hM.2.2 31 (by decide)
  obtain ⟨j27, a27⟩ : 128 ∈ Ls ∧ G 128 = .inl (y 0, 520, .inl (A 27)) := hM.2.2 27 (by decide)
  obtain ⟨j28, a28⟩ : 129 ∈ Ls ∧ G 129 = .inl (y 0, 520, .inl (A 28)) := hM.2.2 28 (by decide)
  obtain ⟨j29, a29⟩ : 130 ∈ Ls ∧ G 130 = .inl (y 0, 520, .inl (A 29)) := hM.2.2 29 (by decide)
  have hl := lv_entry ([.ref (ad 100), .int o, .int mo0]) (n := 5) (Nat.le_of_ble_eq_true rfl)
  rw [lg_entry_eq]
  generalize (lg_sl ([.ref (ad 100), .int o, .int mo0]) ++ List.replicate (5 - (lg_sl ([.ref (ad 100), .int o, .int mo0])).length) Slot.unset).toArray = ls at hl ⊢
  have hl : lv_has ls 5 [(0, .ref (ad 100)), (1, .int o), (2, .int mo0)] := hl
  refine lv_aload_n hx hb dX8_correct_0 rfl (lv_at hl 0 rfl) ?_
  refine lv_iload_n hx hb dX8_correct_1 rfl (lv_at hl 1 rfl) ?_
  refine vp_callSi (va_Run.run (va_runS (As := [.int o]) (rest := [.ref (ad 100)]) ⟨hx, hb, hml, hown, hts⟩ (c_X8_isOwner l o) (va_cwS 1 hts gX8_correct_X8_isOwner rfl rfl rfl (by decide +kernel) ⟨Nat.le_of_ble_eq_true rfl, Nat.le_of_ble_eq_true rfl⟩) ⟨fun _ _ _ _ q => q, fun U hU hW => ⟨rfl, trivial⟩⟩ rfl rfl hl.1 rfl (lv_room (Nat.le_of_ble_eq_true rfl)) dX8_correct_2 ⟨(Nat.le_of_ble_eq_true rfl), (Nat.le_of_ble_eq_true rfl)⟩)) (fun r_2 hr_2 => ?_)
  refine lv_if_eq (tgt := 15) hx hb dX8_correct_5 (by decide) (fun c_5 => ?_) (fun c_5 => ?_)
  · refine lv_iconst (v := 1) hx hb dX8_correct_15 (by decide) ?_
    refine lv_goto (tgt := 20) hx hb dX8_correct_16 (by decide) ?_
    refine pv_put (ci := 10) (v := .int 1) (ty := .int) (C := RX8) (T := TX8) (N := 34) hx hb hts hinX8 tyX8 tyX8_ok nmX8 hown hK hP hD hS hM.1 eM rfl 0 (by decide) (hts (.fieldLink RX8 86 "StorageChargeModel" "code" "I") (by decide +kernel)) (fun _ h9 => h9) rfl (by decide +kernel) rfl rfl (Nat.le_of_ble_eq_true rfl) dX8_correct_20 (fun H locs hP hD hS => ?_)
    obtain ⟨G_20, eG_20⟩ : ∃ gg9 : Nat → va_E, gg9 = va_up G 100 (.inr (10, [.int 1, .int (F 1), .ref (ad 103), .int (F 3), .ref (ad 105), .ref (ad 106), .ref (ad 107), .ref (ad 108), .int (F 8), .ref (ad 110), .ref (ad 111), .ref (ad 112), .ref (ad 113), .int (F 13), .int (F 14), .ref (ad 116), .ref (ad 117), .ref (ad 118), .ref (ad 119), .ref (ad 120), .ref (ad 121), .int (F 21), .ref (ad 123), .ref (ad 124), .ref (ad 125), .ref (ad 126), .int (nI nr), .ref (ad 128), .ref (ad 129), .ref (ad 130), .ref (ad 131), .ref (ad 132), .int (F 32), .ref (ad 134)])) := ⟨_, rfl⟩
    have hP : va_P D vwCl (wl Ls ad G_20) H := by rw [eG_20]; exact hP
    have hD : va_D (fun q => b0 ≤ q) (wl Ls ad G_20) := by rw [eG_20]; exact hD
    have a31 : G_20 132 = .inl (y 2, 960, .inl (A 31)) := by rw [eG_20, va_up_ne _ _ (by omega)]; exact a31
    have a27 : G_20 128 = .inl (y 0, 520, .inl (A 27)) := by rw [eG_20, va_up_ne _ _ (by omega)]; exact a27
    have a28 : G_20 129 = .inl (y 0, 520, .inl (A 28)) := by rw [eG_20, va_up_ne _ _ (by omega)]; exact a28
    have a29 : G_20 130 = .inl (y 0, 520, .inl (A 29)) := by rw [eG_20, va_up_ne _ _ (by omega)]; exact a29
    have eM : G_20 100 = .inr (10, [.int 1, .int (F 1), .ref (ad 103), .int (F 3), .ref (ad 105), .ref (ad 106), .ref (ad 107), .ref (ad 108), .int (F 8), .ref (ad 110), .ref (ad 111), .ref (ad 112), .ref (ad 113), .int (F 13), .int (F 14), .ref (ad 116), .ref (ad 117), .ref (ad 118), .ref (ad 119), .ref (ad 120), .ref (ad 121), .int (F 21), .ref (ad 123), .ref (ad 124), .ref (ad 125), .ref (ad 126), .int (nI nr), .ref (ad 128), .ref (ad 129), .ref (ad 130), .ref (ad 131), .ref (ad 132), .int (F 32), .ref (ad 134)]) := by rw [eG_20]; exact va_up_self _ _ _
    refine lv_aload_n hx hb dX8_correct_23 rfl (lv_at hl 0 rfl) ?_
    refine pv_get (ci := 10) (C := RX8) (T := TX8) (N := 34) hx hb hts hinX8 hown hK hP hM.1 eM rfl 0 (by decide) (hts (.fieldLink RX8 86 "StorageChargeModel" "code" "I") (by decide +kernel)) (fun _ h9 => h9) rfl dX8_correct_24 ?_
    refine lv_if_ne (tgt := 53) hx hb dX8_correct_27 (by decide) (fun c_27 => ?_) (fun c_27 => ?_)
    · have hMc : ModelAt y Ls ad G_20 (va_up F 0 1) A := (ModelAt_w hM (eM.trans (by rw [← h26]; rfl)) (fun k hk => Or.inl ⟨by rw [eG_20, va_up_ne _ _ (by omega)], rfl⟩))
      have hfrc : ∀ j, (j < 100 ∨ 134 < j) → G_20 j = G j := (fun j h9 => by rw [eG_20, va_up_ne _ _ (by omega)])
      refine lv_aload_n hx hb dX8_correct_53 rfl (lv_at hl 0 rfl) ?_
      refine pv_get (ci := 10) (C := RX8) (T := TX8) (N := 34) hx hb hts hinX8 hown hK hP hM.1 eM rfl 0 (by decide) (hts (.fieldLink RX8 86 "StorageChargeModel" "code" "I") (by decide +kernel)) (fun _ h9 => h9) rfl dX8_correct_54 ?_
      refine lv_if_le (tgt := 62) hx hb dX8_correct_57 (by decide) (fun c_57 => ?_) (fun c_57 => ?_)
      · exact absurd c_57 (by decide)
      · refine lv_iconst (v := 0) hx hb dX8_correct_60 (by decide) ?_
        refine W.widen (k := 0) (n := 0) (Nat.le_of_ble_eq_true rfl) (Nat.le_of_ble_eq_true rfl) ?_
        exact W.iret (v := 0) hx hb hr (fun t ht hW => ⟨⟨0, wl Ls ad G_20, rfl, (by first | exact Or.inl ⟨fun h => absurd h.1 (wI_eq0.mp (by rw [← hr_2]; exact c_5)), _, rfl, hMc, hfrc⟩ | exact Or.inl ⟨fun h => absurd h.2 (wI_eq0.mp (by rw [← hr_9]; exact c_12)), _, rfl, hMc, hfrc⟩), by rw [ht]; exact hP, hD⟩, hS.F ht⟩) hS.2.2 dX8_correct_61
    · exact absurd c_27 (by decide)
  · refine lv_iload_n hx hb dX8_correct_8 rfl (lv_at hl 2 rfl) ?_
    refine vp_callSi (va_Run.run (va_runS (As := [.int mo0]) (rest := [.ref (ad 100)]) ⟨hx, hb, hml, hown, hts⟩ (c_X8_isMonth l mo0) (va_cwS 1 hts gX8_correct_X8_isMonth rfl rfl rfl (by decide +kernel) ⟨Nat.le_of_ble_eq_true rfl, Nat.le_of_ble_eq_true rfl⟩) ⟨fun _ _ _ _ q => q, fun U hU hW => ⟨rfl, trivial⟩⟩ rfl rfl hl.1 rfl (lv_room (Nat.le_of_ble_eq_true rfl)) dX8_correct_9 ⟨(Nat.le_of_ble_eq_true rfl), (Nat.le_of_ble_eq_true rfl)⟩)) (fun r_9 hr_9 => ?_)
    refine lv_if_ne (tgt := 19) hx hb dX8_correct_12 (by decide) (fun c_12 => ?_) (fun c_12 => ?_)
    · have hqm0 : 0 ≤ mo0 ∧ mo0 ≤ 119 := (Decidable.byContradiction fun h => c_12 (by rw [hr_9]; exact wI_eq0.mpr h))
      obtain ⟨m0, hm0, rfl⟩ := within_nI (n := 120) (by decide) (by decide) hqm0
      obtain ⟨o9, ho9, rfl⟩ := within_nI (n := 8) (by decide) (by decide) (Decidable.byContradiction fun h => c_5 (by rw [hr_2]; exact wI_eq0.mpr h))
      refine lv_iconst (v := 0) hx hb dX8_correct_19 (by decide) ?_
      refine pv_put (ci := 10) (v := .int 0) (ty := .int) (C := RX8) (T := TX8) (N := 34) hx hb hts hinX8 tyX8 tyX8_ok nmX8 hown hK hP hD hS hM.1 eM rfl 0 (by decide) (hts (.fieldLink RX8 86 "StorageChargeModel" "code" "I") (by decide +kernel)) (fun _ h9 => h9) rfl (by decide +kernel) rfl rfl (Nat.le_of_ble_eq_true rfl) dX8_correct_20 (fun H locs hP hD hS => ?_)
      obtain ⟨G_20, eG_20⟩ : ∃ gg9 : Nat → va_E, gg9 = va_up G 100 (.inr (10, [.int 0, .int (F 1), .ref (ad 103), .int (F 3), .ref (ad 105), .ref (ad 106), .ref (ad 107), .ref (ad 108), .int (F 8), .ref (ad 110), .ref (ad 111), .ref (ad 112), .ref (ad 113), .int (F 13), .int (F 14), .ref (ad 116), .ref (ad 117), .ref (ad 118), .ref (ad 119), .ref (ad 120), .ref (ad 121), .int (F 21), .ref (ad 123), .ref (ad 124), .ref (ad 125), .ref (ad 126), .int (nI nr), .ref (ad 128), .ref (ad 129), .ref (ad 130), .ref (ad 131), .ref (ad 132), .int (F 32), .ref (ad 134)])) := ⟨_, rfl⟩
      have hP : va_P D vwCl (wl Ls ad G_20) H := by rw [eG_20]; exact hP
      have hD : va_D (fun q => b0 ≤ q) (wl Ls ad G_20) := by rw [eG_20]; exact hD
      have a31 : G_20 132 = .inl (y 2, 960, .inl (A 31)) := by rw [eG_20, va_up_ne _ _ (by omega)]; exact a31
      have a27 : G_20 128 = .inl (y 0, 520, .inl (A 27)) := by rw [eG_20, va_up_ne _ _ (by omega)]; exact a27
      have a28 : G_20 129 = .inl (y 0, 520, .inl (A 28)) := by rw [eG_20, va_up_ne _ _ (by omega)]; exact a28
      have a29 : G_20 130 = .inl (y 0, 520, .inl (A 29)) := by rw [eG_20, va_up_ne _ _ (by omega)]; exact a29
      have eM : G_20 100 = .inr (10, [.int 0, .int (F 1), .ref (ad 103), .int (F 3), .ref (ad 105), .ref (ad 106), .ref (ad 107), .ref (ad 108), .int (F 8), .ref (ad 110), .ref (ad 111), .ref (ad 112), .ref (ad 113), .int (F 13), .int (F 14), .ref (ad 116), .ref (ad 117), .ref (ad 118), .ref (ad 119), .ref (ad 120), .ref (ad 121), .int (F 21), .ref (ad 123), .ref (ad 124), .ref (ad 125), .ref (ad 126), .int (nI nr), .ref (ad 128), .ref (ad 129), .ref (ad 130), .ref (ad 131), .ref (ad 132), .int (F 32), .ref (ad 134)]) := by rw [eG_20]; exact va_up_self _ _ _
      refine lv_aload_n hx hb dX8_correct_23 rfl (lv_at hl 0 rfl) ?_
      refine pv_get (ci := 10) (C := RX8) (T := TX8) (N := 34) hx hb hts hinX8 hown hK hP hM.1 eM rfl 0 (by decide) (hts (.fieldLink RX8 86 "StorageChargeModel" "code" "I") (by decide +kernel)) (fun _ h9 => h9) rfl dX8_correct_24 ?_
      refine lv_if_ne (tgt := 53) hx hb dX8_correct_27 (by decide) (fun c_27 => ?_) (fun c_27 => ?_)
      · exact absurd rfl c_27
      · refine lv_aload_n hx hb dX8_correct_30 rfl (lv_at hl 0 rfl) ?_
        refine lv_aload_n hx hb dX8_correct_31 rfl (lv_at hl 0 rfl) ?_
        refine pv_get (ci := 10) (C := RX8) (T := TX8) (N := 34) hx hb hts hinX8 hown hK hP hM.1 eM rfl 31 (by decide) (hts (.fieldLink RX8 80 "StorageChargeModel" "isBilled" "[Z") (by decide +kernel)) (fun _ h9 => h9) rfl dX8_correct_32 ?_
        refine lv_bipush (v := 120) hx hb dX8_correct_35 (by decide) ?_
        refine lv_iload_n hx hb dX8_correct_37 rfl (lv_at hl 1 rfl) ?_
        refine lv_imul hx hb dX8_correct_38 ?_
        refine lv_iload_n hx hb dX8_correct_39 rfl (lv_at hl 2 rfl) ?_
        refine lv_iadd hx hb dX8_correct_40 ?_
        refine pv_zald hx hb hK hP j31 2 a31 rfl (k := 120 * o9 + m0) (nI120 _ _) (by omega) (by decide) dX8_correct_41 ?_
        refine lv_if_ne (tgt := 49) hx hb dX8_correct_42 (by decide) (fun c_42 => ?_) (fun c_42 => ?_)
        · refine lv_iconst (v := 0) hx hb dX8_correct_49 (by decide) ?_
          refine pv_put (ci := 10) (v := .int 0) (ty := .int) (C := RX8) (T := TX8) (N := 34) hx hb hts hinX8 tyX8 tyX8_ok nmX8 hown hK hP hD hS hM.1 eM rfl 0 (by decide) (hts (.fieldLink RX8 86 "StorageChargeModel" "code" "I") (by decide +kernel)) (fun _ h9 => h9) rfl (by decide +kernel) rfl rfl (Nat.le_of_ble_eq_true rfl) dX8_correct_50 (fun H locs hP hD hS => ?_)
          obtain ⟨G_50, eG_50⟩ : ∃ gg9 : Nat → va_E, gg9 = va_up G_20 100 (.inr (10, [.int 0, .int (F 1), .ref (ad 103), .int (F 3), .ref (ad 105), .ref (ad 106), .ref (ad 107), .ref (ad 108), .int (F 8), .ref (ad 110), .ref (ad 111), .ref (ad 112), .ref (ad 113), .int (F 13), .int (F 14), .ref (ad 116), .ref (ad 117), .ref (ad 118), .ref (ad 119), .ref (ad 120), .ref (ad 121), .int (F 21), .ref (ad 123), .ref (ad 124), .ref (ad 125), .ref (ad 126), .int (nI nr), .ref (ad 128), .ref (ad 129), .ref (ad 130), .ref (ad 131), .ref (ad 132), .int (F 32), .ref (ad 134)])) := ⟨_, rfl⟩
          have hP : va_P D vwCl (wl Ls ad G_50) H := by rw [eG_50]; exact hP
          have hD : va_D (fun q => b0 ≤ q) (wl Ls ad G_50) := by rw [eG_50]; exact hD
          have a31 : G_50 132 = .inl (y 2, 960, .inl (A 31)) := by rw [eG_50, va_up_ne _ _ (by omega)]; exact a31
          have a27 : G_50 128 = .inl (y 0, 520, .inl (A 27)) := by rw [eG_50, va_up_ne _ _ (by omega)]; exact a27
          have a28 : G_50 129 = .inl (y 0, 520, .inl (A 28)) := by rw [eG_50, va_up_ne _ _ (by omega)]; exact a28
          have a29 : G_50 130 = .inl (y 0, 520, .inl (A 29)) := by rw [eG_50, va_up_ne _ _ (by omega)]; exact a29
          have eM : G_50 100 = .inr (10, [.int 0, .int (F 1), .ref (ad 103), .int (F 3), .ref (ad 105), .ref (ad 106), .ref (ad 107), .ref (ad 108), .int (F 8), .ref (ad 110), .ref (ad 111), .ref (ad 112), .ref (ad 113), .int (F 13), .int (F 14), .ref (ad 116), .ref (ad 117), .ref (ad 118), .ref (ad 119), .ref (ad 120), .ref (ad 121), .int (F 21), .ref (ad 123), .ref (ad 124), .ref (ad 125), .ref (ad 126), .int (nI nr), .ref (ad 128), .ref (ad 129), .ref (ad 130), .ref (ad 131), .ref (ad 132), .int (F 32), .ref (ad 134)]) := by rw [eG_50]; exact va_up_self _ _ _
          have hMc : ModelAt y Ls ad G_50 (va_up F 0 0) A := (ModelAt_w hM (eM.trans (by rw [← h26]; rfl)) (fun k hk => Or.inl ⟨by rw [eG_50, va_up_ne _ _ (by omega), eG_20, va_up_ne _ _ (by omega)], rfl⟩))
          have hfrc : ∀ j, (j < 100 ∨ 134 < j) → G_50 j = G j := (fun j h9 => by rw [eG_50, va_up_ne _ _ (by omega), eG_20, va_up_ne _ _ (by omega)])
          refine lv_aload_n hx hb dX8_correct_53 rfl (lv_at hl 0 rfl) ?_
          refine pv_get (ci := 10) (C := RX8) (T := TX8) (N := 34) hx hb hts hinX8 hown hK hP hM.1 eM rfl 0 (by decide) (hts (.fieldLink RX8 86 "StorageChargeModel" "code" "I") (by decide +kernel)) (fun _ h9 => h9) rfl dX8_correct_54 ?_
          refine lv_if_le (tgt := 62) hx hb dX8_correct_57 (by decide) (fun c_57 => ?_) (fun c_57 => ?_)
          · refine lv_aload_n hx hb dX8_correct_62 rfl (lv_at hl 0 rfl) ?_
            refine lv_iload_n hx hb dX8_correct_63 rfl (lv_at hl 1 rfl) ?_
            refine lv_iload_n hx hb dX8_correct_64 rfl (lv_at hl 1 rfl) ?_
            refine lv_iload_n hx hb dX8_correct_65 rfl (lv_at hl 2 rfl) ?_
            refine vp_callSi (va_Run.run (va_runV (As := [.int (nI o9), .int (nI o9), .int (nI m0)]) (rest := []) ⟨hx, hb, hml, hown, hts⟩ (c_X8_sumOf l D y Ls ad G_50 (va_up F 0 0) A hMc nu ((va_up_ne _ _ (by decide)).trans h14) nl ((va_up_ne _ _ (by decide)).trans h3) nm ((va_up_ne _ _ (by decide)).trans h21) hnu hnl hnm tn htn (nI o9) (nI o9) m0 hm0) (cwV 3 hts gX8_correct_X8_sumOf rfl rfl rfl (by decide +kernel) ⟨Nat.le_of_ble_eq_true rfl, Nat.le_of_ble_eq_true rfl⟩) ⟨Wd_blind, Wd_recv hK hP (ci := 10) rfl hM.1 eM, Wd_at hP hK hN⟩ rfl rfl hl.1 rfl (lv_room (Nat.le_of_ble_eq_true rfl)) dX8_correct_66 ⟨(Nat.le_of_ble_eq_true rfl), (Nat.le_of_ble_eq_true rfl)⟩)) (fun r_66 hr_66 => ?_)
            refine lv_istore_n (lv' := [(3, .int r_66), (0, .ref (ad 100)), (1, .int (nI o9)), (2, .int (nI m0))]) hx hb dX8_correct_69 rfl hl (by decide) rfl (fun ls hl => ?_)
            have loop73 : ∀ (n : Nat) (i : Nat) (k : Int32), i ≤ nr → nr < i + n → k = mSum A nl nu nm tn (nI o9) (nI o9) m0 - cM (A 27) (A 28) (A 29) (nI o9) (nI m0) i → ∀ (H : Heap) (locs : List Loc), va_P D vwCl (wl Ls ad G_50) H → va_D (fun q => b0 ≤ q) (wl Ls ad G_50) → va_S (fun q => b0 ≤ q) s.heap H locs → ∀ ls : Array Slot, lv_has ls 5 [(0, .ref (ad 100)), (1, .int (nI o9)), (2, .int (nI m0)), (3, .int k), (4, .int (nI i))] → W p l e (headSpec wsX8_correct ({ frames := 4, cells := 0, slots := 0, locals := 100 })).room s m ([.ref (ad 100), .int (nI o9), .int (nI m0)] : List Value).toArray below meth c H locs 0 0 (MQ below (va_Qi (fun (r : Int32) (u : va_W) => (¬ (inR (nI o9) 7 ∧ inR (nI m0) 119) ∧ ∃ G2, u = wl Ls ad G2 ∧ ModelAt y Ls ad G2 (va_up F 0 1) A ∧ (∀ j, (j < 100 ∨ 134 < j) → G2 j = G j)) ∨ (∃ o8 m8, o8 < 8 ∧ m8 < 120 ∧ (nI o9) = nI o8 ∧ (nI m0) = nI m8 ∧ ((A 31 (120 * o8 + m8) = 0 ∧ ∃ G2, u = wl Ls ad G2 ∧ ModelAt y Ls ad G2 (va_up F 0 2) A ∧ (∀ j, (j < 100 ∨ 134 < j) → G2 j = G j)) ∨ (¬ A 31 (120 * o8 + m8) = 0 ∧ r = mSum A nl nu nm tn (nI o9) (nI o9) m8 - cM (A 27) (A 28) (A 29) (nI o9) (nI m0) nr ∧ ((r = 0 ∧ ∃ G2, u = wl Ls ad G2 ∧ ModelAt y Ls ad G2 (va_up F 0 0) A ∧ (∀ j, (j < 100 ∨ 134 < j) → G2 j = G j)) ∨ (¬ r = 0 ∧ ∃ G2, u = wl Ls ad G2 ∧ ModelAt y Ls ad G2 (va_up (va_up F 0 0) 26 (nI (nr + 1))) (va_up (va_up (va_up (va_up A 27 (upd (A 27) nr (nI o9))) 28 (upd (A 28) nr (nI m0))) 29 (upd (A 29) nr (r))) 30 (upd (A 30) nr 1)) ∧ (∀ j, (j < 100 ∨ 134 < j) → G2 j = G j))))))) (WB D b0) (fun q => b0 ≤ q)) ([.ref (ad 100), .int (nI o9), .int (nI m0)] : List Value).toArray s 0 0 (fun q => b0 ≤ q)) (F0 m 73 ls []) := by
              intro n
              induction n with
              | zero =>
                intro i k hi hn; exact absurd hn (by omega)
              | succ n ih73 =>
                intro i k hi hn ek H locs hP hD hS ls hl
                refine lv_iload hx hb dX8_correct_73 (lv_at hl 4 rfl) ?_
                refine lv_aload_n hx hb dX8_correct_75 rfl (lv_at hl 0 rfl) ?_
                refine pv_get (ci := 10) (C := RX8) (T := TX8) (N := 34) hx hb hts hinX8 hown hK hP hM.1 eM rfl 26 (by decide) (hts (.fieldLink RX8 170 "StorageChargeModel" "rows" "I") (by decide +kernel)) (fun _ h9 => h9) rfl dX8_correct_76 ?_
                refine lv_icmp_ge (tgt := 124) hx hb dX8_correct_79 (by decide) (fun c_79 => ?_) (fun c_79 => ?_)
                · have hge : nr = i := by
                    have h8 := Nat.le_of_not_lt (fun h : i < nr => absurd c_79 (nI_ge h (by omega)))
                    omega
                  refine lv_iload_n hx hb dX8_correct_124 rfl (lv_at hl 3 rfl) ?_
                  refine lv_if_eq (tgt := 136) hx hb dX8_correct_125 (by decide) (fun c_125 => ?_) (fun c_125 => ?_)
                  · refine lv_iload_n hx hb dX8_correct_136 rfl (lv_at hl 3 rfl) ?_
                    refine W.widen (k := 0) (n := 0) (Nat.le_of_ble_eq_true rfl) (Nat.le_of_ble_eq_true rfl) ?_
                    exact W.iret (v := k) hx hb hr (fun t ht hW => ⟨⟨k, wl Ls ad G_50, rfl, Or.inr ⟨o9, m0, ho9, hm0, rfl, rfl, Or.inr ⟨c_42, by rw [ek, hge], Or.inl ⟨c_125, _, rfl, hMc, hfrc⟩⟩⟩, by rw [ht]; exact hP, hD⟩, hS.F ht⟩) hS.2.2 dX8_correct_137
                  · refine lv_aload_n hx hb dX8_correct_128 rfl (lv_at hl 0 rfl) ?_
                    refine lv_iload_n hx hb dX8_correct_129 rfl (lv_at hl 1 rfl) ?_
                    refine lv_iload_n hx hb dX8_correct_130 rfl (lv_at hl 2 rfl) ?_
                    refine lv_iload_n hx hb dX8_correct_131 rfl (lv_at hl 3 rfl) ?_
                    refine lv_iconst (v := 1) hx hb dX8_correct_132 (by decide) ?_
                    refine va_callv (va_runV (As := [.int (nI o9), .int (nI m0), .int k, .int 1]) (rest := []) ⟨hx, hb, hml, hown, hts⟩ (c_X8_keep l hl0 D y b0 Ls ad G_50 (va_up F 0 0) A hMc nr ((va_up_ne _ _ (by decide)).trans h26) (by omega) (nI o9) (nI m0) k 1 (by decide)) (cwV 4 hts gX8_correct_X8_keep rfl rfl rfl (by decide +kernel) ⟨(Nat.le_of_ble_eq_true rfl), (Nat.le_of_ble_eq_true rfl)⟩) ⟨WdM_blind, Wd_recv hK hP (ci := 10) rfl hM.1 eM, WdM_at hP hK hN hD hS hb0 hT⟩ rfl rfl hl.1 rfl (lv_room (Nat.le_of_ble_eq_true rfl)) dX8_correct_133 ⟨(Nat.le_of_ble_eq_true rfl), (Nat.le_of_ble_eq_true rfl)⟩) hS (fun _ _ h => h) (fun _ h => h) (fun u133 t H locs ht hvm hw133 hB hz1 hk1 hS => ?_)
                    obtain ⟨hP, hD⟩ := hB
                    rw [ht] at hP
                    obtain ⟨g133, rfl, hM133, hfr133⟩ := hw133
                    refine lv_iload_n hx hb dX8_correct_136 rfl (lv_at hl 3 rfl) ?_
                    refine W.widen (k := 0) (n := 0) (Nat.le_of_ble_eq_true rfl) (Nat.le_of_ble_eq_true rfl) ?_
                    exact W.iret (v := k) hx hb hr (fun t ht hW => ⟨⟨k, wl Ls ad g133, rfl, Or.inr ⟨o9, m0, ho9, hm0, rfl, rfl, Or.inr ⟨c_42, by rw [ek, hge], Or.inr ⟨c_125, g133, rfl, hM133, fun j h9 => (hfr133 j h9).trans (hfrc j h9)⟩⟩⟩, by rw [ht]; exact hP, hD⟩, hS.F ht⟩) hS.2.2 dX8_correct_137
                · have hlt : i < nr := Nat.lt_of_not_le fun h => c_79 (nI_le h (by omega))
                  refine lv_iload_n hx hb dX8_correct_82 rfl (lv_at hl 3 rfl) ?_
                  refine lv_aload_n hx hb dX8_correct_83 rfl (lv_at hl 0 rfl) ?_
                  refine pv_get (ci := 10) (C := RX8) (T := TX8) (N := 34) hx hb hts hinX8 hown hK hP hM.1 eM rfl 27 (by decide) (hts (.fieldLink RX8 67 "StorageChargeModel" "rowOwner" "[I") (by decide +kernel)) (fun _ h9 => h9) rfl dX8_correct_84 ?_
                  refine lv_iload hx hb dX8_correct_87 (lv_at hl 4 rfl) ?_
                  refine pv_iald hx hb hK hP j27 0 a27 rfl (k := i) rfl (by omega) (by decide) dX8_correct_89 ?_
                  refine lv_iload_n hx hb dX8_correct_90 rfl (lv_at hl 1 rfl) ?_
                  refine lv_icmp_ne (tgt := 115) hx hb dX8_correct_91 (by decide) (fun c_91 => ?_) (fun c_91 => ?_)
                  · refine lv_iconst (v := 0) hx hb dX8_correct_115 (by decide) ?_
                    refine lv_isub hx hb dX8_correct_116 ?_
                    refine lv_topi (fun x_117 ex_117 => ?_)
                    refine lv_istore_n (lv' := [(3, .int x_117), (0, .ref (ad 100)), (1, .int (nI o9)), (2, .int (nI m0)), (4, .int (nI i))]) hx hb dX8_correct_117 rfl hl (by decide) rfl (fun ls hl => ?_)
                    refine lv_iinc (v := nI (i + 1)) (lv' := [(4, .int (nI (i + 1))), (3, .int x_117), (0, .ref (ad 100)), (1, .int (nI o9)), (2, .int (nI m0))]) hx hb dX8_correct_118 hl (k := 4) rfl (nI_1 i) (by decide) rfl (fun ls hl => ?_)
                    refine lv_goto (tgt := 73) hx hb dX8_correct_121 (by decide) ?_
                    exact ih73 (i + 1) x_117 (by omega) (by omega) (by first | (rw [cM, if_neg (fun h => c_91 h.1), ex_117, ek]; exact Int32.sub_zero _) | (rw [cM, if_neg (fun h => c_102 h.2), ex_117, ek]; exact Int32.sub_zero _) | (rw [cM, if_pos ⟨c_91, c_102⟩, ex_117, ek]; exact i_sub2 _ _ _)) _ _ hP hD hS ls (lv_sub hl [2, 3, 4, 1, 0] rfl)
                  · refine lv_aload_n hx hb dX8_correct_94 rfl (lv_at hl 0 rfl) ?_
                    refine pv_get (ci := 10) (C := RX8) (T := TX8) (N := 34) hx hb hts hinX8 hown hK hP hM.1 eM rfl 28 (by decide) (hts (.fieldLink RX8 70 "StorageChargeModel" "rowMonth" "[I") (by decide +kernel)) (fun _ h9 => h9) rfl dX8_correct_95 ?_
                    refine lv_iload hx hb dX8_correct_98 (lv_at hl 4 rfl) ?_
                    refine pv_iald hx hb hK hP j28 0 a28 rfl (k := i) rfl (by omega) (by decide) dX8_correct_100 ?_
                    refine lv_iload_n hx hb dX8_correct_101 rfl (lv_at hl 2 rfl) ?_
                    refine lv_icmp_ne (tgt := 115) hx hb dX8_correct_102 (by decide) (fun c_102 => ?_) (fun c_102 => ?_)
                    · refine lv_iconst (v := 0) hx hb dX8_correct_115 (by decide) ?_
                      refine lv_isub hx hb dX8_correct_116 ?_
                      refine lv_topi (fun x_117 ex_117 => ?_)
                      refine lv_istore_n (lv' := [(3, .int x_117), (0, .ref (ad 100)), (1, .int (nI o9)), (2, .int (nI m0)), (4, .int (nI i))]) hx hb dX8_correct_117 rfl hl (by decide) rfl (fun ls hl => ?_)
                      refine lv_iinc (v := nI (i + 1)) (lv' := [(4, .int (nI (i + 1))), (3, .int x_117), (0, .ref (ad 100)), (1, .int (nI o9)), (2, .int (nI m0))]) hx hb dX8_correct_118 hl (k := 4) rfl (nI_1 i) (by decide) rfl (fun ls hl => ?_)
                      refine lv_goto (tgt := 73) hx hb dX8_correct_121 (by decide) ?_
                      exact ih73 (i + 1) x_117 (by omega) (by omega) (by first | (rw [cM, if_neg (fun h => c_91 h.1), ex_117, ek]; exact Int32.sub_zero _) | (rw [cM, if_neg (fun h => c_102 h.2), ex_117, ek]; exact Int32.sub_zero _) | (rw [cM, if_pos ⟨c_91, c_102⟩, ex_117, ek]; exact i_sub2 _ _ _)) _ _ hP hD hS ls (lv_sub hl [2, 3, 4, 1, 0] rfl)
                    · refine lv_aload_n hx hb dX8_correct_105 rfl (lv_at hl 0 rfl) ?_
                      refine pv_get (ci := 10) (C := RX8) (T := TX8) (N := 34) hx hb hts hinX8 hown hK hP hM.1 eM rfl 29 (by decide) (hts (.fieldLink RX8 73 "StorageChargeModel" "rowCents" "[I") (by decide +kernel)) (fun _ h9 => h9) rfl dX8_correct_106 ?_
                      refine lv_iload hx hb dX8_correct_109 (lv_at hl 4 rfl) ?_
                      refine pv_iald hx hb hK hP j29 0 a29 rfl (k := i) rfl (by omega) (by decide) dX8_correct_111 ?_
                      refine lv_goto (tgt := 116) hx hb dX8_correct_112 (by decide) ?_
                      refine lv_isub hx hb dX8_correct_116 ?_
                      refine lv_topi (fun x_117 ex_117 => ?_)
                      refine lv_istore_n (lv' := [(3, .int x_117), (0, .ref (ad 100)), (1, .int (nI o9)), (2, .int (nI m0)), (4, .int (nI i))]) hx hb dX8_correct_117 rfl hl (by decide) rfl (fun ls hl => ?_)
                      refine lv_iinc (v := nI (i + 1)) (lv' := [(4, .int (nI (i + 1))), (3, .int x_117), (0, .ref (ad 100)), (1, .int (nI o9)), (2, .int (nI m0))]) hx hb dX8_correct_118 hl (k := 4) rfl (nI_1 i) (by decide) rfl (fun ls hl => ?_)
                      refine lv_goto (tgt := 73) hx hb dX8_correct_121 (by decide) ?_
                      exact ih73 (i + 1) x_117 (by omega) (by omega) (by first | (rw [cM, if_neg (fun h => c_91 h.1), ex_117, ek]; exact Int32.sub_zero _) | (rw [cM, if_neg (fun h => c_102 h.2), ex_117, ek]; exact Int32.sub_zero _) | (rw [cM, if_pos ⟨c_91, c_102⟩, ex_117, ek]; exact i_sub2 _ _ _)) _ _ hP hD hS ls (lv_sub hl [2, 3, 4, 1, 0] rfl)
            refine lv_iconst (v := 0) hx hb dX8_correct_70 (by decide) ?_
            refine lv_istore (lv' := [(4, .int 0), (3, .int r_66), (0, .ref (ad 100)), (1, .int (nI o9)), (2, .int (nI m0))]) hx hb dX8_correct_71 hl (by decide) rfl (fun ls hl => ?_)
            exact loop73 (nr + 1) 0 r_66 (by omega) (by omega) (by rw [hr_66, cM]; exact (Int32.sub_zero _).symm) _ _ hP hD hS ls (lv_sub hl [2, 3, 4, 1, 0] rfl)
          · exact absurd (by decide) c_57
        · refine lv_iconst (v := 2) hx hb dX8_correct_45 (by decide) ?_
          refine lv_goto (tgt := 50) hx hb dX8_correct_46 (by decide) ?_
          refine pv_put (ci := 10) (v := .int 2) (ty := .int) (C := RX8) (T := TX8) (N := 34) hx hb hts hinX8 tyX8 tyX8_ok nmX8 hown hK hP hD hS hM.1 eM rfl 0 (by decide) (hts (.fieldLink RX8 86 "StorageChargeModel" "code" "I") (by decide +kernel)) (fun _ h9 => h9) rfl (by decide +kernel) rfl rfl (Nat.le_of_ble_eq_true rfl) dX8_correct_50 (fun H locs hP hD hS => ?_)
          obtain ⟨G_50, eG_50⟩ : ∃ gg9 : Nat → va_E, gg9 = va_up G_20 100 (.inr (10, [.int 2, .int (F 1), .ref (ad 103), .int (F 3), .ref (ad 105), .ref (ad 106), .ref (ad 107), .ref (ad 108), .int (F 8), .ref (ad 110), .ref (ad 111), .ref (ad 112), .ref (ad 113), .int (F 13), .int (F 14), .ref (ad 116), .ref (ad 117), .ref (ad 118), .ref (ad 119), .ref (ad 120), .ref (ad 121), .int (F 21), .ref (ad 123), .ref (ad 124), .ref (ad 125), .ref (ad 126), .int (nI nr), .ref (ad 128), .ref (ad 129), .ref (ad 130), .ref (ad 131), .ref (ad 132), .int (F 32), .ref (ad 134)])) := ⟨_, rfl⟩
          have hP : va_P D vwCl (wl Ls ad G_50) H := by rw [eG_50]; exact hP
          have hD : va_D (fun q => b0 ≤ q) (wl Ls ad G_50) := by rw [eG_50]; exact hD
          have a31 : G_50 132 = .inl (y 2, 960, .inl (A 31)) := by rw [eG_50, va_up_ne _ _ (by omega)]; exact a31
          have a27 : G_50 128 = .inl (y 0, 520, .inl (A 27)) := by rw [eG_50, va_up_ne _ _ (by omega)]; exact a27
          have a28 : G_50 129 = .inl (y 0, 520, .inl (A 28)) := by rw [eG_50, va_up_ne _ _ (by omega)]; exact a28
          have a29 : G_50 130 = .inl (y 0, 520, .inl (A 29)) := by rw [eG_50, va_up_ne _ _ (by omega)]; exact a29
          have eM : G_50 100 = .inr (10, [.int 2, .int (F 1), .ref (ad 103), .int (F 3), .ref (ad 105), .ref (ad 106), .ref (ad 107), .ref (ad 108), .int (F 8), .ref (ad 110), .ref (ad 111), .ref (ad 112), .ref (ad 113), .int (F 13), .int (F 14), .ref (ad 116), .ref (ad 117), .ref (ad 118), .ref (ad 119), .ref (ad 120), .ref (ad 121), .int (F 21), .ref (ad 123), .ref (ad 124), .ref (ad 125), .ref (ad 126), .int (nI nr), .ref (ad 128), .ref (ad 129), .ref (ad 130), .ref (ad 131), .ref (ad 132), .int (F 32), .ref (ad 134)]) := by rw [eG_50]; exact va_up_self _ _ _
          have hMc : ModelAt y Ls ad G_50 (va_up F 0 2) A := (ModelAt_w hM (eM.trans (by rw [← h26]; rfl)) (fun k hk => Or.inl ⟨by rw [eG_50, va_up_ne _ _ (by omega), eG_20, va_up_ne _ _ (by omega)], rfl⟩))
          have hfrc : ∀ j, (j < 100 ∨ 134 < j) → G_50 j = G j := (fun j h9 => by rw [eG_50, va_up_ne _ _ (by omega), eG_20, va_up_ne _ _ (by omega)])
          refine lv_aload_n hx hb dX8_correct_53 rfl (lv_at hl 0 rfl) ?_
          refine pv_get (ci := 10) (C := RX8) (T := TX8) (N := 34) hx hb hts hinX8 hown hK hP hM.1 eM rfl 0 (by decide) (hts (.fieldLink RX8 86 "StorageChargeModel" "code" "I") (by decide +kernel)) (fun _ h9 => h9) rfl dX8_correct_54 ?_
          refine lv_if_le (tgt := 62) hx hb dX8_correct_57 (by decide) (fun c_57 => ?_) (fun c_57 => ?_)
          · exact absurd c_57 (by decide)
          · refine lv_iconst (v := 0) hx hb dX8_correct_60 (by decide) ?_
            refine W.widen (k := 0) (n := 0) (Nat.le_of_ble_eq_true rfl) (Nat.le_of_ble_eq_true rfl) ?_
            exact W.iret (v := 0) hx hb hr (fun t ht hW => ⟨⟨0, wl Ls ad G_50, rfl, Or.inr ⟨o9, m0, ho9, hm0, rfl, rfl, Or.inl ⟨c_42, _, rfl, hMc, hfrc⟩⟩, by rw [ht]; exact hP, hD⟩, hS.F ht⟩) hS.2.2 dX8_correct_61
    · refine lv_iconst (v := 1) hx hb dX8_correct_15 (by decide) ?_
      refine lv_goto (tgt := 20) hx hb dX8_correct_16 (by decide) ?_
      refine pv_put (ci := 10) (v := .int 1) (ty := .int) (C := RX8) (T := TX8) (N := 34) hx hb hts hinX8 tyX8 tyX8_ok nmX8 hown hK hP hD hS hM.1 eM rfl 0 (by decide) (hts (.fieldLink RX8 86 "StorageChargeModel" "code" "I") (by decide +kernel)) (fun _ h9 => h9) rfl (by decide +kernel) rfl rfl (Nat.le_of_ble_eq_true rfl) dX8_correct_20 (fun H locs hP hD hS => ?_)
      obtain ⟨G_20, eG_20⟩ : ∃ gg9 : Nat → va_E, gg9 = va_up G 100 (.inr (10, [.int 1, .int (F 1), .ref (ad 103), .int (F 3), .ref (ad 105), .ref (ad 106), .ref (ad 107), .ref (ad 108), .int (F 8), .ref (ad 110), .ref (ad 111), .ref (ad 112), .ref (ad 113), .int (F 13), .int (F 14), .ref (ad 116), .ref (ad 117), .ref (ad 118), .ref (ad 119), .ref (ad 120), .ref (ad 121), .int (F 21), .ref (ad 123), .ref (ad 124), .ref (ad 125), .ref (ad 126), .int (nI nr), .ref (ad 128), .ref (ad 129), .ref (ad 130), .ref (ad 131), .ref (ad 132), .int (F 32), .ref (ad 134)])) := ⟨_, rfl⟩
      have hP : va_P D vwCl (wl Ls ad G_20) H := by rw [eG_20]; exact hP
      have hD : va_D (fun q => b0 ≤ q) (wl Ls ad G_20) := by rw [eG_20]; exact hD
      have a31 : G_20 132 = .inl (y 2, 960, .inl (A 31)) := by rw [eG_20, va_up_ne _ _ (by omega)]; exact a31
      have a27 : G_20 128 = .inl (y 0, 520, .inl (A 27)) := by rw [eG_20, va_up_ne _ _ (by omega)]; exact a27
      have a28 : G_20 129 = .inl (y 0, 520, .inl (A 28)) := by rw [eG_20, va_up_ne _ _ (by omega)]; exact a28
      have a29 : G_20 130 = .inl (y 0, 520, .inl (A 29)) := by rw [eG_20, va_up_ne _ _ (by omega)]; exact a29
      have eM : G_20 100 = .inr (10, [.int 1, .int (F 1), .ref (ad 103), .int (F 3), .ref (ad 105), .ref (ad 106), .ref (ad 107), .ref (ad 108), .int (F 8), .ref (ad 110), .ref (ad 111), .ref (ad 112), .ref (ad 113), .int (F 13), .int (F 14), .ref (ad 116), .ref (ad 117), .ref (ad 118), .ref (ad 119), .ref (ad 120), .ref (ad 121), .int (F 21), .ref (ad 123), .ref (ad 124), .ref (ad 125), .ref (ad 126), .int (nI nr), .ref (ad 128), .ref (ad 129), .ref (ad 130), .ref (ad 131), .ref (ad 132), .int (F 32), .ref (ad 134)]) := by rw [eG_20]; exact va_up_self _ _ _
      refine lv_aload_n hx hb dX8_correct_23 rfl (lv_at hl 0 rfl) ?_
      refine pv_get (ci := 10) (C := RX8) (T := TX8) (N := 34) hx hb hts hinX8 hown hK hP hM.1 eM rfl 0 (by decide) (hts (.fieldLink RX8 86 "StorageChargeModel" "code" "I") (by decide +kernel)) (fun _ h9 => h9) rfl dX8_correct_24 ?_
      refine lv_if_ne (tgt := 53) hx hb dX8_correct_27 (by decide) (fun c_27 => ?_) (fun c_27 => ?_)
      · have hMc : ModelAt y Ls ad G_20 (va_up F 0 1) A := (ModelAt_w hM (eM.trans (by rw [← h26]; rfl)) (fun k hk => Or.inl ⟨by rw [eG_20, va_up_ne _ _ (by omega)], rfl⟩))
        have hfrc : ∀ j, (j < 100 ∨ 134 < j) → G_20 j = G j := (fun j h9 => by rw [eG_20, va_up_ne _ _ (by omega)])
        refine lv_aload_n hx hb dX8_correct_53 rfl (lv_at hl 0 rfl) ?_
        refine pv_get (ci := 10) (C := RX8) (T := TX8) (N := 34) hx hb hts hinX8 hown hK hP hM.1 eM rfl 0 (by decide) (hts (.fieldLink RX8 86 "StorageChargeModel" "code" "I") (by decide +kernel)) (fun _ h9 => h9) rfl dX8_correct_54 ?_
        refine lv_if_le (tgt := 62) hx hb dX8_correct_57 (by decide) (fun c_57 => ?_) (fun c_57 => ?_)
        · exact absurd c_57 (by decide)
        · refine lv_iconst (v := 0) hx hb dX8_correct_60 (by decide) ?_
          refine W.widen (k := 0) (n := 0) (Nat.le_of_ble_eq_true rfl) (Nat.le_of_ble_eq_true rfl) ?_
          exact W.iret (v := 0) hx hb hr (fun t ht hW => ⟨⟨0, wl Ls ad G_20, rfl, (by first | exact Or.inl ⟨fun h => absurd h.1 (wI_eq0.mp (by rw [← hr_2]; exact c_5)), _, rfl, hMc, hfrc⟩ | exact Or.inl ⟨fun h => absurd h.2 (wI_eq0.mp (by rw [← hr_9]; exact c_12)), _, rfl, hMc, hfrc⟩), by rw [ht]; exact hP, hD⟩, hS.F ht⟩) hS.2.2 dX8_correct_61
      · exact absurd c_27 (by decide)

theorem nI_ne1 {k : Nat} (h : k < 2 ^ 31) : ¬ nI k = -1 := fun e => by
  have h2 := congrArg Int32.toInt e
  rw [nI_toInt h] at h2
  have h3 : (-1 : Int32).toInt = -1 := by decide
  omega
theorem nI_nneg {k : Nat} (h : k < 2 ^ 31) : ¬ nI k < 0 := nI_nlt (b := 0) (Nat.zero_le _) h

set_option maxHeartbeats 4000000 in
set_option maxRecDepth 100000 in
/-- line -/
theorem c_X8_line_ (l : Launch) (hl0 : l.stackTraces = false) (D : va_G) (y : Nat → ClassId) (b0 : Nat) (Ls : List Nat) (ad : Nat → Nat) (G : Nat → va_E) (F : Nat → Int32) (A : Nat → Nat → Int32) (hM : ModelAt y Ls ad G F A) (nr : Nat) (h26 : F 26 = nI nr) (hnr : nr ≤ 520) (o i0 wh : Int32) : Met l yX8_line_ wsX8_line_ ({ frames := 2, cells := 0, slots := 0, locals := 42 }) (va_Pc [.ref (ad 100), .int o, .int i0, .int wh] (WdM D y b0 (wl Ls ad G))) (va_Qi (fun (r : Int32) (u : va_W) => (¬ inR o 7 ∧ ∃ G2, u = wl Ls ad G2 ∧ ModelAt y Ls ad G2 (va_up F 0 2) A ∧ (∀ j, (j < 100 ∨ 134 < j) → G2 j = G j)) ∨ (inR o 7 ∧ (∀ k, k < nr → A 27 k = o → nI (cnt (A 27) o k) ≠ i0) ∧ ∃ G2, u = wl Ls ad G2 ∧ ModelAt y Ls ad G2 (va_up F 0 1) A ∧ (∀ j, (j < 100 ∨ 134 < j) → G2 j = G j)) ∨ (inR o 7 ∧ (∃ k, k < nr ∧ A 27 k = o ∧ nI (cnt (A 27) o k) = i0) ∧ ¬ (0 ≤ wh ∧ wh ≤ 2) ∧ ∃ G2, u = wl Ls ad G2 ∧ ModelAt y Ls ad G2 (va_up F 0 2) A ∧ (∀ j, (j < 100 ∨ 134 < j) → G2 j = G j)) ∨ (inR o 7 ∧ (0 ≤ wh ∧ wh ≤ 2) ∧ ∃ k, k < nr ∧ A 27 k = o ∧ nI (cnt (A 27) o k) = i0 ∧ ((wh = 0 ∧ r = A 28 k) ∨ (wh = 1 ∧ r = A 29 k) ∨ (¬ wh = 0 ∧ ¬ wh = 1 ∧ ((A 30 k = 0 ∧ r = 0) ∨ (¬ A 30 k = 0 ∧ r = 1)))) ∧ ∃ G2, u = wl Ls ad G2 ∧ ModelAt y Ls ad G2 (va_up F 0 0) A ∧ (∀ j, (j < 100 ∨ 134 < j) → G2 j = G j))) (WB D b0) (fun q => b0 ≤ q)) 0 0 (fun q => b0 ≤ q) := by
  refine Met.ofW (cc := cX8_line_) (maxL := 5) (ret := (some .int)) (by decide) rfl ?_
  intro p e s m args below meth c s₁ B hml hv
  obtain ⟨rfl, ⟨hP, hK, hN⟩, hD, hb0, hT⟩ := hv
  have hx := B.exec
  have hb := B.bytes
  have hr := B.returns
  have hts := atoms_spec (ws := wsX8_line_) B.pre
  have hown : s.vm.findClass RX8 = some m.cls := findClass_of_methodNamed B.named
  have hlocks := B.notSynchronized
  have hS : va_S (fun q => b0 ≤ q) s.heap s.heap [] := va_S.rf
  have hinX8 : ∀ w ∈ wsX80, w ∈ wsX8_line_ := by decide +kernel
  have eM : G 100 = .inr (10, [.int (F 0), .int (F 1), .ref (ad 103), .int (F 3), .ref (ad 105), .ref (ad 106), .ref (ad 107), .ref (ad 108), .int (F 8), .ref (ad 110), .ref (ad 111), .ref (ad 112), .ref (ad 113), .int (F 13), .int (F 14), .ref (ad 116), .ref (ad 117), .ref (ad 118), .ref (ad 119), .ref (ad 120), .ref (ad 121), .int (F 21), .ref (ad 123), .ref (ad 124), .ref (ad 125), .ref (ad 126), .int (nI nr), .ref (ad 128), .ref (ad 129), .ref (ad 130), .ref (ad 131), .ref (ad 132), .int (F 32), .ref (ad 134)]) := hM.2.1.trans (by rw [mfs, h26])
  obtain ⟨j28, a28⟩ : 129 ∈ Ls ∧ G 129 = .inl (y 0, 520, .inl (A 28)) := hM.2.2 28 (by decide)
  obtain ⟨j29, a29⟩ : 130 ∈ Ls ∧ G 130 = .inl (y 0, 520, .inl (A 29)) := hM.2.2 29 (by decide)
  obtain ⟨j30, a30⟩ : 131 ∈ Ls ∧ G 131 = .inl (y 2, 520, .inl (A 30)) := hM.2.2 30 (by decide)
  have hl := lv_entry ([.ref (ad 100), .int o, .int i0, .int wh]) (n := 5) (Nat.le_of_ble_eq_true rfl)
  rw [lg_entry_eq]
  generalize (lg_sl ([.ref (ad 100), .int o, .int i0, .int wh]) ++ List.replicate (5 - (lg_sl ([.ref (ad 100), .int o, .int i0, .int wh])).length) Slot.unset).toArray = ls at hl ⊢
  have hl : lv_has ls 5 [(0, .ref (ad 100)), (1, .int o), (2, .int i0), (3, .int wh)] := hl
  refine lv_aload_n hx hb dX8_line__0 rfl (lv_at hl 0 rfl) ?_
  refine lv_iload_n hx hb dX8_line__1 rfl (lv_at hl 1 rfl) ?_
  refine vp_callSi (va_Run.run (va_runS (As := [.int o]) (rest := [.ref (ad 100)]) ⟨hx, hb, hml, hown, hts⟩ (c_X8_isOwner l o) (va_cwS 1 hts gX8_line__X8_isOwner rfl rfl rfl (by decide +kernel) ⟨Nat.le_of_ble_eq_true rfl, Nat.le_of_ble_eq_true rfl⟩) ⟨fun _ _ _ _ q => q, fun U hU hW => ⟨rfl, trivial⟩⟩ rfl rfl hl.1 rfl (lv_room (Nat.le_of_ble_eq_true rfl)) dX8_line__2 ⟨(Nat.le_of_ble_eq_true rfl), (Nat.le_of_ble_eq_true rfl)⟩)) (fun r_2 hr_2 => ?_)
  refine lv_if_ne (tgt := 12) hx hb dX8_line__5 (by decide) (fun c_5 => ?_) (fun c_5 => ?_)
  · refine lv_iload_n hx hb dX8_line__12 rfl (lv_at hl 2 rfl) ?_
    refine lv_if_lt (tgt := 26) hx hb dX8_line__13 (by decide) (fun c_13 => ?_) (fun c_13 => ?_)
    · have hnone : ∀ k, k < nr → A 27 k = o → nI (cnt (A 27) o k) ≠ i0 := fun k hk h2 h3 => by
        rw [← h3] at c_13
        have := cnt_le (A 27) o k
        exact nI_nneg (by omega) c_13
      refine lv_iconst (v := 1) hx hb dX8_line__26 (by decide) ?_
      refine lv_goto (tgt := 44) hx hb dX8_line__27 (by decide) ?_
      refine pv_put (ci := 10) (v := .int 1) (ty := .int) (C := RX8) (T := TX8) (N := 34) hx hb hts hinX8 tyX8 tyX8_ok nmX8 hown hK hP hD hS hM.1 eM rfl 0 (by decide) (hts (.fieldLink RX8 86 "StorageChargeModel" "code" "I") (by decide +kernel)) (fun _ h9 => h9) rfl (by decide +kernel) rfl rfl (Nat.le_of_ble_eq_true rfl) dX8_line__44 (fun H locs hP hD hS => ?_)
      obtain ⟨G_44, eG_44⟩ : ∃ gg9 : Nat → va_E, gg9 = va_up G 100 (.inr (10, [.int 1, .int (F 1), .ref (ad 103), .int (F 3), .ref (ad 105), .ref (ad 106), .ref (ad 107), .ref (ad 108), .int (F 8), .ref (ad 110), .ref (ad 111), .ref (ad 112), .ref (ad 113), .int (F 13), .int (F 14), .ref (ad 116), .ref (ad 117), .ref (ad 118), .ref (ad 119), .ref (ad 120), .ref (ad 121), .int (F 21), .ref (ad 123), .ref (ad 124), .ref (ad 125), .ref (ad 126), .int (nI nr), .ref (ad 128), .ref (ad 129), .ref (ad 130), .ref (ad 131), .ref (ad 132), .int (F 32), .ref (ad 134)])) := ⟨_, rfl⟩
      have hP : va_P D vwCl (wl Ls ad G_44) H := by rw [eG_44]; exact hP
      have hD : va_D (fun q => b0 ≤ q) (wl Ls ad G_44) := by rw [eG_44]; exact hD
      have a28 : G_44 129 = .inl (y 0, 520, .inl (A 28)) := by rw [eG_44, va_up_ne _ _ (by omega)]; exact a28
      have a29 : G_44 130 = .inl (y 0, 520, .inl (A 29)) := by rw [eG_44, va_up_ne _ _ (by omega)]; exact a29
      have a30 : G_44 131 = .inl (y 2, 520, .inl (A 30)) := by rw [eG_44, va_up_ne _ _ (by omega)]; exact a30
      have eM : G_44 100 = .inr (10, [.int 1, .int (F 1), .ref (ad 103), .int (F 3), .ref (ad 105), .ref (ad 106), .ref (ad 107), .ref (ad 108), .int (F 8), .ref (ad 110), .ref (ad 111), .ref (ad 112), .ref (ad 113), .int (F 13), .int (F 14), .ref (ad 116), .ref (ad 117), .ref (ad 118), .ref (ad 119), .ref (ad 120), .ref (ad 121), .int (F 21), .ref (ad 123), .ref (ad 124), .ref (ad 125), .ref (ad 126), .int (nI nr), .ref (ad 128), .ref (ad 129), .ref (ad 130), .ref (ad 131), .ref (ad 132), .int (F 32), .ref (ad 134)]) := by rw [eG_44]; exact va_up_self _ _ _
      have hMc : ModelAt y Ls ad G_44 (va_up F 0 1) A := (ModelAt_w hM (eM.trans (by rw [← h26]; rfl)) (fun k hk => Or.inl ⟨by rw [eG_44, va_up_ne _ _ (by omega)], rfl⟩))
      have hfrc : ∀ j, (j < 100 ∨ 134 < j) → G_44 j = G j := (fun j h9 => by rw [eG_44, va_up_ne _ _ (by omega)])
      refine lv_aload_n hx hb dX8_line__47 rfl (lv_at hl 0 rfl) ?_
      refine pv_get (ci := 10) (C := RX8) (T := TX8) (N := 34) hx hb hts hinX8 hown hK hP hM.1 eM rfl 0 (by decide) (hts (.fieldLink RX8 86 "StorageChargeModel" "code" "I") (by decide +kernel)) (fun _ h9 => h9) rfl dX8_line__48 ?_
      refine lv_if_le (tgt := 56) hx hb dX8_line__51 (by decide) (fun c_51 => ?_) (fun c_51 => ?_)
      · exact absurd c_51 (by decide)
      · refine lv_iconst (v := 0) hx hb dX8_line__54 (by decide) ?_
        refine W.widen (k := 0) (n := 0) (Nat.le_of_ble_eq_true rfl) (Nat.le_of_ble_eq_true rfl) ?_
        exact W.iret (v := 0) hx hb hr (fun t ht hW => ⟨⟨0, wl Ls ad G_44, rfl, Or.inr (Or.inl ⟨(Decidable.byContradiction fun h => c_5 (by rw [hr_2]; exact wI_eq0.mpr h)), hnone, _, rfl, hMc, hfrc⟩), by rw [ht]; exact hP, hD⟩, hS.F ht⟩) hS.2.2 dX8_line__55
    · refine lv_aload_n hx hb dX8_line__16 rfl (lv_at hl 0 rfl) ?_
      refine lv_iload_n hx hb dX8_line__17 rfl (lv_at hl 1 rfl) ?_
      refine lv_iload_n hx hb dX8_line__18 rfl (lv_at hl 2 rfl) ?_
      refine vp_callSi (va_Run.run (va_runV (As := [.int o, .int i0]) (rest := [.ref (ad 100)]) ⟨hx, hb, hml, hown, hts⟩ (c_X8_rowOf l D y Ls ad G F A hM nr h26 (by omega) o i0) (cwV 2 hts gX8_line__X8_rowOf rfl rfl rfl (by decide +kernel) ⟨Nat.le_of_ble_eq_true rfl, Nat.le_of_ble_eq_true rfl⟩) ⟨Wd_blind, Wd_recv hK hP (ci := 10) rfl hM.1 eM, Wd_at hP hK hN⟩ rfl rfl hl.1 rfl (lv_room (Nat.le_of_ble_eq_true rfl)) dX8_line__19 ⟨(Nat.le_of_ble_eq_true rfl), (Nat.le_of_ble_eq_true rfl)⟩)) (fun r_19 hr_19 => ?_)
      refine lv_iconst (v := (-1)) hx hb dX8_line__22 (by decide) ?_
      refine lv_icmp_ne (tgt := 30) hx hb dX8_line__23 (by decide) (fun c_23 => ?_) (fun c_23 => ?_)
      · have hfound : ∃ k, k < nr ∧ A 27 k = o ∧ nI (cnt (A 27) o k) = i0 := hr_19.elim (fun ⟨k, hk, _, h2, h3⟩ => ⟨k, hk, h2, h3⟩) (fun h => absurd h.1 c_23)
        refine lv_iload_n hx hb dX8_line__30 rfl (lv_at hl 3 rfl) ?_
        refine lv_iconst (v := 0) hx hb dX8_line__31 (by decide) ?_
        refine lv_iconst (v := 2) hx hb dX8_line__32 (by decide) ?_
        refine vp_callSi (va_Run.run (va_runS (As := [.int wh, .int 0, .int 2]) (rest := [.ref (ad 100)]) ⟨hx, hb, hml, hown, hts⟩ (c_X8_in l wh 0 2) (va_cwS 3 hts gX8_line__X8_in rfl rfl rfl (by decide +kernel) ⟨Nat.le_of_ble_eq_true rfl, Nat.le_of_ble_eq_true rfl⟩) ⟨fun _ _ _ _ q => q, fun U hU hW => ⟨rfl, trivial⟩⟩ rfl rfl hl.1 rfl (lv_room (Nat.le_of_ble_eq_true rfl)) dX8_line__33 ⟨(Nat.le_of_ble_eq_true rfl), (Nat.le_of_ble_eq_true rfl)⟩)) (fun r_33 hr_33 => ?_)
        refine lv_if_ne (tgt := 43) hx hb dX8_line__36 (by decide) (fun c_36 => ?_) (fun c_36 => ?_)
        · refine lv_iconst (v := 0) hx hb dX8_line__43 (by decide) ?_
          refine pv_put (ci := 10) (v := .int 0) (ty := .int) (C := RX8) (T := TX8) (N := 34) hx hb hts hinX8 tyX8 tyX8_ok nmX8 hown hK hP hD hS hM.1 eM rfl 0 (by decide) (hts (.fieldLink RX8 86 "StorageChargeModel" "code" "I") (by decide +kernel)) (fun _ h9 => h9) rfl (by decide +kernel) rfl rfl (Nat.le_of_ble_eq_true rfl) dX8_line__44 (fun H locs hP hD hS => ?_)
          obtain ⟨G_44, eG_44⟩ : ∃ gg9 : Nat → va_E, gg9 = va_up G 100 (.inr (10, [.int 0, .int (F 1), .ref (ad 103), .int (F 3), .ref (ad 105), .ref (ad 106), .ref (ad 107), .ref (ad 108), .int (F 8), .ref (ad 110), .ref (ad 111), .ref (ad 112), .ref (ad 113), .int (F 13), .int (F 14), .ref (ad 116), .ref (ad 117), .ref (ad 118), .ref (ad 119), .ref (ad 120), .ref (ad 121), .int (F 21), .ref (ad 123), .ref (ad 124), .ref (ad 125), .ref (ad 126), .int (nI nr), .ref (ad 128), .ref (ad 129), .ref (ad 130), .ref (ad 131), .ref (ad 132), .int (F 32), .ref (ad 134)])) := ⟨_, rfl⟩
          have hP : va_P D vwCl (wl Ls ad G_44) H := by rw [eG_44]; exact hP
          have hD : va_D (fun q => b0 ≤ q) (wl Ls ad G_44) := by rw [eG_44]; exact hD
          have a28 : G_44 129 = .inl (y 0, 520, .inl (A 28)) := by rw [eG_44, va_up_ne _ _ (by omega)]; exact a28
          have a29 : G_44 130 = .inl (y 0, 520, .inl (A 29)) := by rw [eG_44, va_up_ne _ _ (by omega)]; exact a29
          have a30 : G_44 131 = .inl (y 2, 520, .inl (A 30)) := by rw [eG_44, va_up_ne _ _ (by omega)]; exact a30
          have eM : G_44 100 = .inr (10, [.int 0, .int (F 1), .ref (ad 103), .int (F 3), .ref (ad 105), .ref (ad 106), .ref (ad 107), .ref (ad 108), .int (F 8), .ref (ad 110), .ref (ad 111), .ref (ad 112), .ref (ad 113), .int (F 13), .int (F 14), .ref (ad 116), .ref (ad 117), .ref (ad 118), .ref (ad 119), .ref (ad 120), .ref (ad 121), .int (F 21), .ref (ad 123), .ref (ad 124), .ref (ad 125), .ref (ad 126), .int (nI nr), .ref (ad 128), .ref (ad 129), .ref (ad 130), .ref (ad 131), .ref (ad 132), .int (F 32), .ref (ad 134)]) := by rw [eG_44]; exact va_up_self _ _ _
          have hMc : ModelAt y Ls ad G_44 (va_up F 0 0) A := (ModelAt_w hM (eM.trans (by rw [← h26]; rfl)) (fun k hk => Or.inl ⟨by rw [eG_44, va_up_ne _ _ (by omega)], rfl⟩))
          have hfrc : ∀ j, (j < 100 ∨ 134 < j) → G_44 j = G j := (fun j h9 => by rw [eG_44, va_up_ne _ _ (by omega)])
          refine lv_aload_n hx hb dX8_line__47 rfl (lv_at hl 0 rfl) ?_
          refine pv_get (ci := 10) (C := RX8) (T := TX8) (N := 34) hx hb hts hinX8 hown hK hP hM.1 eM rfl 0 (by decide) (hts (.fieldLink RX8 86 "StorageChargeModel" "code" "I") (by decide +kernel)) (fun _ h9 => h9) rfl dX8_line__48 ?_
          refine lv_if_le (tgt := 56) hx hb dX8_line__51 (by decide) (fun c_51 => ?_) (fun c_51 => ?_)
          · refine lv_aload_n hx hb dX8_line__56 rfl (lv_at hl 0 rfl) ?_
            refine lv_iload_n hx hb dX8_line__57 rfl (lv_at hl 1 rfl) ?_
            refine lv_iload_n hx hb dX8_line__58 rfl (lv_at hl 2 rfl) ?_
            refine vp_callSi (va_Run.run (va_runV (As := [.int o, .int i0]) (rest := []) ⟨hx, hb, hml, hown, hts⟩ (c_X8_rowOf l D y Ls ad G_44 (va_up F 0 0) A hMc nr ((va_up_ne _ _ (by decide)).trans h26) (by omega) o i0) (cwV 2 hts gX8_line__X8_rowOf rfl rfl rfl (by decide +kernel) ⟨Nat.le_of_ble_eq_true rfl, Nat.le_of_ble_eq_true rfl⟩) ⟨Wd_blind, Wd_recv hK hP (ci := 10) rfl hM.1 eM, Wd_at hP hK hN⟩ rfl rfl hl.1 rfl (lv_room (Nat.le_of_ble_eq_true rfl)) dX8_line__59 ⟨(Nat.le_of_ble_eq_true rfl), (Nat.le_of_ble_eq_true rfl)⟩)) (fun r_59 hr_59 => ?_)
            obtain ⟨k9, hk9, hkr9, hko9, hki9⟩ : ∃ k, k < nr ∧ r_59 = nI k ∧ A 27 k = o ∧ nI (cnt (A 27) o k) = i0 := hr_59.elim (fun h => h) (fun h => by
              obtain ⟨k, hk, h2, h3⟩ := hfound
              exact absurd h3 (h.2 k hk h2))
            refine lv_istore (lv' := [(4, .int r_59), (0, .ref (ad 100)), (1, .int o), (2, .int i0), (3, .int wh)]) hx hb dX8_line__62 hl (by decide) rfl (fun ls hl => ?_)
            refine lv_iload_n hx hb dX8_line__64 rfl (lv_at hl 4 rfl) ?_
            refine lv_if_ne (tgt := 78) hx hb dX8_line__65 (by decide) (fun c_65 => ?_) (fun c_65 => ?_)
            · refine lv_iload_n hx hb dX8_line__78 rfl (lv_at hl 4 rfl) ?_
              refine lv_iconst (v := 1) hx hb dX8_line__79 (by decide) ?_
              refine lv_icmp_ne (tgt := 93) hx hb dX8_line__80 (by decide) (fun c_80 => ?_) (fun c_80 => ?_)
              · refine lv_aload_n hx hb dX8_line__93 rfl (lv_at hl 1 rfl) ?_
                refine pv_get (ci := 10) (C := RX8) (T := TX8) (N := 34) hx hb hts hinX8 hown hK hP hM.1 eM rfl 30 (by decide) (hts (.fieldLink RX8 76 "StorageChargeModel" "rowCorrects" "[Z") (by decide +kernel)) (fun _ h9 => h9) rfl dX8_line__94 ?_
                refine lv_iload hx hb dX8_line__97 (lv_at hl 0 rfl) ?_
                refine pv_zald hx hb hK hP j30 2 a30 rfl (k := k9) hkr9 (by omega) (by decide) dX8_line__99 ?_
                refine lv_if_eq (tgt := 107) hx hb dX8_line__100 (by decide) (fun c_100 => ?_) (fun c_100 => ?_)
                · refine lv_iconst (v := 0) hx hb dX8_line__107 (by decide) ?_
                  refine W.widen (k := 0) (n := 0) (Nat.le_of_ble_eq_true rfl) (Nat.le_of_ble_eq_true rfl) ?_
                  exact W.iret (v := 0) hx hb hr (fun t ht hW => ⟨⟨0, wl Ls ad G_44, rfl, Or.inr (Or.inr (Or.inr ⟨(Decidable.byContradiction fun h => c_5 (by rw [hr_2]; exact wI_eq0.mpr h)), (Decidable.byContradiction fun h => c_36 (by rw [hr_33]; exact wI_eq0.mpr h)), k9, hk9, hko9, hki9, (by first | exact Or.inl ⟨c_65, rfl⟩ | exact Or.inr (Or.inl ⟨c_80, rfl⟩) | exact Or.inr (Or.inr ⟨c_65, c_80, Or.inl ⟨c_100, rfl⟩⟩) | exact Or.inr (Or.inr ⟨c_65, c_80, Or.inr ⟨c_100, rfl⟩⟩)), _, rfl, hMc, hfrc⟩)), by rw [ht]; exact hP, hD⟩, hS.F ht⟩) hS.2.2 dX8_line__108
                · refine lv_iconst (v := 1) hx hb dX8_line__103 (by decide) ?_
                  refine lv_goto (tgt := 108) hx hb dX8_line__104 (by decide) ?_
                  refine W.widen (k := 0) (n := 0) (Nat.le_of_ble_eq_true rfl) (Nat.le_of_ble_eq_true rfl) ?_
                  exact W.iret (v := 1) hx hb hr (fun t ht hW => ⟨⟨1, wl Ls ad G_44, rfl, Or.inr (Or.inr (Or.inr ⟨(Decidable.byContradiction fun h => c_5 (by rw [hr_2]; exact wI_eq0.mpr h)), (Decidable.byContradiction fun h => c_36 (by rw [hr_33]; exact wI_eq0.mpr h)), k9, hk9, hko9, hki9, (by first | exact Or.inl ⟨c_65, rfl⟩ | exact Or.inr (Or.inl ⟨c_80, rfl⟩) | exact Or.inr (Or.inr ⟨c_65, c_80, Or.inl ⟨c_100, rfl⟩⟩) | exact Or.inr (Or.inr ⟨c_65, c_80, Or.inr ⟨c_100, rfl⟩⟩)), _, rfl, hMc, hfrc⟩)), by rw [ht]; exact hP, hD⟩, hS.F ht⟩) hS.2.2 dX8_line__108
              · refine lv_aload_n hx hb dX8_line__83 rfl (lv_at hl 1 rfl) ?_
                refine pv_get (ci := 10) (C := RX8) (T := TX8) (N := 34) hx hb hts hinX8 hown hK hP hM.1 eM rfl 29 (by decide) (hts (.fieldLink RX8 73 "StorageChargeModel" "rowCents" "[I") (by decide +kernel)) (fun _ h9 => h9) rfl dX8_line__84 ?_
                refine lv_iload hx hb dX8_line__87 (lv_at hl 0 rfl) ?_
                refine pv_iald hx hb hK hP j29 0 a29 rfl (k := k9) hkr9 (by omega) (by decide) dX8_line__89 ?_
                refine lv_goto (tgt := 108) hx hb dX8_line__90 (by decide) ?_
                refine W.widen (k := 0) (n := 0) (Nat.le_of_ble_eq_true rfl) (Nat.le_of_ble_eq_true rfl) ?_
                exact W.iret (v := (A 29) k9) hx hb hr (fun t ht hW => ⟨⟨(A 29) k9, wl Ls ad G_44, rfl, Or.inr (Or.inr (Or.inr ⟨(Decidable.byContradiction fun h => c_5 (by rw [hr_2]; exact wI_eq0.mpr h)), (Decidable.byContradiction fun h => c_36 (by rw [hr_33]; exact wI_eq0.mpr h)), k9, hk9, hko9, hki9, (by first | exact Or.inl ⟨c_65, rfl⟩ | exact Or.inr (Or.inl ⟨c_80, rfl⟩) | exact Or.inr (Or.inr ⟨c_65, c_80, Or.inl ⟨c_100, rfl⟩⟩) | exact Or.inr (Or.inr ⟨c_65, c_80, Or.inr ⟨c_100, rfl⟩⟩)), _, rfl, hMc, hfrc⟩)), by rw [ht]; exact hP, hD⟩, hS.F ht⟩) hS.2.2 dX8_line__108
            · refine lv_aload_n hx hb dX8_line__68 rfl (lv_at hl 1 rfl) ?_
              refine pv_get (ci := 10) (C := RX8) (T := TX8) (N := 34) hx hb hts hinX8 hown hK hP hM.1 eM rfl 28 (by decide) (hts (.fieldLink RX8 70 "StorageChargeModel" "rowMonth" "[I") (by decide +kernel)) (fun _ h9 => h9) rfl dX8_line__69 ?_
              refine lv_iload hx hb dX8_line__72 (lv_at hl 0 rfl) ?_
              refine pv_iald hx hb hK hP j28 0 a28 rfl (k := k9) hkr9 (by omega) (by decide) dX8_line__74 ?_
              refine lv_goto (tgt := 108) hx hb dX8_line__75 (by decide) ?_
              refine W.widen (k := 0) (n := 0) (Nat.le_of_ble_eq_true rfl) (Nat.le_of_ble_eq_true rfl) ?_
              exact W.iret (v := (A 28) k9) hx hb hr (fun t ht hW => ⟨⟨(A 28) k9, wl Ls ad G_44, rfl, Or.inr (Or.inr (Or.inr ⟨(Decidable.byContradiction fun h => c_5 (by rw [hr_2]; exact wI_eq0.mpr h)), (Decidable.byContradiction fun h => c_36 (by rw [hr_33]; exact wI_eq0.mpr h)), k9, hk9, hko9, hki9, (by first | exact Or.inl ⟨c_65, rfl⟩ | exact Or.inr (Or.inl ⟨c_80, rfl⟩) | exact Or.inr (Or.inr ⟨c_65, c_80, Or.inl ⟨c_100, rfl⟩⟩) | exact Or.inr (Or.inr ⟨c_65, c_80, Or.inr ⟨c_100, rfl⟩⟩)), _, rfl, hMc, hfrc⟩)), by rw [ht]; exact hP, hD⟩, hS.F ht⟩) hS.2.2 dX8_line__108
          · exact absurd (by decide) c_51
        · refine lv_iconst (v := 2) hx hb dX8_line__39 (by decide) ?_
          refine lv_goto (tgt := 44) hx hb dX8_line__40 (by decide) ?_
          refine pv_put (ci := 10) (v := .int 2) (ty := .int) (C := RX8) (T := TX8) (N := 34) hx hb hts hinX8 tyX8 tyX8_ok nmX8 hown hK hP hD hS hM.1 eM rfl 0 (by decide) (hts (.fieldLink RX8 86 "StorageChargeModel" "code" "I") (by decide +kernel)) (fun _ h9 => h9) rfl (by decide +kernel) rfl rfl (Nat.le_of_ble_eq_true rfl) dX8_line__44 (fun H locs hP hD hS => ?_)
          obtain ⟨G_44, eG_44⟩ : ∃ gg9 : Nat → va_E, gg9 = va_up G 100 (.inr (10, [.int 2, .int (F 1), .ref (ad 103), .int (F 3), .ref (ad 105), .ref (ad 106), .ref (ad 107), .ref (ad 108), .int (F 8), .ref (ad 110), .ref (ad 111), .ref (ad 112), .ref (ad 113), .int (F 13), .int (F 14), .ref (ad 116), .ref (ad 117), .ref (ad 118), .ref (ad 119), .ref (ad 120), .ref (ad 121), .int (F 21), .ref (ad 123), .ref (ad 124), .ref (ad 125), .ref (ad 126), .int (nI nr), .ref (ad 128), .ref (ad 129), .ref (ad 130), .ref (ad 131), .ref (ad 132), .int (F 32), .ref (ad 134)])) := ⟨_, rfl⟩
          have hP : va_P D vwCl (wl Ls ad G_44) H := by rw [eG_44]; exact hP
          have hD : va_D (fun q => b0 ≤ q) (wl Ls ad G_44) := by rw [eG_44]; exact hD
          have a28 : G_44 129 = .inl (y 0, 520, .inl (A 28)) := by rw [eG_44, va_up_ne _ _ (by omega)]; exact a28
          have a29 : G_44 130 = .inl (y 0, 520, .inl (A 29)) := by rw [eG_44, va_up_ne _ _ (by omega)]; exact a29
          have a30 : G_44 131 = .inl (y 2, 520, .inl (A 30)) := by rw [eG_44, va_up_ne _ _ (by omega)]; exact a30
          have eM : G_44 100 = .inr (10, [.int 2, .int (F 1), .ref (ad 103), .int (F 3), .ref (ad 105), .ref (ad 106), .ref (ad 107), .ref (ad 108), .int (F 8), .ref (ad 110), .ref (ad 111), .ref (ad 112), .ref (ad 113), .int (F 13), .int (F 14), .ref (ad 116), .ref (ad 117), .ref (ad 118), .ref (ad 119), .ref (ad 120), .ref (ad 121), .int (F 21), .ref (ad 123), .ref (ad 124), .ref (ad 125), .ref (ad 126), .int (nI nr), .ref (ad 128), .ref (ad 129), .ref (ad 130), .ref (ad 131), .ref (ad 132), .int (F 32), .ref (ad 134)]) := by rw [eG_44]; exact va_up_self _ _ _
          have hMc : ModelAt y Ls ad G_44 (va_up F 0 2) A := (ModelAt_w hM (eM.trans (by rw [← h26]; rfl)) (fun k hk => Or.inl ⟨by rw [eG_44, va_up_ne _ _ (by omega)], rfl⟩))
          have hfrc : ∀ j, (j < 100 ∨ 134 < j) → G_44 j = G j := (fun j h9 => by rw [eG_44, va_up_ne _ _ (by omega)])
          refine lv_aload_n hx hb dX8_line__47 rfl (lv_at hl 0 rfl) ?_
          refine pv_get (ci := 10) (C := RX8) (T := TX8) (N := 34) hx hb hts hinX8 hown hK hP hM.1 eM rfl 0 (by decide) (hts (.fieldLink RX8 86 "StorageChargeModel" "code" "I") (by decide +kernel)) (fun _ h9 => h9) rfl dX8_line__48 ?_
          refine lv_if_le (tgt := 56) hx hb dX8_line__51 (by decide) (fun c_51 => ?_) (fun c_51 => ?_)
          · exact absurd c_51 (by decide)
          · refine lv_iconst (v := 0) hx hb dX8_line__54 (by decide) ?_
            refine W.widen (k := 0) (n := 0) (Nat.le_of_ble_eq_true rfl) (Nat.le_of_ble_eq_true rfl) ?_
            exact W.iret (v := 0) hx hb hr (fun t ht hW => ⟨⟨0, wl Ls ad G_44, rfl, (by first | exact Or.inl ⟨(wI_eq0.mp (by rw [← hr_2]; exact c_5)), _, rfl, hMc, hfrc⟩ | exact Or.inr (Or.inr (Or.inl ⟨(Decidable.byContradiction fun h => c_5 (by rw [hr_2]; exact wI_eq0.mpr h)), hfound, (wI_eq0.mp (by rw [← hr_33]; exact c_36)), _, rfl, hMc, hfrc⟩))), by rw [ht]; exact hP, hD⟩, hS.F ht⟩) hS.2.2 dX8_line__55
      · have hnone : ∀ k, k < nr → A 27 k = o → nI (cnt (A 27) o k) ≠ i0 := hr_19.elim (fun ⟨k, hk, h1, _⟩ => absurd (h1.symm.trans c_23) (nI_ne1 (by omega))) (fun h => h.2)
        refine lv_iconst (v := 1) hx hb dX8_line__26 (by decide) ?_
        refine lv_goto (tgt := 44) hx hb dX8_line__27 (by decide) ?_
        refine pv_put (ci := 10) (v := .int 1) (ty := .int) (C := RX8) (T := TX8) (N := 34) hx hb hts hinX8 tyX8 tyX8_ok nmX8 hown hK hP hD hS hM.1 eM rfl 0 (by decide) (hts (.fieldLink RX8 86 "StorageChargeModel" "code" "I") (by decide +kernel)) (fun _ h9 => h9) rfl (by decide +kernel) rfl rfl (Nat.le_of_ble_eq_true rfl) dX8_line__44 (fun H locs hP hD hS => ?_)
        obtain ⟨G_44, eG_44⟩ : ∃ gg9 : Nat → va_E, gg9 = va_up G 100 (.inr (10, [.int 1, .int (F 1), .ref (ad 103), .int (F 3), .ref (ad 105), .ref (ad 106), .ref (ad 107), .ref (ad 108), .int (F 8), .ref (ad 110), .ref (ad 111), .ref (ad 112), .ref (ad 113), .int (F 13), .int (F 14), .ref (ad 116), .ref (ad 117), .ref (ad 118), .ref (ad 119), .ref (ad 120), .ref (ad 121), .int (F 21), .ref (ad 123), .ref (ad 124), .ref (ad 125), .ref (ad 126), .int (nI nr), .ref (ad 128), .ref (ad 129), .ref (ad 130), .ref (ad 131), .ref (ad 132), .int (F 32), .ref (ad 134)])) := ⟨_, rfl⟩
        have hP : va_P D vwCl (wl Ls ad G_44) H := by rw [eG_44]; exact hP
        have hD : va_D (fun q => b0 ≤ q) (wl Ls ad G_44) := by rw [eG_44]; exact hD
        have a28 : G_44 129 = .inl (y 0, 520, .inl (A 28)) := by rw [eG_44, va_up_ne _ _ (by omega)]; exact a28
        have a29 : G_44 130 = .inl (y 0, 520, .inl (A 29)) := by rw [eG_44, va_up_ne _ _ (by omega)]; exact a29
        have a30 : G_44 131 = .inl (y 2, 520, .inl (A 30)) := by rw [eG_44, va_up_ne _ _ (by omega)]; exact a30
        have eM : G_44 100 = .inr (10, [.int 1, .int (F 1), .ref (ad 103), .int (F 3), .ref (ad 105), .ref (ad 106), .ref (ad 107), .ref (ad 108), .int (F 8), .ref (ad 110), .ref (ad 111), .ref (ad 112), .ref (ad 113), .int (F 13), .int (F 14), .ref (ad 116), .ref (ad 117), .ref (ad 118), .ref (ad 119), .ref (ad 120), .ref (ad 121), .int (F 21), .ref (ad 123), .ref (ad 124), .ref (ad 125), .ref (ad 126), .int (nI nr), .ref (ad 128), .ref (ad 129), .ref (ad 130), .ref (ad 131), .ref (ad 132), .int (F 32), .ref (ad 134)]) := by rw [eG_44]; exact va_up_self _ _ _
        have hMc : ModelAt y Ls ad G_44 (va_up F 0 1) A := (ModelAt_w hM (eM.trans (by rw [← h26]; rfl)) (fun k hk => Or.inl ⟨by rw [eG_44, va_up_ne _ _ (by omega)], rfl⟩))
        have hfrc : ∀ j, (j < 100 ∨ 134 < j) → G_44 j = G j := (fun j h9 => by rw [eG_44, va_up_ne _ _ (by omega)])
        refine lv_aload_n hx hb dX8_line__47 rfl (lv_at hl 0 rfl) ?_
        refine pv_get (ci := 10) (C := RX8) (T := TX8) (N := 34) hx hb hts hinX8 hown hK hP hM.1 eM rfl 0 (by decide) (hts (.fieldLink RX8 86 "StorageChargeModel" "code" "I") (by decide +kernel)) (fun _ h9 => h9) rfl dX8_line__48 ?_
        refine lv_if_le (tgt := 56) hx hb dX8_line__51 (by decide) (fun c_51 => ?_) (fun c_51 => ?_)
        · exact absurd c_51 (by decide)
        · refine lv_iconst (v := 0) hx hb dX8_line__54 (by decide) ?_
          refine W.widen (k := 0) (n := 0) (Nat.le_of_ble_eq_true rfl) (Nat.le_of_ble_eq_true rfl) ?_
          exact W.iret (v := 0) hx hb hr (fun t ht hW => ⟨⟨0, wl Ls ad G_44, rfl, Or.inr (Or.inl ⟨(Decidable.byContradiction fun h => c_5 (by rw [hr_2]; exact wI_eq0.mpr h)), hnone, _, rfl, hMc, hfrc⟩), by rw [ht]; exact hP, hD⟩, hS.F ht⟩) hS.2.2 dX8_line__55
  · refine lv_iconst (v := 2) hx hb dX8_line__8 (by decide) ?_
    refine lv_goto (tgt := 44) hx hb dX8_line__9 (by decide) ?_
    refine pv_put (ci := 10) (v := .int 2) (ty := .int) (C := RX8) (T := TX8) (N := 34) hx hb hts hinX8 tyX8 tyX8_ok nmX8 hown hK hP hD hS hM.1 eM rfl 0 (by decide) (hts (.fieldLink RX8 86 "StorageChargeModel" "code" "I") (by decide +kernel)) (fun _ h9 => h9) rfl (by decide +kernel) rfl rfl (Nat.le_of_ble_eq_true rfl) dX8_line__44 (fun H locs hP hD hS => ?_)
    obtain ⟨G_44, eG_44⟩ : ∃ gg9 : Nat → va_E, gg9 = va_up G 100 (.inr (10, [.int 2, .int (F 1), .ref (ad 103), .int (F 3), .ref (ad 105), .ref (ad 106), .ref (ad 107), .ref (ad 108), .int (F 8), .ref (ad 110), .ref (ad 111), .ref (ad 112), .ref (ad 113), .int (F 13), .int (F 14), .ref (ad 116), .ref (ad 117), .ref (ad 118), .ref (ad 119), .ref (ad 120), .ref (ad 121), .int (F 21), .ref (ad 123), .ref (ad 124), .ref (ad 125), .ref (ad 126), .int (nI nr), .ref (ad 128), .ref (ad 129), .ref (ad 130), .ref (ad 131), .ref (ad 132), .int (F 32), .ref (ad 134)])) := ⟨_, rfl⟩
    have hP : va_P D vwCl (wl Ls ad G_44) H := by rw [eG_44]; exact hP
    have hD : va_D (fun q => b0 ≤ q) (wl Ls ad G_44) := by rw [eG_44]; exact hD
    have a28 : G_44 129 = .inl (y 0, 520, .inl (A 28)) := by rw [eG_44, va_up_ne _ _ (by omega)]; exact a28
    have a29 : G_44 130 = .inl (y 0, 520, .inl (A 29)) := by rw [eG_44, va_up_ne _ _ (by omega)]; exact a29
    have a30 : G_44 131 = .inl (y 2, 520, .inl (A 30)) := by rw [eG_44, va_up_ne _ _ (by omega)]; exact a30
    have eM : G_44 100 = .inr (10, [.int 2, .int (F 1), .ref (ad 103), .int (F 3), .ref (ad 105), .ref (ad 106), .ref (ad 107), .ref (ad 108), .int (F 8), .ref (ad 110), .ref (ad 111), .ref (ad 112), .ref (ad 113), .int (F 13), .int (F 14), .ref (ad 116), .ref (ad 117), .ref (ad 118), .ref (ad 119), .ref (ad 120), .ref (ad 121), .int (F 21), .ref (ad 123), .ref (ad 124), .ref (ad 125), .ref (ad 126), .int (nI nr), .ref (ad 128), .ref (ad 129), .ref (ad 130), .ref (ad 131), .ref (ad 132), .int (F 32), .ref (ad 134)]) := by rw [eG_44]; exact va_up_self _ _ _
    have hMc : ModelAt y Ls ad G_44 (va_up F 0 2) A := (ModelAt_w hM (eM.trans (by rw [← h26]; rfl)) (fun k hk => Or.inl ⟨by rw [eG_44, va_up_ne _ _ (by omega)], rfl⟩))
    have hfrc : ∀ j, (j < 100 ∨ 134 < j) → G_44 j = G j := (fun j h9 => by rw [eG_44, va_up_ne _ _ (by omega)])
    refine lv_aload_n hx hb dX8_line__47 rfl (lv_at hl 0 rfl) ?_
    refine pv_get (ci := 10) (C := RX8) (T := TX8) (N := 34) hx hb hts hinX8 hown hK hP hM.1 eM rfl 0 (by decide) (hts (.fieldLink RX8 86 "StorageChargeModel" "code" "I") (by decide +kernel)) (fun _ h9 => h9) rfl dX8_line__48 ?_
    refine lv_if_le (tgt := 56) hx hb dX8_line__51 (by decide) (fun c_51 => ?_) (fun c_51 => ?_)
    · exact absurd c_51 (by decide)
    · refine lv_iconst (v := 0) hx hb dX8_line__54 (by decide) ?_
      refine W.widen (k := 0) (n := 0) (Nat.le_of_ble_eq_true rfl) (Nat.le_of_ble_eq_true rfl) ?_
      exact W.iret (v := 0) hx hb hr (fun t ht hW => ⟨⟨0, wl Ls ad G_44, rfl, (by first | exact Or.inl ⟨(wI_eq0.mp (by rw [← hr_2]; exact c_5)), _, rfl, hMc, hfrc⟩ | exact Or.inr (Or.inr (Or.inl ⟨(Decidable.byContradiction fun h => c_5 (by rw [hr_2]; exact wI_eq0.mpr h)), hfound, (wI_eq0.mp (by rw [← hr_33]; exact c_36)), _, rfl, hMc, hfrc⟩))), by rw [ht]; exact hP, hD⟩, hS.F ht⟩) hS.2.2 dX8_line__55

set_option maxHeartbeats 4000000 in
set_option maxRecDepth 100000 in
/-- billed -/
theorem c_X8_billed (l : Launch) (hl0 : l.stackTraces = false) (D : va_G) (y : Nat → ClassId) (b0 : Nat) (Ls : List Nat) (ad : Nat → Nat) (G : Nat → va_E) (F : Nat → Int32) (A : Nat → Nat → Int32) (hM : ModelAt y Ls ad G F A) (nr : Nat) (h26 : F 26 = nI nr) (hnr : nr ≤ 520) (o : Int32) : Met l yX8_billed wsX8_billed ({ frames := 2, cells := 0, slots := 0, locals := 42 }) (va_Pc [.ref (ad 100), .int o] (WdM D y b0 (wl Ls ad G))) (va_Qi (fun (r : Int32) (u : va_W) => (¬ inR o 7 ∧ ∃ G2, u = wl Ls ad G2 ∧ ModelAt y Ls ad G2 (va_up F 0 1) A ∧ (∀ j, (j < 100 ∨ 134 < j) → G2 j = G j)) ∨ (inR o 7 ∧ r = sumO (A 27) o (A 29) nr ∧ ∃ G2, u = wl Ls ad G2 ∧ ModelAt y Ls ad G2 (va_up F 0 0) A ∧ (∀ j, (j < 100 ∨ 134 < j) → G2 j = G j))) (WB D b0) (fun q => b0 ≤ q)) 0 0 (fun q => b0 ≤ q) := by
  refine Met.ofW (cc := cX8_billed) (maxL := 4) (ret := (some .int)) (by decide) rfl ?_
  intro p e s m args below meth c s₁ B hml hv
  obtain ⟨rfl, ⟨hP, hK, hN⟩, hD, hb0, hT⟩ := hv
  have hx := B.exec
  have hb := B.bytes
  have hr := B.returns
  have hts := atoms_spec (ws := wsX8_billed) B.pre
  have hown : s.vm.findClass RX8 = some m.cls := findClass_of_methodNamed B.named
  have hlocks := B.notSynchronized
  have hS : va_S (fun q => b0 ≤ q) s.heap s.heap [] := va_S.rf
  have hinX8 : ∀ w ∈ wsX80, w ∈ wsX8_billed := by decide +kernel
  have eM : G 100 = .inr (10, [.int (F 0), .int (F 1), .ref (ad 103), .int (F 3), .ref (ad 105), .ref (ad 106), .ref (ad 107), .ref (ad 108), .int (F 8), .ref (ad 110), .ref (ad 111), .ref (ad 112), .ref (ad 113), .int (F 13), .int (F 14), .ref (ad 116), .ref (ad 117), .ref (ad 118), .ref (ad 119), .ref (ad 120), .ref (ad 121), .int (F 21), .ref (ad 123), .ref (ad 124), .ref (ad 125), .ref (ad 126), .int (nI nr), .ref (ad 128), .ref (ad 129), .ref (ad 130), .ref (ad 131), .ref (ad 132), .int (F 32), .ref (ad 134)]) := hM.2.1.trans (by rw [mfs, h26])
  obtain ⟨j27, a27⟩ : 128 ∈ Ls ∧ G 128 = .inl (y 0, 520, .inl (A 27)) := hM.2.2 27 (by decide)
  obtain ⟨j29, a29⟩ : 130 ∈ Ls ∧ G 130 = .inl (y 0, 520, .inl (A 29)) := hM.2.2 29 (by decide)
  have hl := lv_entry ([.ref (ad 100), .int o]) (n := 4) (Nat.le_of_ble_eq_true rfl)
  rw [lg_entry_eq]
  generalize (lg_sl ([.ref (ad 100), .int o]) ++ List.replicate (4 - (lg_sl ([.ref (ad 100), .int o])).length) Slot.unset).toArray = ls at hl ⊢
  have hl : lv_has ls 4 [(0, .ref (ad 100)), (1, .int o)] := hl
  refine lv_aload_n hx hb dX8_billed_0 rfl (lv_at hl 0 rfl) ?_
  refine lv_iload_n hx hb dX8_billed_1 rfl (lv_at hl 1 rfl) ?_
  refine vp_callSi (va_Run.run (va_runS (As := [.int o]) (rest := [.ref (ad 100)]) ⟨hx, hb, hml, hown, hts⟩ (c_X8_isOwner l o) (va_cwS 1 hts gX8_billed_X8_isOwner rfl rfl rfl (by decide +kernel) ⟨Nat.le_of_ble_eq_true rfl, Nat.le_of_ble_eq_true rfl⟩) ⟨fun _ _ _ _ q => q, fun U hU hW => ⟨rfl, trivial⟩⟩ rfl rfl hl.1 rfl (lv_room (Nat.le_of_ble_eq_true rfl)) dX8_billed_2 ⟨(Nat.le_of_ble_eq_true rfl), (Nat.le_of_ble_eq_true rfl)⟩)) (fun r_2 hr_2 => ?_)
  refine lv_if_eq (tgt := 12) hx hb dX8_billed_5 (by decide) (fun c_5 => ?_) (fun c_5 => ?_)
  · refine lv_iconst (v := 1) hx hb dX8_billed_12 (by decide) ?_
    refine pv_put (ci := 10) (v := .int 1) (ty := .int) (C := RX8) (T := TX8) (N := 34) hx hb hts hinX8 tyX8 tyX8_ok nmX8 hown hK hP hD hS hM.1 eM rfl 0 (by decide) (hts (.fieldLink RX8 86 "StorageChargeModel" "code" "I") (by decide +kernel)) (fun _ h9 => h9) rfl (by decide +kernel) rfl rfl (Nat.le_of_ble_eq_true rfl) dX8_billed_13 (fun H locs hP hD hS => ?_)
    obtain ⟨G_13, eG_13⟩ : ∃ gg9 : Nat → va_E, gg9 = va_up G 100 (.inr (10, [.int 1, .int (F 1), .ref (ad 103), .int (F 3), .ref (ad 105), .ref (ad 106), .ref (ad 107), .ref (ad 108), .int (F 8), .ref (ad 110), .ref (ad 111), .ref (ad 112), .ref (ad 113), .int (F 13), .int (F 14), .ref (ad 116), .ref (ad 117), .ref (ad 118), .ref (ad 119), .ref (ad 120), .ref (ad 121), .int (F 21), .ref (ad 123), .ref (ad 124), .ref (ad 125), .ref (ad 126), .int (nI nr), .ref (ad 128), .ref (ad 129), .ref (ad 130), .ref (ad 131), .ref (ad 132), .int (F 32), .ref (ad 134)])) := ⟨_, rfl⟩
    have hP : va_P D vwCl (wl Ls ad G_13) H := by rw [eG_13]; exact hP
    have hD : va_D (fun q => b0 ≤ q) (wl Ls ad G_13) := by rw [eG_13]; exact hD
    have a27 : G_13 128 = .inl (y 0, 520, .inl (A 27)) := by rw [eG_13, va_up_ne _ _ (by omega)]; exact a27
    have a29 : G_13 130 = .inl (y 0, 520, .inl (A 29)) := by rw [eG_13, va_up_ne _ _ (by omega)]; exact a29
    have eM : G_13 100 = .inr (10, [.int 1, .int (F 1), .ref (ad 103), .int (F 3), .ref (ad 105), .ref (ad 106), .ref (ad 107), .ref (ad 108), .int (F 8), .ref (ad 110), .ref (ad 111), .ref (ad 112), .ref (ad 113), .int (F 13), .int (F 14), .ref (ad 116), .ref (ad 117), .ref (ad 118), .ref (ad 119), .ref (ad 120), .ref (ad 121), .int (F 21), .ref (ad 123), .ref (ad 124), .ref (ad 125), .ref (ad 126), .int (nI nr), .ref (ad 128), .ref (ad 129), .ref (ad 130), .ref (ad 131), .ref (ad 132), .int (F 32), .ref (ad 134)]) := by rw [eG_13]; exact va_up_self _ _ _
    have hMc : ModelAt y Ls ad G_13 (va_up F 0 1) A := (ModelAt_w hM (eM.trans (by rw [← h26]; rfl)) (fun k hk => Or.inl ⟨by rw [eG_13, va_up_ne _ _ (by omega)], rfl⟩))
    have hfrc : ∀ j, (j < 100 ∨ 134 < j) → G_13 j = G j := (fun j h9 => by rw [eG_13, va_up_ne _ _ (by omega)])
    refine lv_iconst (v := 0) hx hb dX8_billed_16 (by decide) ?_
    refine lv_istore_n (lv' := [(2, .int 0), (0, .ref (ad 100)), (1, .int o)]) hx hb dX8_billed_17 rfl hl (by decide) rfl (fun ls hl => ?_)
    refine lv_iconst (v := 0) hx hb dX8_billed_18 (by decide) ?_
    refine lv_istore_n (lv' := [(3, .int 0), (2, .int 0), (0, .ref (ad 100)), (1, .int o)]) hx hb dX8_billed_19 rfl hl (by decide) rfl (fun ls hl => ?_)
    refine lv_iload_n hx hb dX8_billed_20 rfl (lv_at hl 0 rfl) ?_
    refine lv_aload_n hx hb dX8_billed_21 rfl (lv_at hl 2 rfl) ?_
    refine pv_get (ci := 10) (C := RX8) (T := TX8) (N := 34) hx hb hts hinX8 hown hK hP hM.1 eM rfl 26 (by decide) (hts (.fieldLink RX8 170 "StorageChargeModel" "rows" "I") (by decide +kernel)) (fun _ h9 => h9) rfl dX8_billed_22 ?_
    refine lv_icmp_ge (tgt := 64) hx hb dX8_billed_25 (by decide) (fun c_25 => ?_) (fun c_25 => ?_)
    · refine lv_iload_n hx hb dX8_billed_64 rfl (lv_at hl 1 rfl) ?_
      refine W.widen (k := 0) (n := 0) (Nat.le_of_ble_eq_true rfl) (Nat.le_of_ble_eq_true rfl) ?_
      exact W.iret (v := 0) hx hb hr (fun t ht hW => ⟨⟨0, wl Ls ad G_13, rfl, Or.inl ⟨(wI_eq0.mp (by rw [← hr_2]; exact c_5)), _, rfl, hMc, hfrc⟩, by rw [ht]; exact hP, hD⟩, hS.F ht⟩) hS.2.2 dX8_billed_65
    · refine lv_aload_n hx hb dX8_billed_28 rfl (lv_at hl 2 rfl) ?_
      refine pv_get (ci := 10) (C := RX8) (T := TX8) (N := 34) hx hb hts hinX8 hown hK hP hM.1 eM rfl 0 (by decide) (hts (.fieldLink RX8 86 "StorageChargeModel" "code" "I") (by decide +kernel)) (fun _ h9 => h9) rfl dX8_billed_29 ?_
      refine lv_if_ne (tgt := 64) hx hb dX8_billed_32 (by decide) (fun c_32 => ?_) (fun c_32 => ?_)
      · refine lv_iload_n hx hb dX8_billed_64 rfl (lv_at hl 1 rfl) ?_
        refine W.widen (k := 0) (n := 0) (Nat.le_of_ble_eq_true rfl) (Nat.le_of_ble_eq_true rfl) ?_
        exact W.iret (v := 0) hx hb hr (fun t ht hW => ⟨⟨0, wl Ls ad G_13, rfl, Or.inl ⟨(wI_eq0.mp (by rw [← hr_2]; exact c_5)), _, rfl, hMc, hfrc⟩, by rw [ht]; exact hP, hD⟩, hS.F ht⟩) hS.2.2 dX8_billed_65
      · exact absurd c_32 (by decide)
  · refine lv_iconst (v := 0) hx hb dX8_billed_8 (by decide) ?_
    refine lv_goto (tgt := 13) hx hb dX8_billed_9 (by decide) ?_
    refine pv_put (ci := 10) (v := .int 0) (ty := .int) (C := RX8) (T := TX8) (N := 34) hx hb hts hinX8 tyX8 tyX8_ok nmX8 hown hK hP hD hS hM.1 eM rfl 0 (by decide) (hts (.fieldLink RX8 86 "StorageChargeModel" "code" "I") (by decide +kernel)) (fun _ h9 => h9) rfl (by decide +kernel) rfl rfl (Nat.le_of_ble_eq_true rfl) dX8_billed_13 (fun H locs hP hD hS => ?_)
    obtain ⟨G_13, eG_13⟩ : ∃ gg9 : Nat → va_E, gg9 = va_up G 100 (.inr (10, [.int 0, .int (F 1), .ref (ad 103), .int (F 3), .ref (ad 105), .ref (ad 106), .ref (ad 107), .ref (ad 108), .int (F 8), .ref (ad 110), .ref (ad 111), .ref (ad 112), .ref (ad 113), .int (F 13), .int (F 14), .ref (ad 116), .ref (ad 117), .ref (ad 118), .ref (ad 119), .ref (ad 120), .ref (ad 121), .int (F 21), .ref (ad 123), .ref (ad 124), .ref (ad 125), .ref (ad 126), .int (nI nr), .ref (ad 128), .ref (ad 129), .ref (ad 130), .ref (ad 131), .ref (ad 132), .int (F 32), .ref (ad 134)])) := ⟨_, rfl⟩
    have hP : va_P D vwCl (wl Ls ad G_13) H := by rw [eG_13]; exact hP
    have hD : va_D (fun q => b0 ≤ q) (wl Ls ad G_13) := by rw [eG_13]; exact hD
    have a27 : G_13 128 = .inl (y 0, 520, .inl (A 27)) := by rw [eG_13, va_up_ne _ _ (by omega)]; exact a27
    have a29 : G_13 130 = .inl (y 0, 520, .inl (A 29)) := by rw [eG_13, va_up_ne _ _ (by omega)]; exact a29
    have eM : G_13 100 = .inr (10, [.int 0, .int (F 1), .ref (ad 103), .int (F 3), .ref (ad 105), .ref (ad 106), .ref (ad 107), .ref (ad 108), .int (F 8), .ref (ad 110), .ref (ad 111), .ref (ad 112), .ref (ad 113), .int (F 13), .int (F 14), .ref (ad 116), .ref (ad 117), .ref (ad 118), .ref (ad 119), .ref (ad 120), .ref (ad 121), .int (F 21), .ref (ad 123), .ref (ad 124), .ref (ad 125), .ref (ad 126), .int (nI nr), .ref (ad 128), .ref (ad 129), .ref (ad 130), .ref (ad 131), .ref (ad 132), .int (F 32), .ref (ad 134)]) := by rw [eG_13]; exact va_up_self _ _ _
    have hMc : ModelAt y Ls ad G_13 (va_up F 0 0) A := (ModelAt_w hM (eM.trans (by rw [← h26]; rfl)) (fun k hk => Or.inl ⟨by rw [eG_13, va_up_ne _ _ (by omega)], rfl⟩))
    have hfrc : ∀ j, (j < 100 ∨ 134 < j) → G_13 j = G j := (fun j h9 => by rw [eG_13, va_up_ne _ _ (by omega)])
    have loop20 : ∀ (n : Nat) (i : Nat) (k : Int32), i ≤ nr → nr < i + n → k = sumO (A 27) o (A 29) i → ∀ (H : Heap) (locs : List Loc), va_P D vwCl (wl Ls ad G_13) H → va_D (fun q => b0 ≤ q) (wl Ls ad G_13) → va_S (fun q => b0 ≤ q) s.heap H locs → ∀ ls : Array Slot, lv_has ls 4 [(0, .ref (ad 100)), (1, .int o), (2, .int k), (3, .int (nI i))] → W p l e (headSpec wsX8_billed ({ frames := 2, cells := 0, slots := 0, locals := 42 })).room s m ([.ref (ad 100), .int o] : List Value).toArray below meth c H locs 0 0 (MQ below (va_Qi (fun (r : Int32) (u : va_W) => (¬ inR o 7 ∧ ∃ G2, u = wl Ls ad G2 ∧ ModelAt y Ls ad G2 (va_up F 0 1) A ∧ (∀ j, (j < 100 ∨ 134 < j) → G2 j = G j)) ∨ (inR o 7 ∧ r = sumO (A 27) o (A 29) nr ∧ ∃ G2, u = wl Ls ad G2 ∧ ModelAt y Ls ad G2 (va_up F 0 0) A ∧ (∀ j, (j < 100 ∨ 134 < j) → G2 j = G j))) (WB D b0) (fun q => b0 ≤ q)) ([.ref (ad 100), .int o] : List Value).toArray s 0 0 (fun q => b0 ≤ q)) (F0 m 20 ls []) := by
      intro n
      induction n with
      | zero =>
        intro i k hi hn; exact absurd hn (by omega)
      | succ n ih20 =>
        intro i k hi hn ek H locs hP hD hS ls hl
        refine lv_iload_n hx hb dX8_billed_20 rfl (lv_at hl 3 rfl) ?_
        refine lv_aload_n hx hb dX8_billed_21 rfl (lv_at hl 0 rfl) ?_
        refine pv_get (ci := 10) (C := RX8) (T := TX8) (N := 34) hx hb hts hinX8 hown hK hP hM.1 eM rfl 26 (by decide) (hts (.fieldLink RX8 170 "StorageChargeModel" "rows" "I") (by decide +kernel)) (fun _ h9 => h9) rfl dX8_billed_22 ?_
        refine lv_icmp_ge (tgt := 64) hx hb dX8_billed_25 (by decide) (fun c_25 => ?_) (fun c_25 => ?_)
        · have hge : nr = i := by
            have h8 := Nat.le_of_not_lt (fun h : i < nr => absurd c_25 (nI_ge h (by omega)))
            omega
          refine lv_iload_n hx hb dX8_billed_64 rfl (lv_at hl 2 rfl) ?_
          refine W.widen (k := 0) (n := 0) (Nat.le_of_ble_eq_true rfl) (Nat.le_of_ble_eq_true rfl) ?_
          exact W.iret (v := k) hx hb hr (fun t ht hW => ⟨⟨k, wl Ls ad G_13, rfl, Or.inr ⟨(Decidable.byContradiction fun h => c_5 (by rw [hr_2]; exact wI_eq0.mpr h)), by rw [ek, hge], _, rfl, hMc, hfrc⟩, by rw [ht]; exact hP, hD⟩, hS.F ht⟩) hS.2.2 dX8_billed_65
        · have hlt : i < nr := Nat.lt_of_not_le fun h => c_25 (nI_le h (by omega))
          refine lv_aload_n hx hb dX8_billed_28 rfl (lv_at hl 0 rfl) ?_
          refine pv_get (ci := 10) (C := RX8) (T := TX8) (N := 34) hx hb hts hinX8 hown hK hP hM.1 eM rfl 0 (by decide) (hts (.fieldLink RX8 86 "StorageChargeModel" "code" "I") (by decide +kernel)) (fun _ h9 => h9) rfl dX8_billed_29 ?_
          refine lv_if_ne (tgt := 64) hx hb dX8_billed_32 (by decide) (fun c_32 => ?_) (fun c_32 => ?_)
          · exact absurd rfl c_32
          · refine lv_iload_n hx hb dX8_billed_35 rfl (lv_at hl 2 rfl) ?_
            refine lv_aload_n hx hb dX8_billed_36 rfl (lv_at hl 0 rfl) ?_
            refine pv_get (ci := 10) (C := RX8) (T := TX8) (N := 34) hx hb hts hinX8 hown hK hP hM.1 eM rfl 27 (by decide) (hts (.fieldLink RX8 67 "StorageChargeModel" "rowOwner" "[I") (by decide +kernel)) (fun _ h9 => h9) rfl dX8_billed_37 ?_
            refine lv_iload_n hx hb dX8_billed_40 rfl (lv_at hl 3 rfl) ?_
            refine pv_iald hx hb hK hP j27 0 a27 rfl (k := i) rfl (by omega) (by decide) dX8_billed_41 ?_
            refine lv_iload_n hx hb dX8_billed_42 rfl (lv_at hl 1 rfl) ?_
            refine lv_icmp_ne (tgt := 55) hx hb dX8_billed_43 (by decide) (fun c_43 => ?_) (fun c_43 => ?_)
            · refine lv_iconst (v := 0) hx hb dX8_billed_55 (by decide) ?_
              refine lv_iadd hx hb dX8_billed_56 ?_
              refine lv_topi (fun x_57 ex_57 => ?_)
              refine lv_istore_n (lv' := [(2, .int x_57), (0, .ref (ad 100)), (1, .int o), (3, .int (nI i))]) hx hb dX8_billed_57 rfl hl (by decide) rfl (fun ls hl => ?_)
              refine lv_iinc (v := nI (i + 1)) (lv' := [(3, .int (nI (i + 1))), (2, .int x_57), (0, .ref (ad 100)), (1, .int o)]) hx hb dX8_billed_58 hl (k := 3) rfl (nI_1 i) (by decide) rfl (fun ls hl => ?_)
              refine lv_goto (tgt := 20) hx hb dX8_billed_61 (by decide) ?_
              exact ih20 (i + 1) x_57 (by omega) (by omega) (by first | (rw [sumO, if_neg c_43, ex_57, ek]; exact Int32.add_zero _) | rw [sumO, if_pos c_43, ex_57, ek]) _ _ hP hD hS ls (lv_sub hl [2, 3, 1, 0] rfl)
            · refine lv_aload_n hx hb dX8_billed_46 rfl (lv_at hl 0 rfl) ?_
              refine pv_get (ci := 10) (C := RX8) (T := TX8) (N := 34) hx hb hts hinX8 hown hK hP hM.1 eM rfl 29 (by decide) (hts (.fieldLink RX8 73 "StorageChargeModel" "rowCents" "[I") (by decide +kernel)) (fun _ h9 => h9) rfl dX8_billed_47 ?_
              refine lv_iload_n hx hb dX8_billed_50 rfl (lv_at hl 3 rfl) ?_
              refine pv_iald hx hb hK hP j29 0 a29 rfl (k := i) rfl (by omega) (by decide) dX8_billed_51 ?_
              refine lv_goto (tgt := 56) hx hb dX8_billed_52 (by decide) ?_
              refine lv_iadd hx hb dX8_billed_56 ?_
              refine lv_topi (fun x_57 ex_57 => ?_)
              refine lv_istore_n (lv' := [(2, .int x_57), (0, .ref (ad 100)), (1, .int o), (3, .int (nI i))]) hx hb dX8_billed_57 rfl hl (by decide) rfl (fun ls hl => ?_)
              refine lv_iinc (v := nI (i + 1)) (lv' := [(3, .int (nI (i + 1))), (2, .int x_57), (0, .ref (ad 100)), (1, .int o)]) hx hb dX8_billed_58 hl (k := 3) rfl (nI_1 i) (by decide) rfl (fun ls hl => ?_)
              refine lv_goto (tgt := 20) hx hb dX8_billed_61 (by decide) ?_
              exact ih20 (i + 1) x_57 (by omega) (by omega) (by first | (rw [sumO, if_neg c_43, ex_57, ek]; exact Int32.add_zero _) | rw [sumO, if_pos c_43, ex_57, ek]) _ _ hP hD hS ls (lv_sub hl [2, 3, 1, 0] rfl)
    refine lv_iconst (v := 0) hx hb dX8_billed_16 (by decide) ?_
    refine lv_istore_n (lv' := [(2, .int 0), (0, .ref (ad 100)), (1, .int o)]) hx hb dX8_billed_17 rfl hl (by decide) rfl (fun ls hl => ?_)
    refine lv_iconst (v := 0) hx hb dX8_billed_18 (by decide) ?_
    refine lv_istore_n (lv' := [(3, .int 0), (2, .int 0), (0, .ref (ad 100)), (1, .int o)]) hx hb dX8_billed_19 rfl hl (by decide) rfl (fun ls hl => ?_)
    exact loop20 (nr + 1) 0 0 (by omega) (by omega) rfl _ _ hP hD hS ls (lv_sub hl [2, 3, 1, 0] rfl)

set_option maxHeartbeats 4000000 in
set_option maxRecDepth 100000 in
/-- at -/
theorem c_X8_at (l : Launch) (hl0 : l.stackTraces = false) (D : va_G) (y : Nat → ClassId) (b0 : Nat) (Ls : List Nat) (ad : Nat → Nat) (G : Nat → va_E) (F : Nat → Int32) (A : Nat → Nat → Int32) (hM : ModelAt y Ls ad G F A) (pn : Nat) (h32 : F 32 = nI pn) (hpn : pn ≤ 9000) (a0 : Int32) : Met l yX8_at wsX8_at ({ frames := 1, cells := 0, slots := 0, locals := 22 }) (va_Pc [.ref (ad 100), .int a0] (WdM D y b0 (wl Ls ad G))) (va_Qi (fun (r : Int32) (u : va_W) => (¬ inR a0 (nI pn - 1) ∧ ∃ G2, u = wl Ls ad G2 ∧ ModelAt y Ls ad G2 (va_up F 0 1) A ∧ (∀ j, (j < 100 ∨ 134 < j) → G2 j = G j)) ∨ (∃ i, i < pn ∧ a0 = nI i ∧ r = A 33 i ∧ ∃ G2, u = wl Ls ad G2 ∧ ModelAt y Ls ad G2 (va_up F 0 0) A ∧ (∀ j, (j < 100 ∨ 134 < j) → G2 j = G j))) (WB D b0) (fun q => b0 ≤ q)) 0 0 (fun q => b0 ≤ q) := by
  refine Met.ofW (cc := cX8_at) (maxL := 2) (ret := (some .int)) (by decide) rfl ?_
  intro p e s m args below meth c s₁ B hml hv
  obtain ⟨rfl, ⟨hP, hK, hN⟩, hD, hb0, hT⟩ := hv
  have hx := B.exec
  have hb := B.bytes
  have hr := B.returns
  have hts := atoms_spec (ws := wsX8_at) B.pre
  have hown : s.vm.findClass RX8 = some m.cls := findClass_of_methodNamed B.named
  have hlocks := B.notSynchronized
  have hS : va_S (fun q => b0 ≤ q) s.heap s.heap [] := va_S.rf
  have hinX8 : ∀ w ∈ wsX80, w ∈ wsX8_at := by decide +kernel
  have eM : G 100 = .inr (10, [.int (F 0), .int (F 1), .ref (ad 103), .int (F 3), .ref (ad 105), .ref (ad 106), .ref (ad 107), .ref (ad 108), .int (F 8), .ref (ad 110), .ref (ad 111), .ref (ad 112), .ref (ad 113), .int (F 13), .int (F 14), .ref (ad 116), .ref (ad 117), .ref (ad 118), .ref (ad 119), .ref (ad 120), .ref (ad 121), .int (F 21), .ref (ad 123), .ref (ad 124), .ref (ad 125), .ref (ad 126), .int (F 26), .ref (ad 128), .ref (ad 129), .ref (ad 130), .ref (ad 131), .ref (ad 132), .int (nI pn), .ref (ad 134)]) := hM.2.1.trans (by rw [mfs, h32])
  obtain ⟨j33, a33⟩ : 134 ∈ Ls ∧ G 134 = .inl (y 0, 9000, .inl (A 33)) := hM.2.2 33 (by decide)
  have hl := lv_entry ([.ref (ad 100), .int a0]) (n := 2) (Nat.le_of_ble_eq_true rfl)
  rw [lg_entry_eq]
  generalize (lg_sl ([.ref (ad 100), .int a0]) ++ List.replicate (2 - (lg_sl ([.ref (ad 100), .int a0])).length) Slot.unset).toArray = ls at hl ⊢
  have hl : lv_has ls 2 [(0, .ref (ad 100)), (1, .int a0)] := hl
  refine lv_aload_n hx hb dX8_at_0 rfl (lv_at hl 0 rfl) ?_
  refine lv_iload_n hx hb dX8_at_1 rfl (lv_at hl 1 rfl) ?_
  refine lv_iconst (v := 0) hx hb dX8_at_2 (by decide) ?_
  refine lv_aload_n hx hb dX8_at_3 rfl (lv_at hl 0 rfl) ?_
  refine pv_get (ci := 10) (C := RX8) (T := TX8) (N := 34) hx hb hts hinX8 hown hK hP hM.1 eM rfl 32 (by decide) (hts (.fieldLink RX8 180 "StorageChargeModel" "printed" "I") (by decide +kernel)) (fun _ h9 => h9) rfl dX8_at_4 ?_
  refine lv_iconst (v := 1) hx hb dX8_at_7 (by decide) ?_
  refine lv_isub hx hb dX8_at_8 ?_
  refine vp_callSi (va_Run.run (va_runS (As := [.int a0, .int 0, .int ((nI pn) - 1)]) (rest := [.ref (ad 100)]) ⟨hx, hb, hml, hown, hts⟩ (c_X8_in l a0 0 (nI pn - 1)) (va_cwS 3 hts gX8_at_X8_in rfl rfl rfl (by decide +kernel) ⟨Nat.le_of_ble_eq_true rfl, Nat.le_of_ble_eq_true rfl⟩) ⟨fun _ _ _ _ q => q, fun U hU hW => ⟨rfl, trivial⟩⟩ rfl rfl hl.1 rfl (lv_room (Nat.le_of_ble_eq_true rfl)) dX8_at_9 ⟨(Nat.le_of_ble_eq_true rfl), (Nat.le_of_ble_eq_true rfl)⟩)) (fun r_9 hr_9 => ?_)
  refine lv_if_eq (tgt := 19) hx hb dX8_at_12 (by decide) (fun c_12 => ?_) (fun c_12 => ?_)
  · refine lv_iconst (v := 1) hx hb dX8_at_19 (by decide) ?_
    refine pv_put (ci := 10) (v := .int 1) (ty := .int) (C := RX8) (T := TX8) (N := 34) hx hb hts hinX8 tyX8 tyX8_ok nmX8 hown hK hP hD hS hM.1 eM rfl 0 (by decide) (hts (.fieldLink RX8 86 "StorageChargeModel" "code" "I") (by decide +kernel)) (fun _ h9 => h9) rfl (by decide +kernel) rfl rfl (Nat.le_of_ble_eq_true rfl) dX8_at_20 (fun H locs hP hD hS => ?_)
    obtain ⟨G_20, eG_20⟩ : ∃ gg9 : Nat → va_E, gg9 = va_up G 100 (.inr (10, [.int 1, .int (F 1), .ref (ad 103), .int (F 3), .ref (ad 105), .ref (ad 106), .ref (ad 107), .ref (ad 108), .int (F 8), .ref (ad 110), .ref (ad 111), .ref (ad 112), .ref (ad 113), .int (F 13), .int (F 14), .ref (ad 116), .ref (ad 117), .ref (ad 118), .ref (ad 119), .ref (ad 120), .ref (ad 121), .int (F 21), .ref (ad 123), .ref (ad 124), .ref (ad 125), .ref (ad 126), .int (F 26), .ref (ad 128), .ref (ad 129), .ref (ad 130), .ref (ad 131), .ref (ad 132), .int (nI pn), .ref (ad 134)])) := ⟨_, rfl⟩
    have hP : va_P D vwCl (wl Ls ad G_20) H := by rw [eG_20]; exact hP
    have hD : va_D (fun q => b0 ≤ q) (wl Ls ad G_20) := by rw [eG_20]; exact hD
    have a33 : G_20 134 = .inl (y 0, 9000, .inl (A 33)) := by rw [eG_20, va_up_ne _ _ (by omega)]; exact a33
    have eM : G_20 100 = .inr (10, [.int 1, .int (F 1), .ref (ad 103), .int (F 3), .ref (ad 105), .ref (ad 106), .ref (ad 107), .ref (ad 108), .int (F 8), .ref (ad 110), .ref (ad 111), .ref (ad 112), .ref (ad 113), .int (F 13), .int (F 14), .ref (ad 116), .ref (ad 117), .ref (ad 118), .ref (ad 119), .ref (ad 120), .ref (ad 121), .int (F 21), .ref (ad 123), .ref (ad 124), .ref (ad 125), .ref (ad 126), .int (F 26), .ref (ad 128), .ref (ad 129), .ref (ad 130), .ref (ad 131), .ref (ad 132), .int (nI pn), .ref (ad 134)]) := by rw [eG_20]; exact va_up_self _ _ _
    have hMc : ModelAt y Ls ad G_20 (va_up F 0 1) A := (ModelAt_w hM (eM.trans (by rw [← h32]; rfl)) (fun k hk => Or.inl ⟨by rw [eG_20, va_up_ne _ _ (by omega)], rfl⟩))
    have hfrc : ∀ j, (j < 100 ∨ 134 < j) → G_20 j = G j := (fun j h9 => by rw [eG_20, va_up_ne _ _ (by omega)])
    refine lv_aload_n hx hb dX8_at_23 rfl (lv_at hl 0 rfl) ?_
    refine pv_get (ci := 10) (C := RX8) (T := TX8) (N := 34) hx hb hts hinX8 hown hK hP hM.1 eM rfl 0 (by decide) (hts (.fieldLink RX8 86 "StorageChargeModel" "code" "I") (by decide +kernel)) (fun _ h9 => h9) rfl dX8_at_24 ?_
    refine lv_if_le (tgt := 34) hx hb dX8_at_27 (by decide) (fun c_27 => ?_) (fun c_27 => ?_)
    · exact absurd c_27 (by decide)
    · refine lv_iconst (v := 0) hx hb dX8_at_30 (by decide) ?_
      refine lv_goto (tgt := 40) hx hb dX8_at_31 (by decide) ?_
      refine W.widen (k := 0) (n := 0) (Nat.le_of_ble_eq_true rfl) (Nat.le_of_ble_eq_true rfl) ?_
      exact W.iret (v := 0) hx hb hr (fun t ht hW => ⟨⟨0, wl Ls ad G_20, rfl, Or.inl ⟨(wI_eq0.mp (by rw [← hr_9]; exact c_12)), _, rfl, hMc, hfrc⟩, by rw [ht]; exact hP, hD⟩, hS.F ht⟩) hS.2.2 dX8_at_40
  · refine lv_iconst (v := 0) hx hb dX8_at_15 (by decide) ?_
    refine lv_goto (tgt := 20) hx hb dX8_at_16 (by decide) ?_
    refine pv_put (ci := 10) (v := .int 0) (ty := .int) (C := RX8) (T := TX8) (N := 34) hx hb hts hinX8 tyX8 tyX8_ok nmX8 hown hK hP hD hS hM.1 eM rfl 0 (by decide) (hts (.fieldLink RX8 86 "StorageChargeModel" "code" "I") (by decide +kernel)) (fun _ h9 => h9) rfl (by decide +kernel) rfl rfl (Nat.le_of_ble_eq_true rfl) dX8_at_20 (fun H locs hP hD hS => ?_)
    obtain ⟨G_20, eG_20⟩ : ∃ gg9 : Nat → va_E, gg9 = va_up G 100 (.inr (10, [.int 0, .int (F 1), .ref (ad 103), .int (F 3), .ref (ad 105), .ref (ad 106), .ref (ad 107), .ref (ad 108), .int (F 8), .ref (ad 110), .ref (ad 111), .ref (ad 112), .ref (ad 113), .int (F 13), .int (F 14), .ref (ad 116), .ref (ad 117), .ref (ad 118), .ref (ad 119), .ref (ad 120), .ref (ad 121), .int (F 21), .ref (ad 123), .ref (ad 124), .ref (ad 125), .ref (ad 126), .int (F 26), .ref (ad 128), .ref (ad 129), .ref (ad 130), .ref (ad 131), .ref (ad 132), .int (nI pn), .ref (ad 134)])) := ⟨_, rfl⟩
    have hP : va_P D vwCl (wl Ls ad G_20) H := by rw [eG_20]; exact hP
    have hD : va_D (fun q => b0 ≤ q) (wl Ls ad G_20) := by rw [eG_20]; exact hD
    have a33 : G_20 134 = .inl (y 0, 9000, .inl (A 33)) := by rw [eG_20, va_up_ne _ _ (by omega)]; exact a33
    have eM : G_20 100 = .inr (10, [.int 0, .int (F 1), .ref (ad 103), .int (F 3), .ref (ad 105), .ref (ad 106), .ref (ad 107), .ref (ad 108), .int (F 8), .ref (ad 110), .ref (ad 111), .ref (ad 112), .ref (ad 113), .int (F 13), .int (F 14), .ref (ad 116), .ref (ad 117), .ref (ad 118), .ref (ad 119), .ref (ad 120), .ref (ad 121), .int (F 21), .ref (ad 123), .ref (ad 124), .ref (ad 125), .ref (ad 126), .int (F 26), .ref (ad 128), .ref (ad 129), .ref (ad 130), .ref (ad 131), .ref (ad 132), .int (nI pn), .ref (ad 134)]) := by rw [eG_20]; exact va_up_self _ _ _
    have hMc : ModelAt y Ls ad G_20 (va_up F 0 0) A := (ModelAt_w hM (eM.trans (by rw [← h32]; rfl)) (fun k hk => Or.inl ⟨by rw [eG_20, va_up_ne _ _ (by omega)], rfl⟩))
    have hfrc : ∀ j, (j < 100 ∨ 134 < j) → G_20 j = G j := (fun j h9 => by rw [eG_20, va_up_ne _ _ (by omega)])
    refine lv_aload_n hx hb dX8_at_23 rfl (lv_at hl 0 rfl) ?_
    refine pv_get (ci := 10) (C := RX8) (T := TX8) (N := 34) hx hb hts hinX8 hown hK hP hM.1 eM rfl 0 (by decide) (hts (.fieldLink RX8 86 "StorageChargeModel" "code" "I") (by decide +kernel)) (fun _ h9 => h9) rfl dX8_at_24 ?_
    refine lv_if_le (tgt := 34) hx hb dX8_at_27 (by decide) (fun c_27 => ?_) (fun c_27 => ?_)
    · have hq9 : inR a0 (nI pn - 1) := (Decidable.byContradiction fun h => c_12 (by rw [hr_9]; exact wI_eq0.mpr h))
      obtain ⟨i, hi, rfl⟩ := in_len (by omega) hq9
      refine lv_aload_n hx hb dX8_at_34 rfl (lv_at hl 0 rfl) ?_
      refine pv_get (ci := 10) (C := RX8) (T := TX8) (N := 34) hx hb hts hinX8 hown hK hP hM.1 eM rfl 33 (by decide) (hts (.fieldLink RX8 83 "StorageChargeModel" "print" "[I") (by decide +kernel)) (fun _ h9 => h9) rfl dX8_at_35 ?_
      refine lv_iload_n hx hb dX8_at_38 rfl (lv_at hl 1 rfl) ?_
      refine pv_iald hx hb hK hP j33 0 a33 rfl (k := i) rfl (by omega) (by decide) dX8_at_39 ?_
      refine W.widen (k := 0) (n := 0) (Nat.le_of_ble_eq_true rfl) (Nat.le_of_ble_eq_true rfl) ?_
      exact W.iret (v := (A 33) i) hx hb hr (fun t ht hW => ⟨⟨(A 33) i, wl Ls ad G_20, rfl, Or.inr ⟨i, hi, rfl, rfl, _, rfl, hMc, hfrc⟩, by rw [ht]; exact hP, hD⟩, hS.F ht⟩) hS.2.2 dX8_at_40
    · exact absurd (by decide) c_27
