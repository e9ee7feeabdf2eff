/-! Charges' reads -/
/-- charges at the label c, their six rows behind it -/
def ChargesAt (y : Nat → ClassId) (Ls : List Nat) (ad : Nat → Nat) (G : Nat → va_E) (c : Nat) (st ha mi dO dD dP : Nat → Int32) (nd : Nat) (li ow : Int32) : Prop :=
  (c ∈ Ls ∧ c + 1 ∈ Ls ∧ c + 2 ∈ Ls ∧ c + 3 ∈ Ls ∧ c + 4 ∈ Ls ∧ c + 5 ∈ Ls ∧ c + 6 ∈ Ls) ∧ G c = .inr (4, [.ref (ad (c + 1)), .ref (ad (c + 2)), .ref (ad (c + 3)), .ref (ad (c + 4)), .ref (ad (c + 5)), .ref (ad (c + 6)), .int (nI nd), .int li, .int ow]) ∧ G (c + 1) = .inl (y 0, 40, .inl st) ∧ G (c + 2) = .inl (y 0, 40, .inl ha) ∧ G (c + 3) = .inl (y 0, 8, .inl mi) ∧ G (c + 4) = .inl (y 0, 60, .inl dO) ∧ G (c + 5) = .inl (y 0, 60, .inl dD) ∧ G (c + 6) = .inl (y 0, 60, .inl dP) ∧ nd ≤ 60
/-- what a row of cents answers at a place -/
def tZ (n : Nat) (f : Nat → Int32) (pl : Int32) : Int32 := if 0 ≤ pl ∧ pl ≤ nI (n - 1) then (if f pl.toNatClampNeg = -1 then 0 else f pl.toNatClampNeg) else 0
theorem within_nI {n : Nat} {x : Int32} (h1 : 1 ≤ n) (hn : n < 2 ^ 31) (h : 0 ≤ x ∧ x ≤ nI (n - 1)) : ∃ k, k < n ∧ x = nI k := by
  obtain ⟨k, hk, e⟩ := nI_of2 (M := nI (n - 1)) (n := n - 1) (nI_toInt (by omega)) (Int32.not_lt.mpr h.1) h.2
  exact ⟨k, by omega, e⟩
def hasD (dO dD : Nat → Int32) (o d : Int32) : Nat → Prop := fun n => ∃ i, i < n ∧ dO i = o ∧ dD i = d
theorem hasD_step {dO dD : Nat → Int32} {o d : Int32} {i : Nat} (h : ¬ hasD dO dD o d i) (h2 : ¬ (dO i = o ∧ dD i = d)) : ¬ hasD dO dD o d (i + 1) := by
  rintro ⟨q, h1, h3⟩
  rcases Nat.lt_or_ge q i with g | g
  · exact h ⟨q, g, h3⟩
  · obtain rfl : q = i := by omega
    exact h2 h3
/-- the most days and the percent of the discounts looked at so far -/
def pF (dO dD dP : Nat → Int32) (o ud : Int32) : Nat → Int32 × Int32
  | 0 => (0, 0)
  | i + 1 => if dO i = o ∧ ((pF dO dD dP o ud i).1 ≤ dD i ∧ dD i ≤ ud) then (dD i, dP i) else pF dO dD dP o ud i

set_option maxHeartbeats 4000000 in
set_option maxRecDepth 100000 in
/-- Charges.place -/
theorem c_X2_place (l : Launch) (o k : Int32) : Met l yX2_place wsX2_place ({ frames := 0, cells := 0, slots := 0, locals := 0 }) (va_Pc [.int o, .int k] (fun _ => True)) (vp_Si (fun r => r = 5 * o + k)) 0 0 (fun _ => False) := by
  refine Met.ofW (cc := cX2_place) (maxL := 2) (ret := (some .int)) (by decide) rfl ?_
  intro p e s m args below meth c s₁ B hml hv
  obtain ⟨rfl, -⟩ := hv
  have hx := B.exec
  have hb := B.bytes
  have hr := B.returns
  have hts := atoms_spec (ws := wsX2_place) B.pre
  have hown : s.vm.findClass RX2 = some m.cls := findClass_of_methodNamed B.named
  have hlocks := B.notSynchronized
  have hl := lv_entry ([.int o, .int k]) (n := 2) (Nat.le_of_ble_eq_true rfl)
  rw [lg_entry_eq]
  generalize (lg_sl ([.int o, .int k]) ++ List.replicate (2 - (lg_sl ([.int o, .int k])).length) Slot.unset).toArray = ls at hl ⊢
  have hl : lv_has ls 2 [(0, .int o), (1, .int k)] := hl
  refine lv_iconst (v := 5) hx hb dX2_place_0 (by decide) ?_
  refine lv_iload_n hx hb dX2_place_1 rfl (lv_at hl 0 rfl) ?_
  refine lv_imul hx hb dX2_place_2 ?_
  refine lv_iload_n hx hb dX2_place_3 rfl (lv_at hl 1 rfl) ?_
  refine lv_iadd hx hb dX2_place_4 ?_
  exact W.iret (v := ((5 * o) + k)) hx hb hr (fun t ht hW => ⟨((5 * o) + k), rfl, rfl, ht⟩) (fun q h => by cases h) dX2_place_5

set_option maxHeartbeats 4000000 in
set_option maxRecDepth 100000 in
/-- Charges.toldOrZero -/
theorem c_X2_toldOrZero (l : Launch) (D : va_G) (y : Nat → ClassId) (Ls : List Nat) (ad : Nat → Nat) (G : Nat → va_E) (rw n : Nat) (f : Nat → Int32) (hj : rw ∈ Ls) (er : G rw = .inl (y 0, n, .inl f)) (h1 : 1 ≤ n) (hn : n < 2 ^ 31) (pl : Int32) : Met l yX2_toldOrZero wsX2_toldOrZero ({ frames := 1, cells := 0, slots := 0, locals := 22 }) (va_Pc [.ref (ad rw), .int pl] (Wd D y (wl Ls ad G))) (vp_Si (fun r => r = tZ n f pl)) 0 0 (fun _ => False) := by
  refine Met.ofW (cc := cX2_toldOrZero) (maxL := 2) (ret := (some .int)) (by decide) rfl ?_
  intro p e s m args below meth c s₁ B hml hv
  obtain ⟨rfl, hP, hK, hN⟩ := hv
  have hx := B.exec
  have hb := B.bytes
  have hr := B.returns
  have hts := atoms_spec (ws := wsX2_toldOrZero) B.pre
  have hown : s.vm.findClass RX2 = some m.cls := findClass_of_methodNamed B.named
  have hlocks := B.notSynchronized
  have hl := lv_entry ([.ref (ad rw), .int pl]) (n := 2) (Nat.le_of_ble_eq_true rfl)
  rw [lg_entry_eq]
  generalize (lg_sl ([.ref (ad rw), .int pl]) ++ List.replicate (2 - (lg_sl ([.ref (ad rw), .int pl])).length) Slot.unset).toArray = ls at hl ⊢
  have hl : lv_has ls 2 [(0, .ref (ad rw)), (1, .int pl)] := hl
  refine lv_iload_n hx hb dX2_toldOrZero_0 rfl (lv_at hl 1 rfl) ?_
  refine lv_iconst (v := 0) hx hb dX2_toldOrZero_1 (by decide) ?_
  refine lv_aload_n hx hb dX2_toldOrZero_2 rfl (lv_at hl 0 rfl) ?_
  refine pv_alen (n := n) hx hb hK hP hj 0 er rfl rfl dX2_toldOrZero_3 ?_
  refine lv_iconst (v := 1) hx hb dX2_toldOrZero_4 (by decide) ?_
  refine lv_isub hx hb dX2_toldOrZero_5 ?_
  refine vp_callSi (va_Run.run (va_runSN (As := [.int pl, .int 0, .int ((nI n) - 1)]) (rest := []) ⟨hx, hb, hml, hown, hts⟩ (c_X7_isWithin l pl 0 (nI n - 1)) ⟨va_cnB 3 hts gX2_toldOrZero_X7_isWithin_n49 rfl rfl rfl (hN (.methodLinkNest RX2 49 yX7_isWithin "StorageCharge") (by decide +kernel)) (hts (.initialized RX7) (by decide +kernel)) (by decide +kernel) ⟨Nat.le_of_ble_eq_true rfl, Nat.le_of_ble_eq_true rfl⟩, hts (.static yX7_isWithin) (by decide +kernel), trivial⟩ ⟨fun _ _ _ _ q => q, fun U hU hW => ⟨rfl, trivial⟩⟩ rfl rfl hl.1 rfl (lv_room (Nat.le_of_ble_eq_true rfl)) dX2_toldOrZero_6 ⟨Nat.zero_le _, Nat.zero_le _⟩)) (fun r_6 hr_6 => ?_)
  refine lv_if_eq (tgt := 25) hx hb dX2_toldOrZero_9 (by decide) (fun c_9 => ?_) (fun c_9 => ?_)
  · refine lv_iconst (v := 0) hx hb dX2_toldOrZero_25 (by decide) ?_
    exact W.iret (v := 0) hx hb hr (fun t ht hW => ⟨0, rfl, (by first | (rw [tZ, if_neg (by rw [← nI_p1 h1]; first | exact wI_eq0.mp (by rw [← hr_6]; exact c_9) | exact c_9)]) | (rw [tZ, if_pos hw, if_pos (by rw [ek, nI_clamp (by omega)]; exact c_16)])), ht⟩) (fun q h => by cases h) dX2_toldOrZero_26
  · have hw : 0 ≤ pl ∧ pl ≤ nI (n - 1) := by
      rw [← nI_p1 h1]
      exact Decidable.byContradiction fun h => c_9 (by rw [hr_6]; exact wI_eq0.mpr h)
    obtain ⟨k, hk, ek⟩ := within_nI h1 hn hw
    refine lv_aload_n hx hb dX2_toldOrZero_12 rfl (lv_at hl 0 rfl) ?_
    refine lv_iload_n hx hb dX2_toldOrZero_13 rfl (lv_at hl 1 rfl) ?_
    refine pv_iald hx hb hK hP hj 0 er rfl (k := k) ek hk hn dX2_toldOrZero_14 ?_
    refine lv_iconst (v := (-1)) hx hb dX2_toldOrZero_15 (by decide) ?_
    refine lv_icmp_eq (tgt := 25) hx hb dX2_toldOrZero_16 (by decide) (fun c_16 => ?_) (fun c_16 => ?_)
    · refine lv_iconst (v := 0) hx hb dX2_toldOrZero_25 (by decide) ?_
      exact W.iret (v := 0) hx hb hr (fun t ht hW => ⟨0, rfl, (by first | (rw [tZ, if_neg (by rw [← nI_p1 h1]; first | exact wI_eq0.mp (by rw [← hr_6]; exact c_9) | exact c_9)]) | (rw [tZ, if_pos hw, if_pos (by rw [ek, nI_clamp (by omega)]; exact c_16)])), ht⟩) (fun q h => by cases h) dX2_toldOrZero_26
    · refine lv_aload_n hx hb dX2_toldOrZero_19 rfl (lv_at hl 0 rfl) ?_
      refine lv_iload_n hx hb dX2_toldOrZero_20 rfl (lv_at hl 1 rfl) ?_
      refine pv_iald hx hb hK hP hj 0 er rfl (k := k) ek hk hn dX2_toldOrZero_21 ?_
      refine lv_goto (tgt := 26) hx hb dX2_toldOrZero_22 (by decide) ?_
      exact W.iret (v := f k) hx hb hr (fun t ht hW => ⟨f k, rfl, (by rw [tZ, if_pos hw, if_neg (by rw [ek, nI_clamp (by omega)]; exact c_16), ek, nI_clamp (by omega)]), ht⟩) (fun q h => by cases h) dX2_toldOrZero_26

set_option maxHeartbeats 4000000 in
set_option maxRecDepth 100000 in
/-- Charges.storageCents -/
theorem c_X2_storageCents (l : Launch) (D : va_G) (y : Nat → ClassId) (Ls : List Nat) (ad : Nat → Nat) (G : Nat → va_E) (ch : Nat) (st ha mi dO dD dP : Nat → Int32) (nd : Nat) (li ow : Int32) (hC : ChargesAt y Ls ad G ch st ha mi dO dD dP nd li ow) (o kd : Int32) : Met l yX2_storageCents wsX2_storageCents ({ frames := 2, cells := 0, slots := 0, locals := 43 }) (va_Pc [.ref (ad ch), .int o, .int kd] (Wd D y (wl Ls ad G))) (vp_Si (fun r => r = tZ 40 st (5 * o + kd))) 0 0 (fun _ => False) := by
  refine Met.ofW (cc := cX2_storageCents) (maxL := 3) (ret := (some .int)) (by decide) rfl ?_
  intro p e s m args below meth c s₁ B hml hv
  obtain ⟨rfl, hP, hK, hN⟩ := hv
  have hx := B.exec
  have hb := B.bytes
  have hr := B.returns
  have hts := atoms_spec (ws := wsX2_storageCents) B.pre
  have hown : s.vm.findClass RX2 = some m.cls := findClass_of_methodNamed B.named
  have hlocks := B.notSynchronized
  have hinX2 : ∀ w ∈ wsX20, w ∈ wsX2_storageCents := by decide +kernel
  obtain ⟨⟨hc0, hc1, hc2, hc3, hc4, hc5, hc6⟩, ec0, ec1, ec2, ec3, ec4, ec5, ec6, hnd⟩ := id hC
  have hl := lv_entry ([.ref (ad ch), .int o, .int kd]) (n := 3) (Nat.le_of_ble_eq_true rfl)
  rw [lg_entry_eq]
  generalize (lg_sl ([.ref (ad ch), .int o, .int kd]) ++ List.replicate (3 - (lg_sl ([.ref (ad ch), .int o, .int kd])).length) Slot.unset).toArray = ls at hl ⊢
  have hl : lv_has ls 3 [(0, .ref (ad ch)), (1, .int o), (2, .int kd)] := hl
  refine lv_aload_n hx hb dX2_storageCents_0 rfl (lv_at hl 0 rfl) ?_
  refine pv_get (ci := 4) (C := RX2) (T := TX2) (N := 9) hx hb hts hinX2 hown hK hP hc0 ec0 rfl 0 (by decide) (hts (.fieldLink RX2 9 "StorageCharge$Charges" "storage" "[I") (by decide +kernel)) (fun _ h9 => h9) rfl dX2_storageCents_1 ?_
  refine lv_iload_n hx hb dX2_storageCents_4 rfl (lv_at hl 1 rfl) ?_
  refine lv_iload_n hx hb dX2_storageCents_5 rfl (lv_at hl 2 rfl) ?_
  refine vp_callSi (va_Run.run (va_runS (As := [.int o, .int kd]) (rest := [.ref (ad (ch + 1))]) ⟨hx, hb, hml, hown, hts⟩ (c_X2_place l o kd) (va_cwS 2 hts gX2_storageCents_X2_place rfl rfl rfl (by decide +kernel) ⟨Nat.le_of_ble_eq_true rfl, Nat.le_of_ble_eq_true rfl⟩) ⟨fun _ _ _ _ q => q, fun U hU hW => ⟨rfl, trivial⟩⟩ rfl rfl hl.1 rfl (lv_room (Nat.le_of_ble_eq_true rfl)) dX2_storageCents_6 ⟨Nat.zero_le _, Nat.zero_le _⟩)) (fun r_6 hr_6 => ?_)
  refine vp_callSi (va_Run.run (va_runS (As := [.ref (ad (ch + 1)), .int r_6]) (rest := []) ⟨hx, hb, hml, hown, hts⟩ (c_X2_toldOrZero l D y Ls ad G (ch + 1) 40 st hc1 ec1 (by decide) (by decide) r_6) (va_cwS 2 hts gX2_storageCents_X2_toldOrZero rfl rfl rfl (by decide +kernel) ⟨Nat.le_of_ble_eq_true rfl, Nat.le_of_ble_eq_true rfl⟩) ⟨Wd_blind, Wd_at hP hK hN⟩ rfl rfl hl.1 rfl (lv_room (Nat.le_of_ble_eq_true rfl)) dX2_storageCents_9 ⟨Nat.zero_le _, Nat.zero_le _⟩)) (fun r_9 hr_9 => ?_)
  exact W.iret (v := r_9) hx hb hr (fun t ht hW => ⟨r_9, rfl, (by rw [hr_9, hr_6]), ht⟩) (fun q h => by cases h) dX2_storageCents_12

set_option maxHeartbeats 4000000 in
set_option maxRecDepth 100000 in
/-- Charges.handlingCents -/
theorem c_X2_handlingCents (l : Launch) (D : va_G) (y : Nat → ClassId) (Ls : List Nat) (ad : Nat → Nat) (G : Nat → va_E) (ch : Nat) (st ha mi dO dD dP : Nat → Int32) (nd : Nat) (li ow : Int32) (hC : ChargesAt y Ls ad G ch st ha mi dO dD dP nd li ow) (o kd : Int32) : Met l yX2_handlingCents wsX2_handlingCents ({ frames := 2, cells := 0, slots := 0, locals := 43 }) (va_Pc [.ref (ad ch), .int o, .int kd] (Wd D y (wl Ls ad G))) (vp_Si (fun r => r = tZ 40 ha (5 * o + kd))) 0 0 (fun _ => False) := by
  refine Met.ofW (cc := cX2_handlingCents) (maxL := 3) (ret := (some .int)) (by decide) rfl ?_
  intro p e s m args below meth c s₁ B hml hv
  obtain ⟨rfl, hP, hK, hN⟩ := hv
  have hx := B.exec
  have hb := B.bytes
  have hr := B.returns
  have hts := atoms_spec (ws := wsX2_handlingCents) B.pre
  have hown : s.vm.findClass RX2 = some m.cls := findClass_of_methodNamed B.named
  have hlocks := B.notSynchronized
  have hinX2 : ∀ w ∈ wsX20, w ∈ wsX2_handlingCents := by decide +kernel
  obtain ⟨⟨hc0, hc1, hc2, hc3, hc4, hc5, hc6⟩, ec0, ec1, ec2, ec3, ec4, ec5, ec6, hnd⟩ := id hC
  have hl := lv_entry ([.ref (ad ch), .int o, .int kd]) (n := 3) (Nat.le_of_ble_eq_true rfl)
  rw [lg_entry_eq]
  generalize (lg_sl ([.ref (ad ch), .int o, .int kd]) ++ List.replicate (3 - (lg_sl ([.ref (ad ch), .int o, .int kd])).length) Slot.unset).toArray = ls at hl ⊢
  have hl : lv_has ls 3 [(0, .ref (ad ch)), (1, .int o), (2, .int kd)] := hl
  refine lv_aload_n hx hb dX2_handlingCents_0 rfl (lv_at hl 0 rfl) ?_
  refine pv_get (ci := 4) (C := RX2) (T := TX2) (N := 9) hx hb hts hinX2 hown hK hP hc0 ec0 rfl 1 (by decide) (hts (.fieldLink RX2 15 "StorageCharge$Charges" "handling" "[I") (by decide +kernel)) (fun _ h9 => h9) rfl dX2_handlingCents_1 ?_
  refine lv_iload_n hx hb dX2_handlingCents_4 rfl (lv_at hl 1 rfl) ?_
  refine lv_iload_n hx hb dX2_handlingCents_5 rfl (lv_at hl 2 rfl) ?_
  refine vp_callSi (va_Run.run (va_runS (As := [.int o, .int kd]) (rest := [.ref (ad (ch + 2))]) ⟨hx, hb, hml, hown, hts⟩ (c_X2_place l o kd) (va_cwS 2 hts gX2_handlingCents_X2_place rfl rfl rfl (by decide +kernel) ⟨Nat.le_of_ble_eq_true rfl, Nat.le_of_ble_eq_true rfl⟩) ⟨fun _ _ _ _ q => q, fun U hU hW => ⟨rfl, trivial⟩⟩ rfl rfl hl.1 rfl (lv_room (Nat.le_of_ble_eq_true rfl)) dX2_handlingCents_6 ⟨Nat.zero_le _, Nat.zero_le _⟩)) (fun r_6 hr_6 => ?_)
  refine vp_callSi (va_Run.run (va_runS (As := [.ref (ad (ch + 2)), .int r_6]) (rest := []) ⟨hx, hb, hml, hown, hts⟩ (c_X2_toldOrZero l D y Ls ad G (ch + 2) 40 ha hc2 ec2 (by decide) (by decide) r_6) (va_cwS 2 hts gX2_handlingCents_X2_toldOrZero rfl rfl rfl (by decide +kernel) ⟨Nat.le_of_ble_eq_true rfl, Nat.le_of_ble_eq_true rfl⟩) ⟨Wd_blind, Wd_at hP hK hN⟩ rfl rfl hl.1 rfl (lv_room (Nat.le_of_ble_eq_true rfl)) dX2_handlingCents_9 ⟨Nat.zero_le _, Nat.zero_le _⟩)) (fun r_9 hr_9 => ?_)
  exact W.iret (v := r_9) hx hb hr (fun t ht hW => ⟨r_9, rfl, (by rw [hr_9, hr_6]), ht⟩) (fun q h => by cases h) dX2_handlingCents_12

set_option maxHeartbeats 4000000 in
set_option maxRecDepth 100000 in
/-- Charges.minimumOf -/
theorem c_X2_minimumOf (l : Launch) (D : va_G) (y : Nat → ClassId) (Ls : List Nat) (ad : Nat → Nat) (G : Nat → va_E) (ch : Nat) (st ha mi dO dD dP : Nat → Int32) (nd : Nat) (li ow : Int32) (hC : ChargesAt y Ls ad G ch st ha mi dO dD dP nd li ow) (o : Int32) : Met l yX2_minimumOf wsX2_minimumOf ({ frames := 2, cells := 0, slots := 0, locals := 43 }) (va_Pc [.ref (ad ch), .int o] (Wd D y (wl Ls ad G))) (vp_Si (fun r => r = tZ 8 mi o)) 0 0 (fun _ => False) := by
  refine Met.ofW (cc := cX2_minimumOf) (maxL := 2) (ret := (some .int)) (by decide) rfl ?_
  intro p e s m args below meth c s₁ B hml hv
  obtain ⟨rfl, hP, hK, hN⟩ := hv
  have hx := B.exec
  have hb := B.bytes
  have hr := B.returns
  have hts := atoms_spec (ws := wsX2_minimumOf) B.pre
  have hown : s.vm.findClass RX2 = some m.cls := findClass_of_methodNamed B.named
  have hlocks := B.notSynchronized
  have hinX2 : ∀ w ∈ wsX20, w ∈ wsX2_minimumOf := by decide +kernel
  obtain ⟨⟨hc0, hc1, hc2, hc3, hc4, hc5, hc6⟩, ec0, ec1, ec2, ec3, ec4, ec5, ec6, hnd⟩ := id hC
  have hl := lv_entry ([.ref (ad ch), .int o]) (n := 2) (Nat.le_of_ble_eq_true rfl)
  rw [lg_entry_eq]
  generalize (lg_sl ([.ref (ad ch), .int o]) ++ List.replicate (2 - (lg_sl ([.ref (ad ch), .int o])).length) Slot.unset).toArray = ls at hl ⊢
  have hl : lv_has ls 2 [(0, .ref (ad ch)), (1, .int o)] := hl
  refine lv_aload_n hx hb dX2_minimumOf_0 rfl (lv_at hl 0 rfl) ?_
  refine pv_get (ci := 4) (C := RX2) (T := TX2) (N := 9) hx hb hts hinX2 hown hK hP hc0 ec0 rfl 2 (by decide) (hts (.fieldLink RX2 18 "StorageCharge$Charges" "minimum" "[I") (by decide +kernel)) (fun _ h9 => h9) rfl dX2_minimumOf_1 ?_
  refine lv_iload_n hx hb dX2_minimumOf_4 rfl (lv_at hl 1 rfl) ?_
  refine vp_callSi (va_Run.run (va_runS (As := [.ref (ad (ch + 3)), .int o]) (rest := []) ⟨hx, hb, hml, hown, hts⟩ (c_X2_toldOrZero l D y Ls ad G (ch + 3) 8 mi hc3 ec3 (by decide) (by decide) o) (va_cwS 2 hts gX2_minimumOf_X2_toldOrZero rfl rfl rfl (by decide +kernel) ⟨Nat.le_of_ble_eq_true rfl, Nat.le_of_ble_eq_true rfl⟩) ⟨Wd_blind, Wd_at hP hK hN⟩ rfl rfl hl.1 rfl (lv_room (Nat.le_of_ble_eq_true rfl)) dX2_minimumOf_5 ⟨Nat.zero_le _, Nat.zero_le _⟩)) (fun r_5 hr_5 => ?_)
  exact W.iret (v := r_5) hx hb hr (fun t ht hW => ⟨r_5, rfl, hr_5, ht⟩) (fun q h => by cases h) dX2_minimumOf_8

set_option maxHeartbeats 4000000 in
set_option maxRecDepth 100000 in
/-- Charges.hasDiscount -/
theorem c_X2_hasDiscount (l : Launch) (D : va_G) (y : Nat → ClassId) (Ls : List Nat) (ad : Nat → Nat) (G : Nat → va_E) (ch : Nat) (st ha mi dO dD dP : Nat → Int32) (nd : Nat) (li ow : Int32) (hC : ChargesAt y Ls ad G ch st ha mi dO dD dP nd li ow) (o d : Int32) : Met l yX2_hasDiscount wsX2_hasDiscount ({ frames := 0, cells := 0, slots := 0, locals := 0 }) (va_Pc [.ref (ad ch), .int o, .int d] (Wd D y (wl Ls ad G))) (vp_Si (fun r => (r = 1 ∧ hasD dO dD o d nd) ∨ (r = 0 ∧ ¬ hasD dO dD o d nd))) 0 0 (fun _ => False) := by
  refine Met.ofW (cc := cX2_hasDiscount) (maxL := 4) (ret := (some .boolean)) (by decide) rfl ?_
  intro p e s m args below meth c s₁ B hml hv
  obtain ⟨rfl, hP, hK, hN⟩ := hv
  have hx := B.exec
  have hb := B.bytes
  have hr := B.returns
  have hts := atoms_spec (ws := wsX2_hasDiscount) B.pre
  have hown : s.vm.findClass RX2 = some m.cls := findClass_of_methodNamed B.named
  have hlocks := B.notSynchronized
  have hinX2 : ∀ w ∈ wsX20, w ∈ wsX2_hasDiscount := by decide +kernel
  obtain ⟨⟨hc0, hc1, hc2, hc3, hc4, hc5, hc6⟩, ec0, ec1, ec2, ec3, ec4, ec5, ec6, hnd⟩ := id hC
  have loop2 : ∀ (n : Nat) (i : Nat) (x : Int32), i ≤ nd → nd < i + n → ¬ hasD dO dD o d i → x = nI i → ∀ ls : Array Slot, lv_has ls 4 [(0, .ref (ad ch)), (1, .int o), (2, .int d), (3, .int x)] → W p l e (headSpec wsX2_hasDiscount ({ frames := 0, cells := 0, slots := 0, locals := 0 })).room s m ([.ref (ad ch), .int o, .int d] : List Value).toArray below meth c s.heap [] 0 0 (MQ below (vp_Si (fun r => (r = 1 ∧ hasD dO dD o d nd) ∨ (r = 0 ∧ ¬ hasD dO dD o d nd))) ([.ref (ad ch), .int o, .int d] : List Value).toArray s 0 0 (fun _ => False)) (F0 m 2 ls []) := by
    intro n
    induction n with
    | zero =>
      intro i x hi hn; exact absurd hn (by omega)
    | succ n ih2 =>
      intro i x hi hn hno ei ls hl
      refine lv_iload_n hx hb dX2_hasDiscount_2 rfl (lv_at hl 3 rfl) ?_
      refine lv_aload_n hx hb dX2_hasDiscount_3 rfl (lv_at hl 0 rfl) ?_
      refine pv_get (ci := 4) (C := RX2) (T := TX2) (N := 9) hx hb hts hinX2 hown hK hP hc0 ec0 rfl 6 (by decide) (hts (.fieldLink RX2 30 "StorageCharge$Charges" "discounts" "I") (by decide +kernel)) (fun _ h9 => h9) rfl dX2_hasDiscount_4 ?_
      refine lv_icmp_ge (tgt := 38) hx hb dX2_hasDiscount_7 (by decide) (fun c_7 => ?_) (fun c_7 => ?_)
      · refine lv_iconst (v := 0) hx hb dX2_hasDiscount_38 (by decide) ?_
        exact W.zret (v := 0) hx hb hr (by first | rfl | decide | (simp [narrow]; done) | assumption) (fun t ht hW => ⟨0, rfl, Or.inr ⟨rfl, by have h8 := Nat.le_of_not_lt (fun h : i < nd => absurd c_7 (by rw [ei]; exact nI_ge h (by omega))); rwa [show nd = i by omega]⟩, ht⟩) (fun q h => by cases h) dX2_hasDiscount_39
      · have hlt : i < nd := Nat.lt_of_not_le fun h => c_7 (by rw [ei]; exact nI_le h (by omega))
        refine lv_aload_n hx hb dX2_hasDiscount_10 rfl (lv_at hl 0 rfl) ?_
        refine pv_get (ci := 4) (C := RX2) (T := TX2) (N := 9) hx hb hts hinX2 hown hK hP hc0 ec0 rfl 3 (by decide) (hts (.fieldLink RX2 21 "StorageCharge$Charges" "discountOwners" "[I") (by decide +kernel)) (fun _ h9 => h9) rfl dX2_hasDiscount_11 ?_
        refine lv_iload_n hx hb dX2_hasDiscount_14 rfl (lv_at hl 3 rfl) ?_
        refine pv_iald hx hb hK hP hc4 0 ec4 rfl (k := i) ei (by omega) (by decide) dX2_hasDiscount_15 ?_
        refine lv_iload_n hx hb dX2_hasDiscount_16 rfl (lv_at hl 1 rfl) ?_
        refine lv_icmp_ne (tgt := 32) hx hb dX2_hasDiscount_17 (by decide) (fun c_17 => ?_) (fun c_17 => ?_)
        · obtain ⟨x_32, ex_32⟩ : ∃ y9 : Int32, y9 = x + 1 := ⟨_, rfl⟩
          refine lv_iinc (v := x_32) (lv' := [(3, .int x_32), (0, .ref (ad ch)), (1, .int o), (2, .int d)]) hx hb dX2_hasDiscount_32 hl (k := 3) rfl (by rw [ex_32]; rfl) (by decide) rfl (fun ls hl => ?_)
          refine lv_goto (tgt := 2) hx hb dX2_hasDiscount_35 (by decide) ?_
          exact ih2 (i + 1) x_32 (by omega) (by omega) (hasD_step hno (fun h => by first | exact c_17 h.1 | exact c_27 h.2)) (by rw [ex_32, ei]; exact nI_1 i) ls (lv_sub hl [1, 2, 3, 0] rfl)
        · refine lv_aload_n hx hb dX2_hasDiscount_20 rfl (lv_at hl 0 rfl) ?_
          refine pv_get (ci := 4) (C := RX2) (T := TX2) (N := 9) hx hb hts hinX2 hown hK hP hc0 ec0 rfl 4 (by decide) (hts (.fieldLink RX2 24 "StorageCharge$Charges" "discountDays" "[I") (by decide +kernel)) (fun _ h9 => h9) rfl dX2_hasDiscount_21 ?_
          refine lv_iload_n hx hb dX2_hasDiscount_24 rfl (lv_at hl 3 rfl) ?_
          refine pv_iald hx hb hK hP hc5 0 ec5 rfl (k := i) ei (by omega) (by decide) dX2_hasDiscount_25 ?_
          refine lv_iload_n hx hb dX2_hasDiscount_26 rfl (lv_at hl 2 rfl) ?_
          refine lv_icmp_ne (tgt := 32) hx hb dX2_hasDiscount_27 (by decide) (fun c_27 => ?_) (fun c_27 => ?_)
          · obtain ⟨x_32, ex_32⟩ : ∃ y9 : Int32, y9 = x + 1 := ⟨_, rfl⟩
            refine lv_iinc (v := x_32) (lv' := [(3, .int x_32), (0, .ref (ad ch)), (1, .int o), (2, .int d)]) hx hb dX2_hasDiscount_32 hl (k := 3) rfl (by rw [ex_32]; rfl) (by decide) rfl (fun ls hl => ?_)
            refine lv_goto (tgt := 2) hx hb dX2_hasDiscount_35 (by decide) ?_
            exact ih2 (i + 1) x_32 (by omega) (by omega) (hasD_step hno (fun h => by first | exact c_17 h.1 | exact c_27 h.2)) (by rw [ex_32, ei]; exact nI_1 i) ls (lv_sub hl [1, 2, 3, 0] rfl)
          · refine lv_iconst (v := 1) hx hb dX2_hasDiscount_30 (by decide) ?_
            exact W.zret (v := 1) hx hb hr (by first | rfl | decide | (simp [narrow]; done) | assumption) (fun t ht hW => ⟨1, rfl, Or.inl ⟨rfl, i, hlt, c_17, c_27⟩, ht⟩) (fun q h => by cases h) dX2_hasDiscount_31
  have hl := lv_entry ([.ref (ad ch), .int o, .int d]) (n := 4) (Nat.le_of_ble_eq_true rfl)
  rw [lg_entry_eq]
  generalize (lg_sl ([.ref (ad ch), .int o, .int d]) ++ List.replicate (4 - (lg_sl ([.ref (ad ch), .int o, .int d])).length) Slot.unset).toArray = ls at hl ⊢
  have hl : lv_has ls 4 [(0, .ref (ad ch)), (1, .int o), (2, .int d)] := hl
  refine lv_iconst (v := 0) hx hb dX2_hasDiscount_0 (by decide) ?_
  refine lv_istore_n (lv' := [(3, .int 0), (0, .ref (ad ch)), (1, .int o), (2, .int d)]) hx hb dX2_hasDiscount_1 rfl hl (by decide) rfl (fun ls hl => ?_)
  exact loop2 61 0 0 (by omega) (by omega) (fun h => by obtain ⟨i, h1, -⟩ := h; omega) rfl ls (lv_sub hl [1, 2, 3, 0] rfl)

set_option maxHeartbeats 4000000 in
set_option maxRecDepth 100000 in
/-- Charges.percentFor -/
theorem c_X2_percentFor (l : Launch) (D : va_G) (y : Nat → ClassId) (Ls : List Nat) (ad : Nat → Nat) (G : Nat → va_E) (ch : Nat) (st ha mi dO dD dP : Nat → Int32) (nd : Nat) (li ow : Int32) (hC : ChargesAt y Ls ad G ch st ha mi dO dD dP nd li ow) (o ud : Int32) : Met l yX2_percentFor wsX2_percentFor ({ frames := 1, cells := 0, slots := 0, locals := 22 }) (va_Pc [.ref (ad ch), .int o, .int ud] (Wd D y (wl Ls ad G))) (vp_Si (fun r => r = (pF dO dD dP o ud nd).2)) 0 0 (fun _ => False) := by
  refine Met.ofW (cc := cX2_percentFor) (maxL := 6) (ret := (some .int)) (by decide) rfl ?_
  intro p e s m args below meth c s₁ B hml hv
  obtain ⟨rfl, hP, hK, hN⟩ := hv
  have hx := B.exec
  have hb := B.bytes
  have hr := B.returns
  have hts := atoms_spec (ws := wsX2_percentFor) B.pre
  have hown : s.vm.findClass RX2 = some m.cls := findClass_of_methodNamed B.named
  have hlocks := B.notSynchronized
  have hinX2 : ∀ w ∈ wsX20, w ∈ wsX2_percentFor := by decide +kernel
  obtain ⟨⟨hc0, hc1, hc2, hc3, hc4, hc5, hc6⟩, ec0, ec1, ec2, ec3, ec4, ec5, ec6, hnd⟩ := id hC
  have loop8 : ∀ (n : Nat) (i : Nat) (a b x : Int32), i ≤ nd → nd < i + n → (a, b) = pF dO dD dP o ud i → x = nI i → ∀ ls : Array Slot, lv_has ls 6 [(0, .ref (ad ch)), (1, .int o), (2, .int ud), (3, .int a), (4, .int b), (5, .int x)] → W p l e (headSpec wsX2_percentFor ({ frames := 1, cells := 0, slots := 0, locals := 22 })).room s m ([.ref (ad ch), .int o, .int ud] : List Value).toArray below meth c s.heap [] 0 0 (MQ below (vp_Si (fun r => r = (pF dO dD dP o ud nd).2)) ([.ref (ad ch), .int o, .int ud] : List Value).toArray s 0 0 (fun _ => False)) (F0 m 8 ls []) := by
    intro n
    induction n with
    | zero =>
      intro i a b x hi hn; exact absurd hn (by omega)
    | succ n ih8 =>
      intro i a b x hi hn eab ei ls hl
      refine lv_iload hx hb dX2_percentFor_8 (lv_at hl 5 rfl) ?_
      refine lv_aload_n hx hb dX2_percentFor_10 rfl (lv_at hl 0 rfl) ?_
      refine pv_get (ci := 4) (C := RX2) (T := TX2) (N := 9) hx hb hts hinX2 hown hK hP hc0 ec0 rfl 6 (by decide) (hts (.fieldLink RX2 30 "StorageCharge$Charges" "discounts" "I") (by decide +kernel)) (fun _ h9 => h9) rfl dX2_percentFor_11 ?_
      refine lv_icmp_ge (tgt := 66) hx hb dX2_percentFor_14 (by decide) (fun c_14 => ?_) (fun c_14 => ?_)
      · refine lv_iload hx hb dX2_percentFor_66 (lv_at hl 4 rfl) ?_
        exact W.iret (v := b) hx hb hr (fun t ht hW => ⟨b, rfl, (by have h8 := Nat.le_of_not_lt (fun h : i < nd => absurd c_14 (by rw [ei]; exact nI_ge h (by omega))); rw [show nd = i by omega, ← eab]), ht⟩) (fun q h => by cases h) dX2_percentFor_68
      · have hlt : i < nd := Nat.lt_of_not_le fun h => c_14 (by rw [ei]; exact nI_le h (by omega))
        refine lv_aload_n hx hb dX2_percentFor_17 rfl (lv_at hl 0 rfl) ?_
        refine pv_get (ci := 4) (C := RX2) (T := TX2) (N := 9) hx hb hts hinX2 hown hK hP hc0 ec0 rfl 3 (by decide) (hts (.fieldLink RX2 21 "StorageCharge$Charges" "discountOwners" "[I") (by decide +kernel)) (fun _ h9 => h9) rfl dX2_percentFor_18 ?_
        refine lv_iload hx hb dX2_percentFor_21 (lv_at hl 5 rfl) ?_
        refine pv_iald hx hb hK hP hc4 0 ec4 rfl (k := i) ei (by omega) (by decide) dX2_percentFor_23 ?_
        refine lv_iload_n hx hb dX2_percentFor_24 rfl (lv_at hl 1 rfl) ?_
        refine lv_icmp_ne (tgt := 60) hx hb dX2_percentFor_25 (by decide) (fun c_25 => ?_) (fun c_25 => ?_)
        · obtain ⟨x_60, ex_60⟩ : ∃ y9 : Int32, y9 = x + 1 := ⟨_, rfl⟩
          refine lv_iinc (v := x_60) (lv' := [(5, .int x_60), (0, .ref (ad ch)), (1, .int o), (2, .int ud), (3, .int a), (4, .int b)]) hx hb dX2_percentFor_60 hl (k := 5) rfl (by rw [ex_60]; rfl) (by decide) rfl (fun ls hl => ?_)
          refine lv_goto (tgt := 8) hx hb dX2_percentFor_63 (by decide) ?_
          exact ih8 (i + 1) a b x_60 (by omega) (by omega) (by rw [pF, if_neg (by first | exact fun h => c_25 h.1 | exact fun h => hw h.2), eab]) (by rw [ex_60, ei]; exact nI_1 i) ls (lv_sub hl [1, 2, 3, 4, 5, 0] rfl)
        · refine lv_aload_n hx hb dX2_percentFor_28 rfl (lv_at hl 0 rfl) ?_
          refine pv_get (ci := 4) (C := RX2) (T := TX2) (N := 9) hx hb hts hinX2 hown hK hP hc0 ec0 rfl 4 (by decide) (hts (.fieldLink RX2 24 "StorageCharge$Charges" "discountDays" "[I") (by decide +kernel)) (fun _ h9 => h9) rfl dX2_percentFor_29 ?_
          refine lv_iload hx hb dX2_percentFor_32 (lv_at hl 5 rfl) ?_
          refine pv_iald hx hb hK hP hc5 0 ec5 rfl (k := i) ei (by omega) (by decide) dX2_percentFor_34 ?_
          refine lv_iload_n hx hb dX2_percentFor_35 rfl (lv_at hl 3 rfl) ?_
          refine lv_iload_n hx hb dX2_percentFor_36 rfl (lv_at hl 2 rfl) ?_
          refine vp_callSi (va_Run.run (va_runSN (As := [.int (dD i), .int a, .int ud]) (rest := []) ⟨hx, hb, hml, hown, hts⟩ (c_X7_isWithin l (dD i) a ud) ⟨va_cnB 3 hts gX2_percentFor_X7_isWithin_n49 rfl rfl rfl (hN (.methodLinkNest RX2 49 yX7_isWithin "StorageCharge") (by decide +kernel)) (hts (.initialized RX7) (by decide +kernel)) (by decide +kernel) ⟨Nat.le_of_ble_eq_true rfl, Nat.le_of_ble_eq_true rfl⟩, hts (.static yX7_isWithin) (by decide +kernel), trivial⟩ ⟨fun _ _ _ _ q => q, fun U hU hW => ⟨rfl, trivial⟩⟩ rfl rfl hl.1 rfl (lv_room (Nat.le_of_ble_eq_true rfl)) dX2_percentFor_37 ⟨Nat.zero_le _, Nat.zero_le _⟩)) (fun r_37 hr_37 => ?_)
          refine lv_if_eq (tgt := 60) hx hb dX2_percentFor_40 (by decide) (fun c_40 => ?_) (fun c_40 => ?_)
          · have hw : ¬ ((pF dO dD dP o ud i).1 ≤ dD i ∧ dD i ≤ ud) := by
              rw [← eab]; exact wI_eq0.mp (by rw [← hr_37]; exact c_40)
            obtain ⟨x_60, ex_60⟩ : ∃ y9 : Int32, y9 = x + 1 := ⟨_, rfl⟩
            refine lv_iinc (v := x_60) (lv' := [(5, .int x_60), (0, .ref (ad ch)), (1, .int o), (2, .int ud), (3, .int a), (4, .int b)]) hx hb dX2_percentFor_60 hl (k := 5) rfl (by rw [ex_60]; rfl) (by decide) rfl (fun ls hl => ?_)
            refine lv_goto (tgt := 8) hx hb dX2_percentFor_63 (by decide) ?_
            exact ih8 (i + 1) a b x_60 (by omega) (by omega) (by rw [pF, if_neg (by first | exact fun h => c_25 h.1 | exact fun h => hw h.2), eab]) (by rw [ex_60, ei]; exact nI_1 i) ls (lv_sub hl [1, 2, 3, 4, 5, 0] rfl)
          · have hw : (pF dO dD dP o ud i).1 ≤ dD i ∧ dD i ≤ ud := by
              rw [← eab]; exact Decidable.byContradiction fun h => c_40 (by rw [hr_37]; exact wI_eq0.mpr h)
            refine lv_aload_n hx hb dX2_percentFor_43 rfl (lv_at hl 0 rfl) ?_
            refine pv_get (ci := 4) (C := RX2) (T := TX2) (N := 9) hx hb hts hinX2 hown hK hP hc0 ec0 rfl 4 (by decide) (hts (.fieldLink RX2 24 "StorageCharge$Charges" "discountDays" "[I") (by decide +kernel)) (fun _ h9 => h9) rfl dX2_percentFor_44 ?_
            refine lv_iload hx hb dX2_percentFor_47 (lv_at hl 5 rfl) ?_
            refine pv_iald hx hb hK hP hc5 0 ec5 rfl (k := i) ei (by omega) (by decide) dX2_percentFor_49 ?_
            refine lv_topi (fun a1 ea1 => ?_)
            refine lv_istore_n (lv' := [(3, .int a1), (0, .ref (ad ch)), (1, .int o), (2, .int ud), (4, .int b), (5, .int x)]) hx hb dX2_percentFor_50 rfl hl (by decide) rfl (fun ls hl => ?_)
            refine lv_aload_n hx hb dX2_percentFor_51 rfl (lv_at hl 1 rfl) ?_
            refine pv_get (ci := 4) (C := RX2) (T := TX2) (N := 9) hx hb hts hinX2 hown hK hP hc0 ec0 rfl 5 (by decide) (hts (.fieldLink RX2 27 "StorageCharge$Charges" "discountPercents" "[I") (by decide +kernel)) (fun _ h9 => h9) rfl dX2_percentFor_52 ?_
            refine lv_iload hx hb dX2_percentFor_55 (lv_at hl 5 rfl) ?_
            refine pv_iald hx hb hK hP hc6 0 ec6 rfl (k := i) ei (by omega) (by decide) dX2_percentFor_57 ?_
            refine lv_topi (fun p1 ep1 => ?_)
            refine lv_istore (lv' := [(4, .int p1), (3, .int a1), (0, .ref (ad ch)), (1, .int o), (2, .int ud), (5, .int x)]) hx hb dX2_percentFor_58 hl (by decide) rfl (fun ls hl => ?_)
            obtain ⟨x_60, ex_60⟩ : ∃ y9 : Int32, y9 = x + 1 := ⟨_, rfl⟩
            refine lv_iinc (v := x_60) (lv' := [(5, .int x_60), (4, .int p1), (3, .int a1), (0, .ref (ad ch)), (1, .int o), (2, .int ud)]) hx hb dX2_percentFor_60 hl (k := 5) rfl (by rw [ex_60]; rfl) (by decide) rfl (fun ls hl => ?_)
            refine lv_goto (tgt := 8) hx hb dX2_percentFor_63 (by decide) ?_
            exact ih8 (i + 1) a1 p1 x_60 (by omega) (by omega) (by rw [pF, if_pos ⟨c_25, hw⟩, ea1, ep1]) (by rw [ex_60, ei]; exact nI_1 i) ls (lv_sub hl [3, 4, 5, 2, 1, 0] rfl)
  have hl := lv_entry ([.ref (ad ch), .int o, .int ud]) (n := 6) (Nat.le_of_ble_eq_true rfl)
  rw [lg_entry_eq]
  generalize (lg_sl ([.ref (ad ch), .int o, .int ud]) ++ List.replicate (6 - (lg_sl ([.ref (ad ch), .int o, .int ud])).length) Slot.unset).toArray = ls at hl ⊢
  have hl : lv_has ls 6 [(0, .ref (ad ch)), (1, .int o), (2, .int ud)] := hl
  refine lv_iconst (v := 0) hx hb dX2_percentFor_0 (by decide) ?_
  refine lv_istore_n (lv' := [(3, .int 0), (0, .ref (ad ch)), (1, .int o), (2, .int ud)]) hx hb dX2_percentFor_1 rfl hl (by decide) rfl (fun ls hl => ?_)
  refine lv_iconst (v := 0) hx hb dX2_percentFor_2 (by decide) ?_
  refine lv_istore (lv' := [(4, .int 0), (3, .int 0), (0, .ref (ad ch)), (1, .int o), (2, .int ud)]) hx hb dX2_percentFor_3 hl (by decide) rfl (fun ls hl => ?_)
  refine lv_iconst (v := 0) hx hb dX2_percentFor_5 (by decide) ?_
  refine lv_istore (lv' := [(5, .int 0), (4, .int 0), (3, .int 0), (0, .ref (ad ch)), (1, .int o), (2, .int ud)]) hx hb dX2_percentFor_6 hl (by decide) rfl (fun ls hl => ?_)
  exact loop8 (nd + 1) 0 0 0 0 (by omega) (by omega) rfl rfl ls (lv_sub hl [3, 4, 5, 2, 1, 0] rfl)
