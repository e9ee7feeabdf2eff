/-! the text -/
def TextAt (y : Nat → ClassId) (Ls : List Nat) (ad : Nat → Nat) (G : Nat → va_E) (f : Nat → Int32) (len pl : Nat) : Prop :=
  1 ∈ Ls ∧ 2 ∈ Ls ∧ G 1 = .inr (7, [.ref (ad 2), .int (nI len), .int (nI pl)]) ∧ G 2 = .inl (y 1, 400, .inl f) ∧ len ≤ 400 ∧ pl ≤ len ∧ ∀ i, i < len → ¬ f i = -1
def nx (f : Nat → Int32) (len pl : Nat) : Int32 := if pl < len then f pl else -1
theorem wI_len {len pl : Nat} (hl : len < 2 ^ 30) (hp : pl < 2 ^ 30) : (0 ≤ nI pl ∧ nI pl ≤ nI len - 1) ↔ pl < len := by
  have h : (nI len - 1).toInt = (len : Int) - 1 := pk_sub_toInt (a := len) (b := 1) hl (by decide)
  constructor
  · intro ⟨_, h2⟩
    have h3 := Int32.le_iff_toInt_le.mp h2
    rw [h, nI_toInt (by omega)] at h3
    omega
  · intro h2
    refine ⟨nI_pos' (by omega), Int32.le_iff_toInt_le.mpr ?_⟩
    rw [h, nI_toInt (by omega)]
    omega
def ch16 (c : Int32) : Int32 := vp_nar .char ((c.toUInt32 % 65536).toInt32)

set_option maxHeartbeats 4000000 in
set_option maxRecDepth 100000 in
/-- Text.isFull -/
theorem c_X5_isFull (l : Launch) (D : va_G) (y : Nat → ClassId) (Ls : List Nat) (ad : Nat → Nat) (G : Nat → va_E) (f : Nat → Int32) (len pl : Nat) (hTx : TextAt y Ls ad G f len pl) : Met l yX5_isFull wsX5_isFull ({ frames := 0, cells := 0, slots := 0, locals := 0 }) (va_Pc [.ref (ad 1)] (Wd D y (wl Ls ad G))) (vp_Si (fun r => r = if 400 ≤ len then 1 else 0)) 0 0 (fun _ => False) := by
  refine Met.ofW (cc := cX5_isFull) (maxL := 1) (ret := (some .boolean)) (by decide) rfl ?_
  intro p e s m args below meth c s₁ B hml hv
  obtain ⟨rfl, hP, hK, hN⟩ := hv
  have hx := B.exec
  have hb := B.bytes
  have hr := B.returns
  have hts := atoms_spec (ws := wsX5_isFull) B.pre
  have hown : s.vm.findClass RX5 = some m.cls := findClass_of_methodNamed B.named
  have hlocks := B.notSynchronized
  have hinX5 : ∀ w ∈ wsX50, w ∈ wsX5_isFull := by decide +kernel
  obtain ⟨ht1, ht2, et1, et2, hlen, hpl, hne⟩ := id hTx
  have hl := lv_entry ([.ref (ad 1)]) (n := 1) (Nat.le_of_ble_eq_true rfl)
  rw [lg_entry_eq]
  generalize (lg_sl ([.ref (ad 1)]) ++ List.replicate (1 - (lg_sl ([.ref (ad 1)])).length) Slot.unset).toArray = ls at hl ⊢
  have hl : lv_has ls 1 [(0, .ref (ad 1))] := hl
  refine lv_aload_n hx hb dX5_isFull_0 rfl (lv_at hl 0 rfl) ?_
  refine pv_get (ci := 7) (C := RX5) (T := TX5) (N := 3) hx hb hts hinX5 hown hK hP ht1 et1 rfl 1 (by decide) (hts (.fieldLink RX5 15 "StorageCharge$Text" "length" "I") (by decide +kernel)) (fun _ h9 => h9) rfl dX5_isFull_1 ?_
  refine lv_aload_n hx hb dX5_isFull_4 rfl (lv_at hl 0 rfl) ?_
  refine pv_get (ci := 7) (C := RX5) (T := TX5) (N := 3) hx hb hts hinX5 hown hK hP ht1 et1 rfl 0 (by decide) (hts (.fieldLink RX5 9 "StorageCharge$Text" "signs" "[C") (by decide +kernel)) (fun _ h9 => h9) rfl dX5_isFull_5 ?_
  refine pv_alen (n := 400) hx hb hK hP ht2 1 et2 rfl rfl dX5_isFull_8 ?_
  refine lv_icmp_lt (tgt := 16) hx hb dX5_isFull_9 (by decide) (fun c_9 => ?_) (fun c_9 => ?_)
  · refine lv_iconst (v := 0) hx hb dX5_isFull_16 (by decide) ?_
    exact W.zret (v := 0) hx hb hr (by first | rfl | decide | (simp [narrow]; done) | assumption) (fun t ht hW => ⟨0, rfl, (by rw [if_neg]; intro h; exact absurd c_9 (nI_nlt h (by omega))), ht⟩) (fun q h => by cases h) dX5_isFull_17
  · refine lv_iconst (v := 1) hx hb dX5_isFull_12 (by decide) ?_
    refine lv_goto (tgt := 17) hx hb dX5_isFull_13 (by decide) ?_
    exact W.zret (v := 1) hx hb hr (by first | rfl | decide | (simp [narrow]; done) | assumption) (fun t ht hW => ⟨1, rfl, (by rw [if_pos]; exact Nat.le_of_not_lt (fun h => c_9 (nI_lt h (by decide)))), ht⟩) (fun q h => by cases h) dX5_isFull_17

set_option maxHeartbeats 4000000 in
set_option maxRecDepth 100000 in
/-- Text.isRead -/
theorem c_X5_isRead (l : Launch) (D : va_G) (y : Nat → ClassId) (Ls : List Nat) (ad : Nat → Nat) (G : Nat → va_E) (f : Nat → Int32) (len pl : Nat) (hTx : TextAt y Ls ad G f len pl) : Met l yX5_isRead wsX5_isRead ({ frames := 0, cells := 0, slots := 0, locals := 0 }) (va_Pc [.ref (ad 1)] (Wd D y (wl Ls ad G))) (vp_Si (fun r => r = if len ≤ pl then 1 else 0)) 0 0 (fun _ => False) := by
  refine Met.ofW (cc := cX5_isRead) (maxL := 1) (ret := (some .boolean)) (by decide) rfl ?_
  intro p e s m args below meth c s₁ B hml hv
  obtain ⟨rfl, hP, hK, hN⟩ := hv
  have hx := B.exec
  have hb := B.bytes
  have hr := B.returns
  have hts := atoms_spec (ws := wsX5_isRead) B.pre
  have hown : s.vm.findClass RX5 = some m.cls := findClass_of_methodNamed B.named
  have hlocks := B.notSynchronized
  have hinX5 : ∀ w ∈ wsX50, w ∈ wsX5_isRead := by decide +kernel
  obtain ⟨ht1, ht2, et1, et2, hlen, hpl, hne⟩ := id hTx
  have hl := lv_entry ([.ref (ad 1)]) (n := 1) (Nat.le_of_ble_eq_true rfl)
  rw [lg_entry_eq]
  generalize (lg_sl ([.ref (ad 1)]) ++ List.replicate (1 - (lg_sl ([.ref (ad 1)])).length) Slot.unset).toArray = ls at hl ⊢
  have hl : lv_has ls 1 [(0, .ref (ad 1))] := hl
  refine lv_aload_n hx hb dX5_isRead_0 rfl (lv_at hl 0 rfl) ?_
  refine pv_get (ci := 7) (C := RX5) (T := TX5) (N := 3) hx hb hts hinX5 hown hK hP ht1 et1 rfl 2 (by decide) (hts (.fieldLink RX5 19 "StorageCharge$Text" "place" "I") (by decide +kernel)) (fun _ h9 => h9) rfl dX5_isRead_1 ?_
  refine lv_aload_n hx hb dX5_isRead_4 rfl (lv_at hl 0 rfl) ?_
  refine pv_get (ci := 7) (C := RX5) (T := TX5) (N := 3) hx hb hts hinX5 hown hK hP ht1 et1 rfl 1 (by decide) (hts (.fieldLink RX5 15 "StorageCharge$Text" "length" "I") (by decide +kernel)) (fun _ h9 => h9) rfl dX5_isRead_5 ?_
  refine lv_icmp_lt (tgt := 15) hx hb dX5_isRead_8 (by decide) (fun c_8 => ?_) (fun c_8 => ?_)
  · refine lv_iconst (v := 0) hx hb dX5_isRead_15 (by decide) ?_
    exact W.zret (v := 0) hx hb hr (by first | rfl | decide | (simp [narrow]; done) | assumption) (fun t ht hW => ⟨0, rfl, (by rw [if_neg]; intro h; exact absurd c_8 (nI_nlt h (by omega))), ht⟩) (fun q h => by cases h) dX5_isRead_16
  · refine lv_iconst (v := 1) hx hb dX5_isRead_11 (by decide) ?_
    refine lv_goto (tgt := 16) hx hb dX5_isRead_12 (by decide) ?_
    exact W.zret (v := 1) hx hb hr (by first | rfl | decide | (simp [narrow]; done) | assumption) (fun t ht hW => ⟨1, rfl, (by rw [if_pos]; exact Nat.le_of_not_lt (fun h => c_8 (nI_lt h (by omega)))), ht⟩) (fun q h => by cases h) dX5_isRead_16

set_option maxHeartbeats 4000000 in
set_option maxRecDepth 100000 in
/-- Text.nextSign -/
theorem c_X5_nextSign (l : Launch) (D : va_G) (y : Nat → ClassId) (Ls : List Nat) (ad : Nat → Nat) (G : Nat → va_E) (f : Nat → Int32) (len pl : Nat) (hTx : TextAt y Ls ad G f len pl) : Met l yX5_nextSign wsX5_nextSign ({ frames := 1, cells := 0, slots := 0, locals := 22 }) (va_Pc [.ref (ad 1)] (Wd D y (wl Ls ad G))) (vp_Si (fun r => r = nx f len pl)) 0 0 (fun _ => False) := by
  refine Met.ofW (cc := cX5_nextSign) (maxL := 1) (ret := (some .int)) (by decide) rfl ?_
  intro p e s m args below meth c s₁ B hml hv
  obtain ⟨rfl, hP, hK, hN⟩ := hv
  have hx := B.exec
  have hb := B.bytes
  have hr := B.returns
  have hts := atoms_spec (ws := wsX5_nextSign) B.pre
  have hown : s.vm.findClass RX5 = some m.cls := findClass_of_methodNamed B.named
  have hlocks := B.notSynchronized
  have hinX5 : ∀ w ∈ wsX50, w ∈ wsX5_nextSign := by decide +kernel
  obtain ⟨ht1, ht2, et1, et2, hlen, hpl, hne⟩ := id hTx
  have hl := lv_entry ([.ref (ad 1)]) (n := 1) (Nat.le_of_ble_eq_true rfl)
  rw [lg_entry_eq]
  generalize (lg_sl ([.ref (ad 1)]) ++ List.replicate (1 - (lg_sl ([.ref (ad 1)])).length) Slot.unset).toArray = ls at hl ⊢
  have hl : lv_has ls 1 [(0, .ref (ad 1))] := hl
  refine lv_aload_n hx hb dX5_nextSign_0 rfl (lv_at hl 0 rfl) ?_
  refine pv_get (ci := 7) (C := RX5) (T := TX5) (N := 3) hx hb hts hinX5 hown hK hP ht1 et1 rfl 2 (by decide) (hts (.fieldLink RX5 19 "StorageCharge$Text" "place" "I") (by decide +kernel)) (fun _ h9 => h9) rfl dX5_nextSign_1 ?_
  refine lv_iconst (v := 0) hx hb dX5_nextSign_4 (by decide) ?_
  refine lv_aload_n hx hb dX5_nextSign_5 rfl (lv_at hl 0 rfl) ?_
  refine pv_get (ci := 7) (C := RX5) (T := TX5) (N := 3) hx hb hts hinX5 hown hK hP ht1 et1 rfl 1 (by decide) (hts (.fieldLink RX5 15 "StorageCharge$Text" "length" "I") (by decide +kernel)) (fun _ h9 => h9) rfl dX5_nextSign_6 ?_
  refine lv_iconst (v := 1) hx hb dX5_nextSign_9 (by decide) ?_
  refine lv_isub hx hb dX5_nextSign_10 ?_
  refine vp_callSi (va_Run.run (va_runSN (As := [.int (nI pl), .int 0, .int ((nI len) - 1)]) (rest := []) ⟨hx, hb, hml, hown, hts⟩ (c_X7_isWithin l (nI pl) 0 (nI len - 1)) ⟨va_cnB 3 hts gX5_nextSign_X7_isWithin_n26 rfl rfl rfl (hN (.methodLinkNest RX5 26 yX7_isWithin "StorageCharge") (by decide +kernel)) (hts (.initialized RX7) (by decide +kernel)) (by decide +kernel) ⟨Nat.le_of_ble_eq_true rfl, Nat.le_of_ble_eq_true rfl⟩, hts (.static yX7_isWithin) (by decide +kernel), trivial⟩ ⟨fun _ _ _ _ q => q, fun U hU hW => ⟨rfl, trivial⟩⟩ rfl rfl hl.1 rfl (lv_room (Nat.le_of_ble_eq_true rfl)) dX5_nextSign_11 ⟨Nat.zero_le _, Nat.zero_le _⟩)) (fun r_11 hr_11 => ?_)
  refine lv_if_eq (tgt := 29) hx hb dX5_nextSign_14 (by decide) (fun c_14 => ?_) (fun c_14 => ?_)
  · have hge : ¬ pl < len := fun h => wI_eq0.mp (by rw [← hr_11]; exact c_14) ((wI_len (by omega) (by omega)).mpr h)
    refine lv_iconst (v := (-1)) hx hb dX5_nextSign_29 (by decide) ?_
    exact W.iret (v := (-1)) hx hb hr (fun t ht hW => ⟨(-1), rfl, (by rw [nx, if_neg hge]), ht⟩) (fun q h => by cases h) dX5_nextSign_30
  · have hlt : pl < len := (wI_len (by omega) (by omega)).mp (Decidable.byContradiction fun h => c_14 (by rw [hr_11]; exact wI_eq0.mpr h))
    refine lv_aload_n hx hb dX5_nextSign_17 rfl (lv_at hl 0 rfl) ?_
    refine pv_get (ci := 7) (C := RX5) (T := TX5) (N := 3) hx hb hts hinX5 hown hK hP ht1 et1 rfl 0 (by decide) (hts (.fieldLink RX5 9 "StorageCharge$Text" "signs" "[C") (by decide +kernel)) (fun _ h9 => h9) rfl dX5_nextSign_18 ?_
    refine lv_aload_n hx hb dX5_nextSign_21 rfl (lv_at hl 0 rfl) ?_
    refine pv_get (ci := 7) (C := RX5) (T := TX5) (N := 3) hx hb hts hinX5 hown hK hP ht1 et1 rfl 2 (by decide) (hts (.fieldLink RX5 19 "StorageCharge$Text" "place" "I") (by decide +kernel)) (fun _ h9 => h9) rfl dX5_nextSign_22 ?_
    refine pv_cald hx hb hK hP ht2 1 et2 rfl (k := pl) rfl (by omega) (by decide) dX5_nextSign_25 ?_
    refine lv_goto (tgt := 30) hx hb dX5_nextSign_26 (by decide) ?_
    exact W.iret (v := f pl) hx hb hr (fun t ht hW => ⟨f pl, rfl, (by rw [nx, if_pos hlt]), ht⟩) (fun q h => by cases h) dX5_nextSign_30

set_option maxHeartbeats 4000000 in
set_option maxRecDepth 100000 in
/-- Text.clear -/
theorem c_X5_clear (l : Launch) (hl0 : l.stackTraces = false) (D : va_G) (y : Nat → ClassId) (b0 : Nat) (Ls : List Nat) (ad : Nat → Nat) (G : Nat → va_E) (f : Nat → Int32) (len pl : Nat) (hTx : TextAt y Ls ad G f len pl) : Met l yX5_clear wsX5_clear ({ frames := 0, cells := 0, slots := 0, locals := 0 }) (va_Pc [.ref (ad 1)] (WdM D y b0 (wl Ls ad G))) (va_Qv (fun (u : va_W) => ∃ G2, u = wl Ls ad G2 ∧ TextAt y Ls ad G2 f 0 0 ∧ ∀ j, j ≠ 1 → j ≠ 2 → G2 j = G j) (WB D b0) (fun q => b0 ≤ q)) 0 0 (fun q => b0 ≤ q) := by
  refine Met.ofW (cc := cX5_clear) (maxL := 1) (ret := none) (by decide) rfl ?_
  intro p e s m args below meth c s₁ B hml hv
  obtain ⟨rfl, ⟨hP, hK, hN⟩, hD, hb0, hT⟩ := hv
  have hx := B.exec
  have hb := B.bytes
  have hr := B.returns
  have hts := atoms_spec (ws := wsX5_clear) B.pre
  have hown : s.vm.findClass RX5 = some m.cls := findClass_of_methodNamed B.named
  have hlocks := B.notSynchronized
  have hS : va_S (fun q => b0 ≤ q) s.heap s.heap [] := va_S.rf
  have hinX5 : ∀ w ∈ wsX50, w ∈ wsX5_clear := by decide +kernel
  obtain ⟨ht1, ht2, et1, et2, hlen, hpl, hne⟩ := id hTx
  have hl := lv_entry ([.ref (ad 1)]) (n := 1) (Nat.le_of_ble_eq_true rfl)
  rw [lg_entry_eq]
  generalize (lg_sl ([.ref (ad 1)]) ++ List.replicate (1 - (lg_sl ([.ref (ad 1)])).length) Slot.unset).toArray = ls at hl ⊢
  have hl : lv_has ls 1 [(0, .ref (ad 1))] := hl
  refine lv_aload_n hx hb dX5_clear_0 rfl (lv_at hl 0 rfl) ?_
  refine lv_iconst (v := 0) hx hb dX5_clear_1 (by decide) ?_
  refine lv_topi (fun z9 ez9 => ?_)
  obtain rfl : z9 = nI 0 := ez9.trans (nI_0.symm)
  refine pv_put (ci := 7) (v := .int (nI 0)) (ty := .int) (C := RX5) (T := TX5) (N := 3) hx hb hts hinX5 tyX5 tyX5_ok nmX5 hown hK hP hD hS ht1 et1 rfl 1 (by decide) (hts (.fieldLink RX5 15 "StorageCharge$Text" "length" "I") (by decide +kernel)) (fun _ h9 => h9) rfl (by decide +kernel) rfl rfl (Nat.le_of_ble_eq_true rfl) dX5_clear_2 (fun H locs hP hD hS => ?_)
  obtain ⟨G_2, eG_2⟩ : ∃ gg9 : Nat → va_E, gg9 = va_up G 1 (.inr (7, [.ref (ad 2), .int (nI 0), .int (nI pl)])) := ⟨_, rfl⟩
  have hP : va_P D vwCl (wl Ls ad G_2) H := by rw [eG_2]; exact hP
  have hD : va_D (fun q => b0 ≤ q) (wl Ls ad G_2) := by rw [eG_2]; exact hD
  have et2 : G_2 2 = .inl (y 1, 400, .inl f) := by rw [eG_2, va_up_ne _ _ (by omega)]; exact et2
  have et1 : G_2 1 = .inr (7, [.ref (ad 2), .int (nI 0), .int (nI pl)]) := by rw [eG_2]; exact va_up_self _ _ _
  refine lv_aload_n hx hb dX5_clear_5 rfl (lv_at hl 0 rfl) ?_
  refine lv_iconst (v := 0) hx hb dX5_clear_6 (by decide) ?_
  refine lv_topi (fun z9 ez9 => ?_)
  obtain rfl : z9 = nI 0 := ez9.trans (nI_0.symm)
  refine pv_put (ci := 7) (v := .int (nI 0)) (ty := .int) (C := RX5) (T := TX5) (N := 3) hx hb hts hinX5 tyX5 tyX5_ok nmX5 hown hK hP hD hS ht1 et1 rfl 2 (by decide) (hts (.fieldLink RX5 19 "StorageCharge$Text" "place" "I") (by decide +kernel)) (fun _ h9 => h9) rfl (by decide +kernel) rfl rfl (Nat.le_of_ble_eq_true rfl) dX5_clear_7 (fun H locs hP hD hS => ?_)
  obtain ⟨G_7, eG_7⟩ : ∃ gg9 : Nat → va_E, gg9 = va_up G_2 1 (.inr (7, [.ref (ad 2), .int (nI 0), .int (nI 0)])) := ⟨_, rfl⟩
  have hP : va_P D vwCl (wl Ls ad G_7) H := by rw [eG_7]; exact hP
  have hD : va_D (fun q => b0 ≤ q) (wl Ls ad G_7) := by rw [eG_7]; exact hD
  have et2 : G_7 2 = .inl (y 1, 400, .inl f) := by rw [eG_7, va_up_ne _ _ (by omega)]; exact et2
  have et1 : G_7 1 = .inr (7, [.ref (ad 2), .int (nI 0), .int (nI 0)]) := by rw [eG_7]; exact va_up_self _ _ _
  refine W.widen (k := 0) (n := 0) (Nat.le_of_ble_eq_true rfl) (Nat.le_of_ble_eq_true rfl) ?_
  exact W.vret hx hb hr (fun t ht hW => ⟨⟨wl Ls ad G_7, rfl, ⟨G_7, rfl, ⟨ht1, ht2, et1, et2, (Nat.zero_le _), (Nat.le_refl 0), (fun i h => absurd h (Nat.not_lt_zero i))⟩, fun j h1 h2 => by rw [eG_7, va_up_ne _ _ (by assumption), eG_2, va_up_ne _ _ (by assumption)]⟩, by rw [ht]; exact hP, hD⟩, hS.F ht⟩) hS.2.2 dX5_clear_10

theorem addne {f : Nat → Int32} {len : Nat} {x : Int32} (h : ∀ i, i < len → ¬ f i = -1) (hx : ¬ x = -1) : ∀ i, i < len + 1 → ¬ upd f len x i = -1 := by
  intro i hi
  by_cases e : i = len
  · subst e; rw [pk_us]; exact hx
  · rw [pk_un e]; exact h i (by omega)

set_option maxHeartbeats 4000000 in
set_option maxRecDepth 100000 in
/-- Text.add -/
theorem c_X5_add (l : Launch) (hl0 : l.stackTraces = false) (D : va_G) (y : Nat → ClassId) (b0 : Nat) (Ls : List Nat) (ad : Nat → Nat) (G : Nat → va_E) (f : Nat → Int32) (len pl : Nat) (hTx : TextAt y Ls ad G f len pl) (c0 : Int32) (hroom : len < 400) (hc16 : ¬ ch16 c0 = -1) : Met l yX5_add wsX5_add ({ frames := 1, cells := 0, slots := 0, locals := 20 }) (va_Pc [.ref (ad 1), .int c0] (WdM D y b0 (wl Ls ad G))) (va_Qv (fun (u : va_W) => ∃ G2, u = wl Ls ad G2 ∧ TextAt y Ls ad G2 (upd f len (ch16 c0)) (len + 1) pl ∧ ∀ j, j ≠ 1 → j ≠ 2 → G2 j = G j) (WB D b0) (fun q => b0 ≤ q)) 0 0 (fun q => b0 ≤ q) := by
  refine Met.ofW (cc := cX5_add) (maxL := 2) (ret := none) (by decide) rfl ?_
  intro p e s m args below meth c s₁ B hml hv
  obtain ⟨rfl, ⟨hP, hK, hN⟩, hD, hb0, hT⟩ := hv
  have hx := B.exec
  have hb := B.bytes
  have hr := B.returns
  have hts := atoms_spec (ws := wsX5_add) B.pre
  have hown : s.vm.findClass RX5 = some m.cls := findClass_of_methodNamed B.named
  have hlocks := B.notSynchronized
  have hS : va_S (fun q => b0 ≤ q) s.heap s.heap [] := va_S.rf
  have hinX5 : ∀ w ∈ wsX50, w ∈ wsX5_add := by decide +kernel
  obtain ⟨ht1, ht2, et1, et2, hlen, hpl, hne⟩ := id hTx
  have hl := lv_entry ([.ref (ad 1), .int c0]) (n := 2) (Nat.le_of_ble_eq_true rfl)
  rw [lg_entry_eq]
  generalize (lg_sl ([.ref (ad 1), .int c0]) ++ List.replicate (2 - (lg_sl ([.ref (ad 1), .int c0])).length) Slot.unset).toArray = ls at hl ⊢
  have hl : lv_has ls 2 [(0, .ref (ad 1)), (1, .int c0)] := hl
  refine lv_aload_n hx hb dX5_add_0 rfl (lv_at hl 0 rfl) ?_
  refine vp_callSi (va_Run.run (va_runV (As := []) (rest := []) ⟨hx, hb, hml, hown, hts⟩ (c_X5_isFull l D y Ls ad G f len pl hTx) (cwV 0 hts gX5_add_X5_isFull rfl rfl rfl (by decide +kernel) ⟨Nat.le_of_ble_eq_true rfl, Nat.le_of_ble_eq_true rfl⟩) ⟨Wd_blind, Wd_recv hK hP (ci := 7) rfl ht1 et1, Wd_at hP hK hN⟩ rfl rfl hl.1 rfl (lv_room (Nat.le_of_ble_eq_true rfl)) dX5_add_1 ⟨(Nat.le_of_ble_eq_true rfl), (Nat.le_of_ble_eq_true rfl)⟩)) (fun r_1 hr_1 => ?_)
  refine lv_if_ne (tgt := 28) hx hb dX5_add_4 (by decide) (fun c_4 => ?_) (fun c_4 => ?_)
  · exact absurd (by rw [hr_1, if_neg (by omega)]) c_4
  · refine lv_aload_n hx hb dX5_add_7 rfl (lv_at hl 0 rfl) ?_
    refine pv_get (ci := 7) (C := RX5) (T := TX5) (N := 3) hx hb hts hinX5 hown hK hP ht1 et1 rfl 0 (by decide) (hts (.fieldLink RX5 9 "StorageCharge$Text" "signs" "[C") (by decide +kernel)) (fun _ h9 => h9) rfl dX5_add_8 ?_
    refine lv_aload_n hx hb dX5_add_11 rfl (lv_at hl 0 rfl) ?_
    refine pv_get (ci := 7) (C := RX5) (T := TX5) (N := 3) hx hb hts hinX5 hown hK hP ht1 et1 rfl 1 (by decide) (hts (.fieldLink RX5 15 "StorageCharge$Text" "length" "I") (by decide +kernel)) (fun _ h9 => h9) rfl dX5_add_12 ?_
    refine lv_iload_n hx hb dX5_add_15 rfl (lv_at hl 1 rfl) ?_
    refine lv_i2c hx hb dX5_add_16 rfl ?_
    refine pv_cast hx hb hK hP hD hS ht2 1 et2 rfl (k := len) rfl (by omega) (by decide) dX5_add_17 (fun H locs hP hD hS => ?_)
    obtain ⟨G_17, eG_17⟩ : ∃ gg9 : Nat → va_E, gg9 = va_up G 2 (.inl (y 1, 400, .inl (upd f len (vp_nar .char ((c0.toUInt32 % 65536).toInt32))))) := ⟨_, rfl⟩
    have hP : va_P D vwCl (wl Ls ad G_17) H := by rw [eG_17]; exact hP
    have hD : va_D (fun q => b0 ≤ q) (wl Ls ad G_17) := by rw [eG_17]; exact hD
    have et1 : G_17 1 = .inr (7, [.ref (ad 2), .int (nI len), .int (nI pl)]) := by rw [eG_17, va_up_ne _ _ (by omega)]; exact et1
    have et2 : G_17 2 = .inl (y 1, 400, .inl (upd f len (vp_nar .char ((c0.toUInt32 % 65536).toInt32)))) := by rw [eG_17]; exact va_up_self _ _ _
    refine lv_aload_n hx hb dX5_add_18 rfl (lv_at hl 0 rfl) ?_
    refine lv_dup hx hb dX5_add_19 rfl ?_
    refine pv_get (ci := 7) (C := RX5) (T := TX5) (N := 3) hx hb hts hinX5 hown hK hP ht1 et1 rfl 1 (by decide) (hts (.fieldLink RX5 15 "StorageCharge$Text" "length" "I") (by decide +kernel)) (fun _ h9 => h9) rfl dX5_add_20 ?_
    refine lv_iconst (v := 1) hx hb dX5_add_23 (by decide) ?_
    refine lv_iadd hx hb dX5_add_24 ?_
    refine lv_topi (fun z9 ez9 => ?_)
    obtain rfl : z9 = nI (len + 1) := ez9.trans (nI_1 len)
    refine pv_put (ci := 7) (v := .int (nI (len + 1))) (ty := .int) (C := RX5) (T := TX5) (N := 3) hx hb hts hinX5 tyX5 tyX5_ok nmX5 hown hK hP hD hS ht1 et1 rfl 1 (by decide) (hts (.fieldLink RX5 15 "StorageCharge$Text" "length" "I") (by decide +kernel)) (fun _ h9 => h9) rfl (by decide +kernel) rfl rfl (Nat.le_of_ble_eq_true rfl) dX5_add_25 (fun H locs hP hD hS => ?_)
    obtain ⟨G_25, eG_25⟩ : ∃ gg9 : Nat → va_E, gg9 = va_up G_17 1 (.inr (7, [.ref (ad 2), .int (nI (len + 1)), .int (nI pl)])) := ⟨_, rfl⟩
    have hP : va_P D vwCl (wl Ls ad G_25) H := by rw [eG_25]; exact hP
    have hD : va_D (fun q => b0 ≤ q) (wl Ls ad G_25) := by rw [eG_25]; exact hD
    have et2 : G_25 2 = .inl (y 1, 400, .inl (upd f len (vp_nar .char ((c0.toUInt32 % 65536).toInt32)))) := by rw [eG_25, va_up_ne _ _ (by omega)]; exact et2
    have et1 : G_25 1 = .inr (7, [.ref (ad 2), .int (nI (len + 1)), .int (nI pl)]) := by rw [eG_25]; exact va_up_self _ _ _
    refine W.widen (k := 0) (n := 0) (Nat.le_of_ble_eq_true rfl) (Nat.le_of_ble_eq_true rfl) ?_
    exact W.vret hx hb hr (fun t ht hW => ⟨⟨wl Ls ad G_25, rfl, ⟨G_25, rfl, ⟨ht1, ht2, et1, et2, by omega, by omega, fun i h => addne hne hc16 i h⟩, fun j h1 h2 => by rw [eG_25, va_up_ne _ _ (by assumption), eG_17, va_up_ne _ _ (by assumption)]⟩, by rw [ht]; exact hP, hD⟩, hS.F ht⟩) hS.2.2 dX5_add_28

def nxp (len pl : Nat) : Nat := if pl < len then pl + 1 else pl

set_option maxHeartbeats 4000000 in
set_option maxRecDepth 100000 in
/-- Text.takeSign -/
theorem c_X5_takeSign (l : Launch) (hl0 : l.stackTraces = false) (D : va_G) (y : Nat → ClassId) (b0 : Nat) (Ls : List Nat) (ad : Nat → Nat) (G : Nat → va_E) (f : Nat → Int32) (len pl : Nat) (hTx : TextAt y Ls ad G f len pl) : Met l yX5_takeSign wsX5_takeSign ({ frames := 2, cells := 0, slots := 0, locals := 42 }) (va_Pc [.ref (ad 1)] (WdM D y b0 (wl Ls ad G))) (va_Qi (fun (r : Int32) (u : va_W) => r = nx f len pl ∧ ∃ G2, u = wl Ls ad G2 ∧ TextAt y Ls ad G2 f len (nxp len pl) ∧ ∀ j, j ≠ 1 → j ≠ 2 → G2 j = G j) (WB D b0) (fun q => b0 ≤ q)) 0 0 (fun q => b0 ≤ q) := by
  refine Met.ofW (cc := cX5_takeSign) (maxL := 2) (ret := (some .int)) (by decide) rfl ?_
  intro p e s m args below meth c s₁ B hml hv
  obtain ⟨rfl, ⟨hP, hK, hN⟩, hD, hb0, hT⟩ := hv
  have hx := B.exec
  have hb := B.bytes
  have hr := B.returns
  have hts := atoms_spec (ws := wsX5_takeSign) B.pre
  have hown : s.vm.findClass RX5 = some m.cls := findClass_of_methodNamed B.named
  have hlocks := B.notSynchronized
  have hS : va_S (fun q => b0 ≤ q) s.heap s.heap [] := va_S.rf
  have hinX5 : ∀ w ∈ wsX50, w ∈ wsX5_takeSign := by decide +kernel
  obtain ⟨ht1, ht2, et1, et2, hlen, hpl, hne⟩ := id hTx
  have hl := lv_entry ([.ref (ad 1)]) (n := 2) (Nat.le_of_ble_eq_true rfl)
  rw [lg_entry_eq]
  generalize (lg_sl ([.ref (ad 1)]) ++ List.replicate (2 - (lg_sl ([.ref (ad 1)])).length) Slot.unset).toArray = ls at hl ⊢
  have hl : lv_has ls 2 [(0, .ref (ad 1))] := hl
  refine lv_aload_n hx hb dX5_takeSign_0 rfl (lv_at hl 0 rfl) ?_
  refine vp_callSi (va_Run.run (va_runV (As := []) (rest := []) ⟨hx, hb, hml, hown, hts⟩ (c_X5_nextSign l D y Ls ad G f len pl hTx) (cwV 0 hts gX5_takeSign_X5_nextSign rfl rfl rfl (by decide +kernel) ⟨Nat.le_of_ble_eq_true rfl, Nat.le_of_ble_eq_true rfl⟩) ⟨Wd_blind, Wd_recv hK hP (ci := 7) rfl ht1 et1, Wd_at hP hK hN⟩ rfl rfl hl.1 rfl (lv_room (Nat.le_of_ble_eq_true rfl)) dX5_takeSign_1 ⟨(Nat.le_of_ble_eq_true rfl), (Nat.le_of_ble_eq_true rfl)⟩)) (fun r_1 hr_1 => ?_)
  refine lv_istore_n (lv' := [(1, .int r_1), (0, .ref (ad 1))]) hx hb dX5_takeSign_4 rfl hl (by decide) rfl (fun ls hl => ?_)
  refine lv_iload_n hx hb dX5_takeSign_5 rfl (lv_at hl 0 rfl) ?_
  refine lv_iconst (v := (-1)) hx hb dX5_takeSign_6 (by decide) ?_
  refine lv_icmp_eq (tgt := 20) hx hb dX5_takeSign_7 (by decide) (fun c_7 => ?_) (fun c_7 => ?_)
  · have hge : ¬ pl < len := fun h => hne pl h (by rw [hr_1, nx, if_pos h] at c_7; exact c_7)
    refine lv_iload_n hx hb dX5_takeSign_20 rfl (lv_at hl 0 rfl) ?_
    refine W.widen (k := 0) (n := 0) (Nat.le_of_ble_eq_true rfl) (Nat.le_of_ble_eq_true rfl) ?_
    exact W.iret (v := r_1) hx hb hr (fun t ht hW => ⟨⟨r_1, wl Ls ad G, rfl, ⟨hr_1, G, rfl, ⟨ht1, ht2, by rw [nxp, if_neg hge]; exact et1, et2, hlen, by rw [nxp, if_neg hge]; exact hpl, hne⟩, fun j h1 h2 => rfl⟩, by rw [ht]; exact hP, hD⟩, hS.F ht⟩) hS.2.2 dX5_takeSign_21
  · have hlt : pl < len := Decidable.byContradiction fun h => c_7 (by rw [hr_1, nx, if_neg h])
    refine lv_aload_n hx hb dX5_takeSign_10 rfl (lv_at hl 1 rfl) ?_
    refine lv_dup hx hb dX5_takeSign_11 rfl ?_
    refine pv_get (ci := 7) (C := RX5) (T := TX5) (N := 3) hx hb hts hinX5 hown hK hP ht1 et1 rfl 2 (by decide) (hts (.fieldLink RX5 19 "StorageCharge$Text" "place" "I") (by decide +kernel)) (fun _ h9 => h9) rfl dX5_takeSign_12 ?_
    refine lv_iconst (v := 1) hx hb dX5_takeSign_15 (by decide) ?_
    refine lv_iadd hx hb dX5_takeSign_16 ?_
    refine lv_topi (fun z9 ez9 => ?_)
    obtain rfl : z9 = nI (pl + 1) := ez9.trans (nI_1 pl)
    refine pv_put (ci := 7) (v := .int (nI (pl + 1))) (ty := .int) (C := RX5) (T := TX5) (N := 3) hx hb hts hinX5 tyX5 tyX5_ok nmX5 hown hK hP hD hS ht1 et1 rfl 2 (by decide) (hts (.fieldLink RX5 19 "StorageCharge$Text" "place" "I") (by decide +kernel)) (fun _ h9 => h9) rfl (by decide +kernel) rfl rfl (Nat.le_of_ble_eq_true rfl) dX5_takeSign_17 (fun H locs hP hD hS => ?_)
    obtain ⟨G_17, eG_17⟩ : ∃ gg9 : Nat → va_E, gg9 = va_up G 1 (.inr (7, [.ref (ad 2), .int (nI len), .int (nI (pl + 1))])) := ⟨_, rfl⟩
    have hP : va_P D vwCl (wl Ls ad G_17) H := by rw [eG_17]; exact hP
    have hD : va_D (fun q => b0 ≤ q) (wl Ls ad G_17) := by rw [eG_17]; exact hD
    have et2 : G_17 2 = .inl (y 1, 400, .inl f) := by rw [eG_17, va_up_ne _ _ (by omega)]; exact et2
    have et1 : G_17 1 = .inr (7, [.ref (ad 2), .int (nI len), .int (nI (pl + 1))]) := by rw [eG_17]; exact va_up_self _ _ _
    refine lv_iload_n hx hb dX5_takeSign_20 rfl (lv_at hl 0 rfl) ?_
    refine W.widen (k := 0) (n := 0) (Nat.le_of_ble_eq_true rfl) (Nat.le_of_ble_eq_true rfl) ?_
    exact W.iret (v := r_1) hx hb hr (fun t ht hW => ⟨⟨r_1, wl Ls ad G_17, rfl, ⟨hr_1, G_17, rfl, ⟨ht1, ht2, by rw [nxp, if_pos hlt]; exact et1, et2, hlen, by rw [nxp, if_pos hlt]; omega, hne⟩, fun j h1 h2 => by rw [eG_17, va_up_ne _ _ (by assumption)]⟩, by rw [ht]; exact hP, hD⟩, hS.F ht⟩) hS.2.2 dX5_takeSign_21
