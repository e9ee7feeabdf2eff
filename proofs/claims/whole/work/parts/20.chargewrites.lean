/-! Charges' writes -/
theorem lsw4 (x : Int32) : x = 72 ∨ x = 77 ∨ x = 83 ∨ x = 86 ∨ (¬ x = 72 ∧ ¬ x = 77 ∧ ¬ x = 83 ∧ ¬ x = 86) := by
  by_cases h1 : x = 72
  · exact Or.inl h1
  · by_cases h2 : x = 77
    · exact Or.inr (Or.inl h2)
    · by_cases h3 : x = 83
      · exact Or.inr (Or.inr (Or.inl h3))
      · by_cases h4 : x = 86
        · exact Or.inr (Or.inr (Or.inr (Or.inl h4)))
        · exact Or.inr (Or.inr (Or.inr (Or.inr ⟨h1, h2, h3, h4⟩)))

theorem fill_s {f : Nat → Int32} {i : Nat} {x : Int32} (h : ∀ q, q < i → f q = x) (_ : True) : ∀ q, q < i + 1 → upd f i x q = x := by
  intro q hq
  by_cases e : q = i
  · subst e; exact pk_us
  · rw [pk_un e]; exact h q (by omega)

set_option maxHeartbeats 4000000 in
set_option maxRecDepth 100000 in
/-- Arrays.fill -/
theorem c_J7_fill_53178 (l : Launch) (hl0 : l.stackTraces = false) (D : va_G) (y : Nat → ClassId) (b0 : Nat) (Ls : List Nat) (ad : Nat → Nat) (G : Nat → va_E) (rw n : Nat) (f : Nat → Int32) (hj : rw ∈ Ls) (er : G rw = .inl (y 0, n, .inl f)) (hn : n < 2 ^ 31) (x : Int32) : Met l yJ7_fill_53178 wsJ7_fill_53178 ({ frames := 0, cells := 0, slots := 0, locals := 0 }) (va_Pc [.ref (ad rw), .int x] (WdM D y b0 (wl Ls ad G))) (va_Qv (fun (u : va_W) => ∃ G2 f2, u = wl Ls ad G2 ∧ G2 rw = .inl (y 0, n, .inl f2) ∧ (∀ i, i < n → f2 i = x) ∧ ∀ j, j ≠ rw → G2 j = G j) (WB D b0) (fun q => b0 ≤ q)) 0 0 (fun q => b0 ≤ q) := by
  refine Met.ofW (cc := cJ7_fill_53178) (maxL := 4) (ret := none) (by decide) rfl ?_
  intro p e s m args below meth c s₁ B hml hv
  obtain ⟨rfl, ⟨hP, hK, hN⟩, hD, hb0, hT⟩ := hv
  have hx := B.exec
  have hb := B.bytes
  have hr := B.returns
  have hts := atoms_spec (ws := wsJ7_fill_53178) B.pre
  have hown : s.vm.findClass RJ7 = some m.cls := findClass_of_methodNamed B.named
  have hlocks := B.notSynchronized
  have hS : va_S (fun q => b0 ≤ q) s.heap s.heap [] := va_S.rf
  have loop5 : ∀ (n0 : Nat) (i : Nat) (f1 : Nat → Int32) (G1 : Nat → va_E), i ≤ n → n < i + n0 → (∀ q, q < i → f1 q = x) → G1 rw = .inl (y 0, n, .inl f1) → (∀ j, j ≠ rw → G1 j = G j) → ∀ (H : Heap) (locs : List Loc), va_P D vwCl (wl Ls ad G1) H → va_D (fun q => b0 ≤ q) (wl Ls ad G1) → va_S (fun q => b0 ≤ q) s.heap H locs → ∀ ls : Array Slot, lv_has ls 4 [(0, .ref (ad rw)), (1, .int x), (2, .int (nI i)), (3, .int (nI n))] → W p l e (headSpec wsJ7_fill_53178 ({ frames := 0, cells := 0, slots := 0, locals := 0 })).room s m ([.ref (ad rw), .int x] : List Value).toArray below meth c H locs 0 0 (MQ below (va_Qv (fun (u : va_W) => ∃ G2 f2, u = wl Ls ad G2 ∧ G2 rw = .inl (y 0, n, .inl f2) ∧ (∀ i, i < n → f2 i = x) ∧ ∀ j, j ≠ rw → G2 j = G j) (WB D b0) (fun q => b0 ≤ q)) ([.ref (ad rw), .int x] : List Value).toArray s 0 0 (fun q => b0 ≤ q)) (F0 m 5 ls []) := by
    intro n0
    induction n0 with
    | zero =>
      intro i f1 G1 hi hn0; exact absurd hn0 (by omega)
    | succ n0 ih5 =>
      intro i f1 G1 hi hn0 hf er hfr H locs hP hD hS ls hl
      refine lv_iload_n hx hb dJ7_fill_53178_5 rfl (lv_at hl 2 rfl) ?_
      refine lv_iload_n hx hb dJ7_fill_53178_6 rfl (lv_at hl 3 rfl) ?_
      refine lv_icmp_ge (tgt := 20) hx hb dJ7_fill_53178_7 (by decide) (fun c_7 => ?_) (fun c_7 => ?_)
      · have hge : n = i := by
          have h8 := Nat.le_of_not_lt (fun h : i < n => absurd c_7 (nI_ge h (by omega)))
          omega
        refine W.widen (k := 0) (n := 0) (Nat.le_of_ble_eq_true rfl) (Nat.le_of_ble_eq_true rfl) ?_
        exact W.vret hx hb hr (fun t ht hW => ⟨⟨wl Ls ad G1, rfl, ⟨G1, f1, rfl, er, by rw [hge]; exact hf, hfr⟩, by rw [ht]; exact hP, hD⟩, hS.F ht⟩) hS.2.2 dJ7_fill_53178_20
      · have hlt : i < n := Nat.lt_of_not_le fun h => c_7 (nI_le h (by omega))
        have hi2 : True := trivial
        refine lv_aload_n hx hb dJ7_fill_53178_10 rfl (lv_at hl 0 rfl) ?_
        refine lv_iload_n hx hb dJ7_fill_53178_11 rfl (lv_at hl 2 rfl) ?_
        refine lv_iload_n hx hb dJ7_fill_53178_12 rfl (lv_at hl 1 rfl) ?_
        refine pv_iast hx hb hK hP hD hS hj 0 er rfl (k := i) rfl hlt hn dJ7_fill_53178_13 (fun H locs hP hD hS => ?_)
        obtain ⟨G_13, eG_13⟩ : ∃ gg9 : Nat → va_E, gg9 = va_up G1 rw (.inl (y 0, n, .inl (upd f1 i x))) := ⟨_, rfl⟩
        have hP : va_P D vwCl (wl Ls ad G_13) H := by rw [eG_13]; exact hP
        have hD : va_D (fun q => b0 ≤ q) (wl Ls ad G_13) := by rw [eG_13]; exact hD
        have er : G_13 rw = .inl (y 0, n, .inl (upd f1 i x)) := by rw [eG_13]; exact va_up_self _ _ _
        refine lv_iinc (v := nI (i + 1)) (lv' := [(2, .int (nI (i + 1))), (0, .ref (ad rw)), (1, .int x), (3, .int (nI n))]) hx hb dJ7_fill_53178_14 hl (k := 2) rfl (nI_1 i) (by decide) rfl (fun ls hl => ?_)
        refine lv_goto (tgt := 5) hx hb dJ7_fill_53178_17 (by decide) ?_
        exact ih5 (i + 1) _ G_13 (by omega) (by omega) (fun q h => fill_s hf hi2 q h) er (fun j h => by rw [eG_13, va_up_ne _ _ h]; exact hfr j h) _ _ hP hD hS ls (lv_sub hl [1, 2, 0, 3] rfl)
  have hl := lv_entry ([.ref (ad rw), .int x]) (n := 4) (Nat.le_of_ble_eq_true rfl)
  rw [lg_entry_eq]
  generalize (lg_sl ([.ref (ad rw), .int x]) ++ List.replicate (4 - (lg_sl ([.ref (ad rw), .int x])).length) Slot.unset).toArray = ls at hl ⊢
  have hl : lv_has ls 4 [(0, .ref (ad rw)), (1, .int x)] := hl
  refine lv_iconst (v := 0) hx hb dJ7_fill_53178_0 (by decide) ?_
  refine lv_istore_n (lv' := [(2, .int 0), (0, .ref (ad rw)), (1, .int x)]) hx hb dJ7_fill_53178_1 rfl hl (by decide) rfl (fun ls hl => ?_)
  refine lv_aload_n hx hb dJ7_fill_53178_2 rfl (lv_at hl 1 rfl) ?_
  refine pv_alen (n := n) hx hb hK hP hj 0 er rfl rfl dJ7_fill_53178_3 ?_
  refine lv_istore_n (lv' := [(3, .int (nI n)), (2, .int 0), (0, .ref (ad rw)), (1, .int x)]) hx hb dJ7_fill_53178_4 rfl hl (by decide) rfl (fun ls hl => ?_)
  exact loop5 (n + 1) 0 f G (by omega) (by omega) (fun i h => absurd h (Nat.not_lt_zero i)) er (fun j h => rfl) _ _ hP hD hS ls (lv_sub hl [2, 3, 1, 0] rfl)

set_option maxHeartbeats 4000000 in
set_option maxRecDepth 100000 in
/-- Charges.clear -/
theorem c_X2_clear (l : Launch) (hl0 : l.stackTraces = false) (D : va_G) (y : Nat → ClassId) (b0 : Nat) (Ls : List Nat) (ad : Nat → Nat) (G : Nat → va_E) (ch : Nat) (st ha mi dO dD dP : Nat → Int32) (nd : Nat) (li ow : Int32) (hC : ChargesAt y Ls ad G ch st ha mi dO dD dP nd li ow) : Met l yX2_clear wsX2_clear ({ frames := 1, cells := 0, slots := 0, locals := 23 }) (va_Pc [.ref (ad ch)] (WdM D y b0 (wl Ls ad G))) (va_Qv (fun (u : va_W) => ∃ G2 st2 ha2 mi2, u = wl Ls ad G2 ∧ ChargesAt y Ls ad G2 ch st2 ha2 mi2 dO dD dP 0 0 0 ∧ ((∀ i, i < 40 → st2 i = -1) ∧ (∀ i, i < 40 → ha2 i = -1) ∧ (∀ i, i < 8 → mi2 i = -1)) ∧ (∀ j, j < ch ∨ ch + 6 < j → G2 j = G j)) (WB D b0) (fun q => b0 ≤ q)) 0 0 (fun q => b0 ≤ q) := by
  refine Met.ofW (cc := cX2_clear) (maxL := 1) (ret := none) (by decide) rfl ?_
  intro p e s m args below meth c s₁ B hml hv
  obtain ⟨rfl, ⟨hP, hK, hN⟩, hD, hb0, hT⟩ := hv
  have hx := B.exec
  have hb := B.bytes
  have hr := B.returns
  have hts := atoms_spec (ws := wsX2_clear) B.pre
  have hown : s.vm.findClass RX2 = some m.cls := findClass_of_methodNamed B.named
  have hlocks := B.notSynchronized
  have hS : va_S (fun q => b0 ≤ q) s.heap s.heap [] := va_S.rf
  have hinX2 : ∀ w ∈ wsX20, w ∈ wsX2_clear := by decide +kernel
  obtain ⟨⟨hc0, hc1, hc2, hc3, hc4, hc5, hc6⟩, ec0, ec1, ec2, ec3, ec4, ec5, ec6, hnd⟩ := id hC
  have hl := lv_entry ([.ref (ad ch)]) (n := 1) (Nat.le_of_ble_eq_true rfl)
  rw [lg_entry_eq]
  generalize (lg_sl ([.ref (ad ch)]) ++ List.replicate (1 - (lg_sl ([.ref (ad ch)])).length) Slot.unset).toArray = ls at hl ⊢
  have hl : lv_has ls 1 [(0, .ref (ad ch))] := hl
  refine lv_aload_n hx hb dX2_clear_0 rfl (lv_at hl 0 rfl) ?_
  refine pv_get (ci := 4) (C := RX2) (T := TX2) (N := 9) hx hb hts hinX2 hown hK hP hc0 ec0 rfl 0 (by decide) (hts (.fieldLink RX2 9 "StorageCharge$Charges" "storage" "[I") (by decide +kernel)) (fun _ h9 => h9) rfl dX2_clear_1 ?_
  refine lv_iconst (v := (-1)) hx hb dX2_clear_4 (by decide) ?_
  refine va_callv (va_runS (As := [.ref (ad (ch + 1)), .int (-1)]) (rest := []) ⟨hx, hb, hml, hown, hts⟩ (c_J7_fill_53178 l hl0 D y b0 Ls ad G (ch + 1) 40 st hc1 ec1 (by decide) (-1)) (va_cwS 2 hts gX2_clear_J7_fill_53178 rfl rfl rfl (by decide +kernel) ⟨(Nat.le_of_ble_eq_true rfl), (Nat.le_of_ble_eq_true rfl)⟩) ⟨WdM_blind, WdM_at hP hK hN hD hS hb0 hT⟩ rfl rfl hl.1 rfl (lv_room (Nat.le_of_ble_eq_true rfl)) dX2_clear_5 ⟨(Nat.le_of_ble_eq_true rfl), (Nat.le_of_ble_eq_true rfl)⟩) hS (fun _ _ h => h) (fun _ h => h) (fun u5 t H locs ht hvm hw5 hB hz1 hk1 hS => ?_)
  obtain ⟨hP, hD⟩ := hB
  rw [ht] at hP
  obtain ⟨g5, st1, rfl, he5, hf5, hfr5⟩ := hw5
  have ec0 := (hfr5 ch (by omega)).trans ec0
  have ec2 := (hfr5 (ch + 2) (by omega)).trans ec2
  have ec3 := (hfr5 (ch + 3) (by omega)).trans ec3
  have ec4 := (hfr5 (ch + 4) (by omega)).trans ec4
  have ec5 := (hfr5 (ch + 5) (by omega)).trans ec5
  have ec6 := (hfr5 (ch + 6) (by omega)).trans ec6
  have ec1 := he5
  have frm5 : ∀ j, j < ch ∨ ch + 6 < j → g5 j = G j := fun j h => (hfr5 j (by omega)).trans (rfl)
  refine lv_aload_n hx hb dX2_clear_8 rfl (lv_at hl 0 rfl) ?_
  refine pv_get (ci := 4) (C := RX2) (T := TX2) (N := 9) hx hb hts hinX2 hown hK hP hc0 ec0 rfl 1 (by decide) (hts (.fieldLink RX2 15 "StorageCharge$Charges" "handling" "[I") (by decide +kernel)) (fun _ h9 => h9) rfl dX2_clear_9 ?_
  refine lv_iconst (v := (-1)) hx hb dX2_clear_12 (by decide) ?_
  refine va_callv (va_runS (As := [.ref (ad (ch + 2)), .int (-1)]) (rest := []) ⟨hx, hb, hml, hown, hts⟩ (c_J7_fill_53178 l hl0 D y b0 Ls ad g5 (ch + 2) 40 ha hc2 ec2 (by decide) (-1)) (va_cwS 2 hts gX2_clear_J7_fill_53178 rfl rfl rfl (by decide +kernel) ⟨(Nat.le_of_ble_eq_true rfl), (Nat.le_of_ble_eq_true rfl)⟩) ⟨WdM_blind, WdM_at hP hK hN hD hS hb0 hT⟩ rfl rfl hl.1 rfl (lv_room (Nat.le_of_ble_eq_true rfl)) dX2_clear_13 ⟨(Nat.le_of_ble_eq_true rfl), (Nat.le_of_ble_eq_true rfl)⟩) hS (fun _ _ h => h) (fun _ h => h) (fun u13 t H locs ht hvm hw13 hB hz1 hk1 hS => ?_)
  obtain ⟨hP, hD⟩ := hB
  rw [ht] at hP
  obtain ⟨g13, ha1, rfl, he13, hf13, hfr13⟩ := hw13
  have ec0 := (hfr13 ch (by omega)).trans ec0
  have ec1 := (hfr13 (ch + 1) (by omega)).trans ec1
  have ec3 := (hfr13 (ch + 3) (by omega)).trans ec3
  have ec4 := (hfr13 (ch + 4) (by omega)).trans ec4
  have ec5 := (hfr13 (ch + 5) (by omega)).trans ec5
  have ec6 := (hfr13 (ch + 6) (by omega)).trans ec6
  have ec2 := he13
  have frm13 : ∀ j, j < ch ∨ ch + 6 < j → g13 j = G j := fun j h => (hfr13 j (by omega)).trans (frm5 j h)
  refine lv_aload_n hx hb dX2_clear_16 rfl (lv_at hl 0 rfl) ?_
  refine pv_get (ci := 4) (C := RX2) (T := TX2) (N := 9) hx hb hts hinX2 hown hK hP hc0 ec0 rfl 2 (by decide) (hts (.fieldLink RX2 18 "StorageCharge$Charges" "minimum" "[I") (by decide +kernel)) (fun _ h9 => h9) rfl dX2_clear_17 ?_
  refine lv_iconst (v := (-1)) hx hb dX2_clear_20 (by decide) ?_
  refine va_callv (va_runS (As := [.ref (ad (ch + 3)), .int (-1)]) (rest := []) ⟨hx, hb, hml, hown, hts⟩ (c_J7_fill_53178 l hl0 D y b0 Ls ad g13 (ch + 3) 8 mi hc3 ec3 (by decide) (-1)) (va_cwS 2 hts gX2_clear_J7_fill_53178 rfl rfl rfl (by decide +kernel) ⟨(Nat.le_of_ble_eq_true rfl), (Nat.le_of_ble_eq_true rfl)⟩) ⟨WdM_blind, WdM_at hP hK hN hD hS hb0 hT⟩ rfl rfl hl.1 rfl (lv_room (Nat.le_of_ble_eq_true rfl)) dX2_clear_21 ⟨(Nat.le_of_ble_eq_true rfl), (Nat.le_of_ble_eq_true rfl)⟩) hS (fun _ _ h => h) (fun _ h => h) (fun u21 t H locs ht hvm hw21 hB hz1 hk1 hS => ?_)
  obtain ⟨hP, hD⟩ := hB
  rw [ht] at hP
  obtain ⟨g21, mi1, rfl, he21, hf21, hfr21⟩ := hw21
  have ec0 := (hfr21 ch (by omega)).trans ec0
  have ec1 := (hfr21 (ch + 1) (by omega)).trans ec1
  have ec2 := (hfr21 (ch + 2) (by omega)).trans ec2
  have ec4 := (hfr21 (ch + 4) (by omega)).trans ec4
  have ec5 := (hfr21 (ch + 5) (by omega)).trans ec5
  have ec6 := (hfr21 (ch + 6) (by omega)).trans ec6
  have ec3 := he21
  have frm21 : ∀ j, j < ch ∨ ch + 6 < j → g21 j = G j := fun j h => (hfr21 j (by omega)).trans (frm13 j h)
  refine lv_aload_n hx hb dX2_clear_24 rfl (lv_at hl 0 rfl) ?_
  refine lv_iconst (v := 0) hx hb dX2_clear_25 (by decide) ?_
  refine lv_topi (fun z9 ez9 => ?_)
  obtain rfl : z9 = nI 0 := ez9.trans (nI_0.symm)
  refine pv_put (ci := 4) (v := .int (nI 0)) (ty := .int) (C := RX2) (T := TX2) (N := 9) hx hb hts hinX2 tyX2 tyX2_ok nmX2 hown hK hP hD hS hc0 ec0 rfl 6 (by decide) (hts (.fieldLink RX2 30 "StorageCharge$Charges" "discounts" "I") (by decide +kernel)) (fun _ h9 => h9) rfl (by decide +kernel) rfl rfl (Nat.le_of_ble_eq_true rfl) dX2_clear_26 (fun H locs hP hD hS => ?_)
  obtain ⟨G_26, eG_26⟩ : ∃ gg9 : Nat → va_E, gg9 = va_up g21 ch (.inr (4, [.ref (ad (ch + 1)), .ref (ad (ch + 2)), .ref (ad (ch + 3)), .ref (ad (ch + 4)), .ref (ad (ch + 5)), .ref (ad (ch + 6)), .int (nI 0), .int li, .int ow])) := ⟨_, rfl⟩
  have hP : va_P D vwCl (wl Ls ad G_26) H := by rw [eG_26]; exact hP
  have hD : va_D (fun q => b0 ≤ q) (wl Ls ad G_26) := by rw [eG_26]; exact hD
  have ec1 : G_26 (ch + 1) = .inl (y 0, 40, .inl st1) := by rw [eG_26, va_up_ne _ _ (by omega)]; exact ec1
  have ec2 : G_26 (ch + 2) = .inl (y 0, 40, .inl ha1) := by rw [eG_26, va_up_ne _ _ (by omega)]; exact ec2
  have ec3 : G_26 (ch + 3) = .inl (y 0, 8, .inl mi1) := by rw [eG_26, va_up_ne _ _ (by omega)]; exact ec3
  have ec4 : G_26 (ch + 4) = .inl (y 0, 60, .inl dO) := by rw [eG_26, va_up_ne _ _ (by omega)]; exact ec4
  have ec5 : G_26 (ch + 5) = .inl (y 0, 60, .inl dD) := by rw [eG_26, va_up_ne _ _ (by omega)]; exact ec5
  have ec6 : G_26 (ch + 6) = .inl (y 0, 60, .inl dP) := by rw [eG_26, va_up_ne _ _ (by omega)]; exact ec6
  have ec0 : G_26 ch = .inr (4, [.ref (ad (ch + 1)), .ref (ad (ch + 2)), .ref (ad (ch + 3)), .ref (ad (ch + 4)), .ref (ad (ch + 5)), .ref (ad (ch + 6)), .int (nI 0), .int li, .int ow]) := by rw [eG_26]; exact va_up_self _ _ _
  refine lv_aload_n hx hb dX2_clear_29 rfl (lv_at hl 0 rfl) ?_
  refine lv_iconst (v := 0) hx hb dX2_clear_30 (by decide) ?_
  refine pv_put (ci := 4) (v := .int 0) (ty := .int) (C := RX2) (T := TX2) (N := 9) hx hb hts hinX2 tyX2 tyX2_ok nmX2 hown hK hP hD hS hc0 ec0 rfl 7 (by decide) (hts (.fieldLink RX2 34 "StorageCharge$Charges" "lines" "I") (by decide +kernel)) (fun _ h9 => h9) rfl (by decide +kernel) rfl rfl (Nat.le_of_ble_eq_true rfl) dX2_clear_31 (fun H locs hP hD hS => ?_)
  obtain ⟨G_31, eG_31⟩ : ∃ gg9 : Nat → va_E, gg9 = va_up G_26 ch (.inr (4, [.ref (ad (ch + 1)), .ref (ad (ch + 2)), .ref (ad (ch + 3)), .ref (ad (ch + 4)), .ref (ad (ch + 5)), .ref (ad (ch + 6)), .int (nI 0), .int 0, .int ow])) := ⟨_, rfl⟩
  have hP : va_P D vwCl (wl Ls ad G_31) H := by rw [eG_31]; exact hP
  have hD : va_D (fun q => b0 ≤ q) (wl Ls ad G_31) := by rw [eG_31]; exact hD
  have ec1 : G_31 (ch + 1) = .inl (y 0, 40, .inl st1) := by rw [eG_31, va_up_ne _ _ (by omega)]; exact ec1
  have ec2 : G_31 (ch + 2) = .inl (y 0, 40, .inl ha1) := by rw [eG_31, va_up_ne _ _ (by omega)]; exact ec2
  have ec3 : G_31 (ch + 3) = .inl (y 0, 8, .inl mi1) := by rw [eG_31, va_up_ne _ _ (by omega)]; exact ec3
  have ec4 : G_31 (ch + 4) = .inl (y 0, 60, .inl dO) := by rw [eG_31, va_up_ne _ _ (by omega)]; exact ec4
  have ec5 : G_31 (ch + 5) = .inl (y 0, 60, .inl dD) := by rw [eG_31, va_up_ne _ _ (by omega)]; exact ec5
  have ec6 : G_31 (ch + 6) = .inl (y 0, 60, .inl dP) := by rw [eG_31, va_up_ne _ _ (by omega)]; exact ec6
  have ec0 : G_31 ch = .inr (4, [.ref (ad (ch + 1)), .ref (ad (ch + 2)), .ref (ad (ch + 3)), .ref (ad (ch + 4)), .ref (ad (ch + 5)), .ref (ad (ch + 6)), .int (nI 0), .int 0, .int ow]) := by rw [eG_31]; exact va_up_self _ _ _
  refine lv_aload_n hx hb dX2_clear_34 rfl (lv_at hl 0 rfl) ?_
  refine lv_iconst (v := 0) hx hb dX2_clear_35 (by decide) ?_
  refine pv_put (ci := 4) (v := .int 0) (ty := .int) (C := RX2) (T := TX2) (N := 9) hx hb hts hinX2 tyX2 tyX2_ok nmX2 hown hK hP hD hS hc0 ec0 rfl 8 (by decide) (hts (.fieldLink RX2 37 "StorageCharge$Charges" "owners" "I") (by decide +kernel)) (fun _ h9 => h9) rfl (by decide +kernel) rfl rfl (Nat.le_of_ble_eq_true rfl) dX2_clear_36 (fun H locs hP hD hS => ?_)
  obtain ⟨G_36, eG_36⟩ : ∃ gg9 : Nat → va_E, gg9 = va_up G_31 ch (.inr (4, [.ref (ad (ch + 1)), .ref (ad (ch + 2)), .ref (ad (ch + 3)), .ref (ad (ch + 4)), .ref (ad (ch + 5)), .ref (ad (ch + 6)), .int (nI 0), .int 0, .int 0])) := ⟨_, rfl⟩
  have hP : va_P D vwCl (wl Ls ad G_36) H := by rw [eG_36]; exact hP
  have hD : va_D (fun q => b0 ≤ q) (wl Ls ad G_36) := by rw [eG_36]; exact hD
  have ec1 : G_36 (ch + 1) = .inl (y 0, 40, .inl st1) := by rw [eG_36, va_up_ne _ _ (by omega)]; exact ec1
  have ec2 : G_36 (ch + 2) = .inl (y 0, 40, .inl ha1) := by rw [eG_36, va_up_ne _ _ (by omega)]; exact ec2
  have ec3 : G_36 (ch + 3) = .inl (y 0, 8, .inl mi1) := by rw [eG_36, va_up_ne _ _ (by omega)]; exact ec3
  have ec4 : G_36 (ch + 4) = .inl (y 0, 60, .inl dO) := by rw [eG_36, va_up_ne _ _ (by omega)]; exact ec4
  have ec5 : G_36 (ch + 5) = .inl (y 0, 60, .inl dD) := by rw [eG_36, va_up_ne _ _ (by omega)]; exact ec5
  have ec6 : G_36 (ch + 6) = .inl (y 0, 60, .inl dP) := by rw [eG_36, va_up_ne _ _ (by omega)]; exact ec6
  have ec0 : G_36 ch = .inr (4, [.ref (ad (ch + 1)), .ref (ad (ch + 2)), .ref (ad (ch + 3)), .ref (ad (ch + 4)), .ref (ad (ch + 5)), .ref (ad (ch + 6)), .int (nI 0), .int 0, .int 0]) := by rw [eG_36]; exact va_up_self _ _ _
  refine W.widen (k := 0) (n := 0) (Nat.le_of_ble_eq_true rfl) (Nat.le_of_ble_eq_true rfl) ?_
  exact W.vret hx hb hr (fun t ht hW => ⟨⟨wl Ls ad G_36, rfl, ⟨G_36, st1, ha1, mi1, rfl, ⟨⟨hc0, hc1, hc2, hc3, hc4, hc5, hc6⟩, ec0, ec1, ec2, ec3, ec4, ec5, ec6, Nat.zero_le _⟩, ⟨hf5, hf13, hf21⟩, fun j h => by rw [eG_36, va_up_ne _ _ (by omega), eG_31, va_up_ne _ _ (by omega), eG_26, va_up_ne _ _ (by omega)]; exact frm21 j h⟩, by rw [ht]; exact hP, hD⟩, hS.F ht⟩) hS.2.2 dX2_clear_39

set_option maxHeartbeats 4000000 in
set_option maxRecDepth 100000 in
/-- Charges.tellCents -/
theorem c_X2_tellCents (l : Launch) (hl0 : l.stackTraces = false) (D : va_G) (y : Nat → ClassId) (b0 : Nat) (Ls : List Nat) (ad : Nat → Nat) (G : Nat → va_E) (rw n : Nat) (f : Nat → Int32) (hj : rw ∈ Ls) (er : G rw = .inl (y 0, n, .inl f)) (hn : n < 2 ^ 31) (h1 : 1 ≤ n) (pl ce : Int32) : Met l yX2_tellCents wsX2_tellCents ({ frames := 1, cells := 0, slots := 0, locals := 22 }) (va_Pc [.ref (ad rw), .int pl, .int ce] (WdM D y b0 (wl Ls ad G))) (va_Qi (fun (r : Int32) (u : va_W) => (r = 1 ∧ (inR ce 10000 ∧ ∃ k, k < n ∧ pl = nI k ∧ f k = -1) ∧ u = wl Ls ad (va_up G rw (.inl (y 0, n, .inl (upd f pl.toNatClampNeg ce))))) ∨ (r = 0 ∧ ¬ (inR ce 10000 ∧ ∃ k, k < n ∧ pl = nI k ∧ f k = -1) ∧ u = wl Ls ad G)) (WB D b0) (fun q => b0 ≤ q)) 0 0 (fun q => b0 ≤ q) := by
  refine Met.ofW (cc := cX2_tellCents) (maxL := 3) (ret := (some .boolean)) (by decide) rfl ?_
  intro p e s m args below meth c s₁ B hml hv
  obtain ⟨rfl, ⟨hP, hK, hN⟩, hD, hb0, hT⟩ := hv
  have hx := B.exec
  have hb := B.bytes
  have hr := B.returns
  have hts := atoms_spec (ws := wsX2_tellCents) B.pre
  have hown : s.vm.findClass RX2 = some m.cls := findClass_of_methodNamed B.named
  have hlocks := B.notSynchronized
  have hS : va_S (fun q => b0 ≤ q) s.heap s.heap [] := va_S.rf
  have hl := lv_entry ([.ref (ad rw), .int pl, .int ce]) (n := 3) (Nat.le_of_ble_eq_true rfl)
  rw [lg_entry_eq]
  generalize (lg_sl ([.ref (ad rw), .int pl, .int ce]) ++ List.replicate (3 - (lg_sl ([.ref (ad rw), .int pl, .int ce])).length) Slot.unset).toArray = ls at hl ⊢
  have hl : lv_has ls 3 [(0, .ref (ad rw)), (1, .int pl), (2, .int ce)] := hl
  refine lv_iload_n hx hb dX2_tellCents_0 rfl (lv_at hl 2 rfl) ?_
  refine lv_iconst (v := 0) hx hb dX2_tellCents_1 (by decide) ?_
  refine lv_sipush (v := 10000) hx hb dX2_tellCents_2 (by decide) ?_
  refine vp_callSi (va_Run.run (va_runSN (As := [.int ce, .int 0, .int 10000]) (rest := []) ⟨hx, hb, hml, hown, hts⟩ (c_X7_isWithin l ce 0 10000) ⟨va_cnB 3 hts gX2_tellCents_X7_isWithin_n49 rfl rfl rfl (hN (.methodLinkNest RX2 49 yX7_isWithin "StorageCharge") (by decide +kernel)) (hts (.initialized RX7) (by decide +kernel)) (by decide +kernel) ⟨Nat.le_of_ble_eq_true rfl, Nat.le_of_ble_eq_true rfl⟩, hts (.static yX7_isWithin) (by decide +kernel), trivial⟩ ⟨fun _ _ _ _ q => q, fun U hU hW => ⟨rfl, trivial⟩⟩ rfl rfl hl.1 rfl (lv_room (Nat.le_of_ble_eq_true rfl)) dX2_tellCents_5 ⟨(Nat.le_of_ble_eq_true rfl), (Nat.le_of_ble_eq_true rfl)⟩)) (fun r_5 hr_5 => ?_)
  refine lv_if_eq (tgt := 30) hx hb dX2_tellCents_8 (by decide) (fun c_8 => ?_) (fun c_8 => ?_)
  · refine lv_iconst (v := 0) hx hb dX2_tellCents_30 (by decide) ?_
    refine W.widen (k := 0) (n := 0) (Nat.le_of_ble_eq_true rfl) (Nat.le_of_ble_eq_true rfl) ?_
    exact W.zret (v := 0) hx hb hr (by first | rfl | decide | (simp [narrow]; done) | assumption) (fun t ht hW => ⟨⟨0, wl Ls ad G, rfl, (Or.inr ⟨rfl, (by rintro ⟨h5, k1, hk1, ek1, h7⟩; first | exact wI_eq0.mp (by rw [← hr_5]; exact c_8) h5 | exact wI_eq0.mp (by rw [← hr_17]; exact c_20) (by rw [ek1, nI_p1 h1]; exact ⟨nI_pos' (by omega), nI_le (by omega) (by omega)⟩) | exact c_27 (by obtain rfl : k1 = k := (nI_eq (by omega) (by omega)).mp (ek1.symm.trans ek); exact h7)), rfl⟩), by rw [ht]; exact hP, hD⟩, hS.F ht⟩) hS.2.2 dX2_tellCents_31
  · have hw5 : inR ce 10000 := Decidable.byContradiction fun h => c_8 (by rw [hr_5]; exact wI_eq0.mpr h)
    refine lv_iload_n hx hb dX2_tellCents_11 rfl (lv_at hl 1 rfl) ?_
    refine lv_iconst (v := 0) hx hb dX2_tellCents_12 (by decide) ?_
    refine lv_aload_n hx hb dX2_tellCents_13 rfl (lv_at hl 0 rfl) ?_
    refine pv_alen (n := n) hx hb hK hP hj 0 er rfl rfl dX2_tellCents_14 ?_
    refine lv_iconst (v := 1) hx hb dX2_tellCents_15 (by decide) ?_
    refine lv_isub hx hb dX2_tellCents_16 ?_
    refine vp_callSi (va_Run.run (va_runSN (As := [.int pl, .int 0, .int ((nI n) - 1)]) (rest := []) ⟨hx, hb, hml, hown, hts⟩ (c_X7_isWithin l pl 0 (nI n - 1)) ⟨va_cnB 3 hts gX2_tellCents_X7_isWithin_n49 rfl rfl rfl (hN (.methodLinkNest RX2 49 yX7_isWithin "StorageCharge") (by decide +kernel)) (hts (.initialized RX7) (by decide +kernel)) (by decide +kernel) ⟨Nat.le_of_ble_eq_true rfl, Nat.le_of_ble_eq_true rfl⟩, hts (.static yX7_isWithin) (by decide +kernel), trivial⟩ ⟨fun _ _ _ _ q => q, fun U hU hW => ⟨rfl, trivial⟩⟩ rfl rfl hl.1 rfl (lv_room (Nat.le_of_ble_eq_true rfl)) dX2_tellCents_17 ⟨(Nat.le_of_ble_eq_true rfl), (Nat.le_of_ble_eq_true rfl)⟩)) (fun r_17 hr_17 => ?_)
    refine lv_if_eq (tgt := 30) hx hb dX2_tellCents_20 (by decide) (fun c_20 => ?_) (fun c_20 => ?_)
    · refine lv_iconst (v := 0) hx hb dX2_tellCents_30 (by decide) ?_
      refine W.widen (k := 0) (n := 0) (Nat.le_of_ble_eq_true rfl) (Nat.le_of_ble_eq_true rfl) ?_
      exact W.zret (v := 0) hx hb hr (by first | rfl | decide | (simp [narrow]; done) | assumption) (fun t ht hW => ⟨⟨0, wl Ls ad G, rfl, (Or.inr ⟨rfl, (by rintro ⟨h5, k1, hk1, ek1, h7⟩; first | exact wI_eq0.mp (by rw [← hr_5]; exact c_8) h5 | exact wI_eq0.mp (by rw [← hr_17]; exact c_20) (by rw [ek1, nI_p1 h1]; exact ⟨nI_pos' (by omega), nI_le (by omega) (by omega)⟩) | exact c_27 (by obtain rfl : k1 = k := (nI_eq (by omega) (by omega)).mp (ek1.symm.trans ek); exact h7)), rfl⟩), by rw [ht]; exact hP, hD⟩, hS.F ht⟩) hS.2.2 dX2_tellCents_31
    · have hw17 : 0 ≤ pl ∧ pl ≤ nI (n - 1) := by
        rw [← nI_p1 h1]
        exact Decidable.byContradiction fun h => c_20 (by rw [hr_17]; exact wI_eq0.mpr h)
      obtain ⟨k, hk, ek⟩ := within_nI h1 hn hw17
      refine lv_aload_n hx hb dX2_tellCents_23 rfl (lv_at hl 0 rfl) ?_
      refine lv_iload_n hx hb dX2_tellCents_24 rfl (lv_at hl 1 rfl) ?_
      refine pv_iald hx hb hK hP hj 0 er rfl (k := k) ek hk hn dX2_tellCents_25 ?_
      refine lv_iconst (v := (-1)) hx hb dX2_tellCents_26 (by decide) ?_
      refine lv_icmp_eq (tgt := 32) hx hb dX2_tellCents_27 (by decide) (fun c_27 => ?_) (fun c_27 => ?_)
      · refine lv_aload_n hx hb dX2_tellCents_32 rfl (lv_at hl 0 rfl) ?_
        refine lv_iload_n hx hb dX2_tellCents_33 rfl (lv_at hl 1 rfl) ?_
        refine lv_iload_n hx hb dX2_tellCents_34 rfl (lv_at hl 2 rfl) ?_
        refine pv_iast hx hb hK hP hD hS hj 0 er rfl (k := k) ek hk hn dX2_tellCents_35 (fun H locs hP hD hS => ?_)
        obtain ⟨G_35, eG_35⟩ : ∃ gg9 : Nat → va_E, gg9 = va_up G rw (.inl (y 0, n, .inl (upd f k ce))) := ⟨_, rfl⟩
        have hP : va_P D vwCl (wl Ls ad G_35) H := by rw [eG_35]; exact hP
        have hD : va_D (fun q => b0 ≤ q) (wl Ls ad G_35) := by rw [eG_35]; exact hD
        have er : G_35 rw = .inl (y 0, n, .inl (upd f k ce)) := by rw [eG_35]; exact va_up_self _ _ _
        refine lv_iconst (v := 1) hx hb dX2_tellCents_36 (by decide) ?_
        refine W.widen (k := 0) (n := 0) (Nat.le_of_ble_eq_true rfl) (Nat.le_of_ble_eq_true rfl) ?_
        exact W.zret (v := 1) hx hb hr (by first | rfl | decide | (simp [narrow]; done) | assumption) (fun t ht hW => ⟨⟨1, wl Ls ad G_35, rfl, (Or.inl ⟨rfl, ⟨hw5, k, hk, ek, c_27⟩, by rw [eG_35, ek, nI_clamp (by omega)]⟩), by rw [ht]; exact hP, hD⟩, hS.F ht⟩) hS.2.2 dX2_tellCents_37
      · refine lv_iconst (v := 0) hx hb dX2_tellCents_30 (by decide) ?_
        refine W.widen (k := 0) (n := 0) (Nat.le_of_ble_eq_true rfl) (Nat.le_of_ble_eq_true rfl) ?_
        exact W.zret (v := 0) hx hb hr (by first | rfl | decide | (simp [narrow]; done) | assumption) (fun t ht hW => ⟨⟨0, wl Ls ad G, rfl, (Or.inr ⟨rfl, (by rintro ⟨h5, k1, hk1, ek1, h7⟩; first | exact wI_eq0.mp (by rw [← hr_5]; exact c_8) h5 | exact wI_eq0.mp (by rw [← hr_17]; exact c_20) (by rw [ek1, nI_p1 h1]; exact ⟨nI_pos' (by omega), nI_le (by omega) (by omega)⟩) | exact c_27 (by obtain rfl : k1 = k := (nI_eq (by omega) (by omega)).mp (ek1.symm.trans ek); exact h7)), rfl⟩), by rw [ht]; exact hP, hD⟩, hS.F ht⟩) hS.2.2 dX2_tellCents_31

set_option maxHeartbeats 4000000 in
set_option maxRecDepth 100000 in
/-- Charges.tellDiscount -/
theorem c_X2_tellDiscount (l : Launch) (hl0 : l.stackTraces = false) (D : va_G) (y : Nat → ClassId) (b0 : Nat) (Ls : List Nat) (ad : Nat → Nat) (G : Nat → va_E) (ch : Nat) (st ha mi dO dD dP : Nat → Int32) (nd : Nat) (li ow : Int32) (hC : ChargesAt y Ls ad G ch st ha mi dO dD dP nd li ow) (o da pe : Int32) : Met l yX2_tellDiscount wsX2_tellDiscount ({ frames := 1, cells := 0, slots := 0, locals := 23 }) (va_Pc [.ref (ad ch), .int o, .int da, .int pe] (WdM D y b0 (wl Ls ad G))) (va_Qi (fun (r : Int32) (u : va_W) => (r = 1 ∧ ((1 ≤ da ∧ da ≤ 9000) ∧ inR pe 100 ∧ ¬ hasD dO dD o da nd ∧ nd < 60) ∧ ∃ G2, u = wl Ls ad G2 ∧ ChargesAt y Ls ad G2 ch st ha mi (upd dO nd o) (upd dD nd da) (upd dP nd pe) (nd + 1) li ow ∧ (∀ j, j < ch ∨ ch + 6 < j → G2 j = G j)) ∨ (r = 0 ∧ ¬ ((1 ≤ da ∧ da ≤ 9000) ∧ inR pe 100 ∧ ¬ hasD dO dD o da nd ∧ nd < 60) ∧ u = wl Ls ad G)) (WB D b0) (fun q => b0 ≤ q)) 0 0 (fun q => b0 ≤ q) := by
  refine Met.ofW (cc := cX2_tellDiscount) (maxL := 4) (ret := (some .boolean)) (by decide) rfl ?_
  intro p e s m args below meth c s₁ B hml hv
  obtain ⟨rfl, ⟨hP, hK, hN⟩, hD, hb0, hT⟩ := hv
  have hx := B.exec
  have hb := B.bytes
  have hr := B.returns
  have hts := atoms_spec (ws := wsX2_tellDiscount) B.pre
  have hown : s.vm.findClass RX2 = some m.cls := findClass_of_methodNamed B.named
  have hlocks := B.notSynchronized
  have hS : va_S (fun q => b0 ≤ q) s.heap s.heap [] := va_S.rf
  have hinX2 : ∀ w ∈ wsX20, w ∈ wsX2_tellDiscount := by decide +kernel
  obtain ⟨⟨hc0, hc1, hc2, hc3, hc4, hc5, hc6⟩, ec0, ec1, ec2, ec3, ec4, ec5, ec6, hnd⟩ := id hC
  have hl := lv_entry ([.ref (ad ch), .int o, .int da, .int pe]) (n := 4) (Nat.le_of_ble_eq_true rfl)
  rw [lg_entry_eq]
  generalize (lg_sl ([.ref (ad ch), .int o, .int da, .int pe]) ++ List.replicate (4 - (lg_sl ([.ref (ad ch), .int o, .int da, .int pe])).length) Slot.unset).toArray = ls at hl ⊢
  have hl : lv_has ls 4 [(0, .ref (ad ch)), (1, .int o), (2, .int da), (3, .int pe)] := hl
  refine lv_iload_n hx hb dX2_tellDiscount_0 rfl (lv_at hl 2 rfl) ?_
  refine lv_iconst (v := 1) hx hb dX2_tellDiscount_1 (by decide) ?_
  refine lv_sipush (v := 9000) hx hb dX2_tellDiscount_2 (by decide) ?_
  refine vp_callSi (va_Run.run (va_runSN (As := [.int da, .int 1, .int 9000]) (rest := []) ⟨hx, hb, hml, hown, hts⟩ (c_X7_isWithin l da 1 9000) ⟨va_cnB 3 hts gX2_tellDiscount_X7_isWithin_n49 rfl rfl rfl (hN (.methodLinkNest RX2 49 yX7_isWithin "StorageCharge") (by decide +kernel)) (hts (.initialized RX7) (by decide +kernel)) (by decide +kernel) ⟨Nat.le_of_ble_eq_true rfl, Nat.le_of_ble_eq_true rfl⟩, hts (.static yX7_isWithin) (by decide +kernel), trivial⟩ ⟨fun _ _ _ _ q => q, fun U hU hW => ⟨rfl, trivial⟩⟩ rfl rfl hl.1 rfl (lv_room (Nat.le_of_ble_eq_true rfl)) dX2_tellDiscount_5 ⟨(Nat.le_of_ble_eq_true rfl), (Nat.le_of_ble_eq_true rfl)⟩)) (fun r_5 hr_5 => ?_)
  refine lv_if_eq (tgt := 39) hx hb dX2_tellDiscount_8 (by decide) (fun c_8 => ?_) (fun c_8 => ?_)
  · refine lv_iconst (v := 0) hx hb dX2_tellDiscount_39 (by decide) ?_
    refine W.widen (k := 0) (n := 0) (Nat.le_of_ble_eq_true rfl) (Nat.le_of_ble_eq_true rfl) ?_
    exact W.zret (v := 0) hx hb hr (by first | rfl | decide | (simp [narrow]; done) | assumption) (fun t ht hW => ⟨⟨0, wl Ls ad G, rfl, (Or.inr ⟨rfl, (by rintro ⟨h5, h6, h7, h8⟩; first | exact wI_eq0.mp (by rw [← hr_5]; exact c_8) h5 | exact wI_eq0.mp (by rw [← hr_15]; exact c_18) h6 | exact hr_24.elim (fun h => h7 h.2) (fun h => c_27 h.1) | exact c_36 (nI_lt h8 (by decide))), rfl⟩), by rw [ht]; exact hP, hD⟩, hS.F ht⟩) hS.2.2 dX2_tellDiscount_40
  · have hw5 : 1 ≤ da ∧ da ≤ 9000 := Decidable.byContradiction fun h => c_8 (by rw [hr_5]; exact wI_eq0.mpr h)
    refine lv_iload_n hx hb dX2_tellDiscount_11 rfl (lv_at hl 3 rfl) ?_
    refine lv_iconst (v := 0) hx hb dX2_tellDiscount_12 (by decide) ?_
    refine lv_bipush (v := 100) hx hb dX2_tellDiscount_13 (by decide) ?_
    refine vp_callSi (va_Run.run (va_runSN (As := [.int pe, .int 0, .int 100]) (rest := []) ⟨hx, hb, hml, hown, hts⟩ (c_X7_isWithin l pe 0 100) ⟨va_cnB 3 hts gX2_tellDiscount_X7_isWithin_n49 rfl rfl rfl (hN (.methodLinkNest RX2 49 yX7_isWithin "StorageCharge") (by decide +kernel)) (hts (.initialized RX7) (by decide +kernel)) (by decide +kernel) ⟨Nat.le_of_ble_eq_true rfl, Nat.le_of_ble_eq_true rfl⟩, hts (.static yX7_isWithin) (by decide +kernel), trivial⟩ ⟨fun _ _ _ _ q => q, fun U hU hW => ⟨rfl, trivial⟩⟩ rfl rfl hl.1 rfl (lv_room (Nat.le_of_ble_eq_true rfl)) dX2_tellDiscount_15 ⟨(Nat.le_of_ble_eq_true rfl), (Nat.le_of_ble_eq_true rfl)⟩)) (fun r_15 hr_15 => ?_)
    refine lv_if_eq (tgt := 39) hx hb dX2_tellDiscount_18 (by decide) (fun c_18 => ?_) (fun c_18 => ?_)
    · refine lv_iconst (v := 0) hx hb dX2_tellDiscount_39 (by decide) ?_
      refine W.widen (k := 0) (n := 0) (Nat.le_of_ble_eq_true rfl) (Nat.le_of_ble_eq_true rfl) ?_
      exact W.zret (v := 0) hx hb hr (by first | rfl | decide | (simp [narrow]; done) | assumption) (fun t ht hW => ⟨⟨0, wl Ls ad G, rfl, (Or.inr ⟨rfl, (by rintro ⟨h5, h6, h7, h8⟩; first | exact wI_eq0.mp (by rw [← hr_5]; exact c_8) h5 | exact wI_eq0.mp (by rw [← hr_15]; exact c_18) h6 | exact hr_24.elim (fun h => h7 h.2) (fun h => c_27 h.1) | exact c_36 (nI_lt h8 (by decide))), rfl⟩), by rw [ht]; exact hP, hD⟩, hS.F ht⟩) hS.2.2 dX2_tellDiscount_40
    · have hw15 : inR pe 100 := Decidable.byContradiction fun h => c_18 (by rw [hr_15]; exact wI_eq0.mpr h)
      refine lv_aload_n hx hb dX2_tellDiscount_21 rfl (lv_at hl 0 rfl) ?_
      refine lv_iload_n hx hb dX2_tellDiscount_22 rfl (lv_at hl 1 rfl) ?_
      refine lv_iload_n hx hb dX2_tellDiscount_23 rfl (lv_at hl 2 rfl) ?_
      refine vp_callSi (va_Run.run (va_runV (As := [.int o, .int da]) (rest := []) ⟨hx, hb, hml, hown, hts⟩ (c_X2_hasDiscount l D y Ls ad G ch st ha mi dO dD dP nd li ow hC o da) (cwV 2 hts gX2_tellDiscount_X2_hasDiscount rfl rfl rfl (by decide +kernel) ⟨Nat.le_of_ble_eq_true rfl, Nat.le_of_ble_eq_true rfl⟩) ⟨Wd_blind, Wd_recv hK hP (ci := 4) rfl hc0 ec0, Wd_at hP hK hN⟩ rfl rfl hl.1 rfl (lv_room (Nat.le_of_ble_eq_true rfl)) dX2_tellDiscount_24 ⟨(Nat.le_of_ble_eq_true rfl), (Nat.le_of_ble_eq_true rfl)⟩)) (fun r_24 hr_24 => ?_)
      refine lv_if_ne (tgt := 39) hx hb dX2_tellDiscount_27 (by decide) (fun c_27 => ?_) (fun c_27 => ?_)
      · refine lv_iconst (v := 0) hx hb dX2_tellDiscount_39 (by decide) ?_
        refine W.widen (k := 0) (n := 0) (Nat.le_of_ble_eq_true rfl) (Nat.le_of_ble_eq_true rfl) ?_
        exact W.zret (v := 0) hx hb hr (by first | rfl | decide | (simp [narrow]; done) | assumption) (fun t ht hW => ⟨⟨0, wl Ls ad G, rfl, (Or.inr ⟨rfl, (by rintro ⟨h5, h6, h7, h8⟩; first | exact wI_eq0.mp (by rw [← hr_5]; exact c_8) h5 | exact wI_eq0.mp (by rw [← hr_15]; exact c_18) h6 | exact hr_24.elim (fun h => h7 h.2) (fun h => c_27 h.1) | exact c_36 (nI_lt h8 (by decide))), rfl⟩), by rw [ht]; exact hP, hD⟩, hS.F ht⟩) hS.2.2 dX2_tellDiscount_40
      · have hno : ¬ hasD dO dD o da nd := hr_24.elim (fun h => absurd (h.1.symm.trans c_27) (by decide)) (fun h => h.2)
        refine lv_aload_n hx hb dX2_tellDiscount_30 rfl (lv_at hl 0 rfl) ?_
        refine pv_get (ci := 4) (C := RX2) (T := TX2) (N := 9) hx hb hts hinX2 hown hK hP hc0 ec0 rfl 6 (by decide) (hts (.fieldLink RX2 30 "StorageCharge$Charges" "discounts" "I") (by decide +kernel)) (fun _ h9 => h9) rfl dX2_tellDiscount_31 ?_
        refine lv_bipush (v := 60) hx hb dX2_tellDiscount_34 (by decide) ?_
        refine lv_icmp_lt (tgt := 41) hx hb dX2_tellDiscount_36 (by decide) (fun c_36 => ?_) (fun c_36 => ?_)
        · have hlt : nd < 60 := Nat.lt_of_not_le fun h => absurd c_36 (nI_nlt h (by omega))
          refine lv_aload_n hx hb dX2_tellDiscount_41 rfl (lv_at hl 0 rfl) ?_
          refine pv_get (ci := 4) (C := RX2) (T := TX2) (N := 9) hx hb hts hinX2 hown hK hP hc0 ec0 rfl 3 (by decide) (hts (.fieldLink RX2 21 "StorageCharge$Charges" "discountOwners" "[I") (by decide +kernel)) (fun _ h9 => h9) rfl dX2_tellDiscount_42 ?_
          refine lv_aload_n hx hb dX2_tellDiscount_45 rfl (lv_at hl 0 rfl) ?_
          refine pv_get (ci := 4) (C := RX2) (T := TX2) (N := 9) hx hb hts hinX2 hown hK hP hc0 ec0 rfl 6 (by decide) (hts (.fieldLink RX2 30 "StorageCharge$Charges" "discounts" "I") (by decide +kernel)) (fun _ h9 => h9) rfl dX2_tellDiscount_46 ?_
          refine lv_iload_n hx hb dX2_tellDiscount_49 rfl (lv_at hl 1 rfl) ?_
          refine pv_iast hx hb hK hP hD hS hc4 0 ec4 rfl (k := nd) rfl (by omega) (by decide) dX2_tellDiscount_50 (fun H locs hP hD hS => ?_)
          obtain ⟨G_50, eG_50⟩ : ∃ gg9 : Nat → va_E, gg9 = va_up G (ch + 4) (.inl (y 0, 60, .inl (upd dO nd o))) := ⟨_, rfl⟩
          have hP : va_P D vwCl (wl Ls ad G_50) H := by rw [eG_50]; exact hP
          have hD : va_D (fun q => b0 ≤ q) (wl Ls ad G_50) := by rw [eG_50]; exact hD
          have ec0 : G_50 ch = .inr (4, [.ref (ad (ch + 1)), .ref (ad (ch + 2)), .ref (ad (ch + 3)), .ref (ad (ch + 4)), .ref (ad (ch + 5)), .ref (ad (ch + 6)), .int (nI nd), .int li, .int ow]) := by rw [eG_50, va_up_ne _ _ (by omega)]; exact ec0
          have ec1 : G_50 (ch + 1) = .inl (y 0, 40, .inl st) := by rw [eG_50, va_up_ne _ _ (by omega)]; exact ec1
          have ec2 : G_50 (ch + 2) = .inl (y 0, 40, .inl ha) := by rw [eG_50, va_up_ne _ _ (by omega)]; exact ec2
          have ec3 : G_50 (ch + 3) = .inl (y 0, 8, .inl mi) := by rw [eG_50, va_up_ne _ _ (by omega)]; exact ec3
          have ec5 : G_50 (ch + 5) = .inl (y 0, 60, .inl dD) := by rw [eG_50, va_up_ne _ _ (by omega)]; exact ec5
          have ec6 : G_50 (ch + 6) = .inl (y 0, 60, .inl dP) := by rw [eG_50, va_up_ne _ _ (by omega)]; exact ec6
          have ec4 : G_50 (ch + 4) = .inl (y 0, 60, .inl (upd dO nd o)) := by rw [eG_50]; exact va_up_self _ _ _
          refine lv_aload_n hx hb dX2_tellDiscount_51 rfl (lv_at hl 0 rfl) ?_
          refine pv_get (ci := 4) (C := RX2) (T := TX2) (N := 9) hx hb hts hinX2 hown hK hP hc0 ec0 rfl 4 (by decide) (hts (.fieldLink RX2 24 "StorageCharge$Charges" "discountDays" "[I") (by decide +kernel)) (fun _ h9 => h9) rfl dX2_tellDiscount_52 ?_
          refine lv_aload_n hx hb dX2_tellDiscount_55 rfl (lv_at hl 0 rfl) ?_
          refine pv_get (ci := 4) (C := RX2) (T := TX2) (N := 9) hx hb hts hinX2 hown hK hP hc0 ec0 rfl 6 (by decide) (hts (.fieldLink RX2 30 "StorageCharge$Charges" "discounts" "I") (by decide +kernel)) (fun _ h9 => h9) rfl dX2_tellDiscount_56 ?_
          refine lv_iload_n hx hb dX2_tellDiscount_59 rfl (lv_at hl 2 rfl) ?_
          refine pv_iast hx hb hK hP hD hS hc5 0 ec5 rfl (k := nd) rfl (by omega) (by decide) dX2_tellDiscount_60 (fun H locs hP hD hS => ?_)
          obtain ⟨G_60, eG_60⟩ : ∃ gg9 : Nat → va_E, gg9 = va_up G_50 (ch + 5) (.inl (y 0, 60, .inl (upd dD nd da))) := ⟨_, rfl⟩
          have hP : va_P D vwCl (wl Ls ad G_60) H := by rw [eG_60]; exact hP
          have hD : va_D (fun q => b0 ≤ q) (wl Ls ad G_60) := by rw [eG_60]; exact hD
          have ec0 : G_60 ch = .inr (4, [.ref (ad (ch + 1)), .ref (ad (ch + 2)), .ref (ad (ch + 3)), .ref (ad (ch + 4)), .ref (ad (ch + 5)), .ref (ad (ch + 6)), .int (nI nd), .int li, .int ow]) := by rw [eG_60, va_up_ne _ _ (by omega)]; exact ec0
          have ec1 : G_60 (ch + 1) = .inl (y 0, 40, .inl st) := by rw [eG_60, va_up_ne _ _ (by omega)]; exact ec1
          have ec2 : G_60 (ch + 2) = .inl (y 0, 40, .inl ha) := by rw [eG_60, va_up_ne _ _ (by omega)]; exact ec2
          have ec3 : G_60 (ch + 3) = .inl (y 0, 8, .inl mi) := by rw [eG_60, va_up_ne _ _ (by omega)]; exact ec3
          have ec4 : G_60 (ch + 4) = .inl (y 0, 60, .inl (upd dO nd o)) := by rw [eG_60, va_up_ne _ _ (by omega)]; exact ec4
          have ec6 : G_60 (ch + 6) = .inl (y 0, 60, .inl dP) := by rw [eG_60, va_up_ne _ _ (by omega)]; exact ec6
          have ec5 : G_60 (ch + 5) = .inl (y 0, 60, .inl (upd dD nd da)) := by rw [eG_60]; exact va_up_self _ _ _
          refine lv_aload_n hx hb dX2_tellDiscount_61 rfl (lv_at hl 0 rfl) ?_
          refine pv_get (ci := 4) (C := RX2) (T := TX2) (N := 9) hx hb hts hinX2 hown hK hP hc0 ec0 rfl 5 (by decide) (hts (.fieldLink RX2 27 "StorageCharge$Charges" "discountPercents" "[I") (by decide +kernel)) (fun _ h9 => h9) rfl dX2_tellDiscount_62 ?_
          refine lv_aload_n hx hb dX2_tellDiscount_65 rfl (lv_at hl 0 rfl) ?_
          refine pv_get (ci := 4) (C := RX2) (T := TX2) (N := 9) hx hb hts hinX2 hown hK hP hc0 ec0 rfl 6 (by decide) (hts (.fieldLink RX2 30 "StorageCharge$Charges" "discounts" "I") (by decide +kernel)) (fun _ h9 => h9) rfl dX2_tellDiscount_66 ?_
          refine lv_iload_n hx hb dX2_tellDiscount_69 rfl (lv_at hl 3 rfl) ?_
          refine pv_iast hx hb hK hP hD hS hc6 0 ec6 rfl (k := nd) rfl (by omega) (by decide) dX2_tellDiscount_70 (fun H locs hP hD hS => ?_)
          obtain ⟨G_70, eG_70⟩ : ∃ gg9 : Nat → va_E, gg9 = va_up G_60 (ch + 6) (.inl (y 0, 60, .inl (upd dP nd pe))) := ⟨_, rfl⟩
          have hP : va_P D vwCl (wl Ls ad G_70) H := by rw [eG_70]; exact hP
          have hD : va_D (fun q => b0 ≤ q) (wl Ls ad G_70) := by rw [eG_70]; exact hD
          have ec0 : G_70 ch = .inr (4, [.ref (ad (ch + 1)), .ref (ad (ch + 2)), .ref (ad (ch + 3)), .ref (ad (ch + 4)), .ref (ad (ch + 5)), .ref (ad (ch + 6)), .int (nI nd), .int li, .int ow]) := by rw [eG_70, va_up_ne _ _ (by omega)]; exact ec0
          have ec1 : G_70 (ch + 1) = .inl (y 0, 40, .inl st) := by rw [eG_70, va_up_ne _ _ (by omega)]; exact ec1
          have ec2 : G_70 (ch + 2) = .inl (y 0, 40, .inl ha) := by rw [eG_70, va_up_ne _ _ (by omega)]; exact ec2
          have ec3 : G_70 (ch + 3) = .inl (y 0, 8, .inl mi) := by rw [eG_70, va_up_ne _ _ (by omega)]; exact ec3
          have ec4 : G_70 (ch + 4) = .inl (y 0, 60, .inl (upd dO nd o)) := by rw [eG_70, va_up_ne _ _ (by omega)]; exact ec4
          have ec5 : G_70 (ch + 5) = .inl (y 0, 60, .inl (upd dD nd da)) := by rw [eG_70, va_up_ne _ _ (by omega)]; exact ec5
          have ec6 : G_70 (ch + 6) = .inl (y 0, 60, .inl (upd dP nd pe)) := by rw [eG_70]; exact va_up_self _ _ _
          refine lv_aload_n hx hb dX2_tellDiscount_71 rfl (lv_at hl 0 rfl) ?_
          refine lv_dup hx hb dX2_tellDiscount_72 rfl ?_
          refine pv_get (ci := 4) (C := RX2) (T := TX2) (N := 9) hx hb hts hinX2 hown hK hP hc0 ec0 rfl 6 (by decide) (hts (.fieldLink RX2 30 "StorageCharge$Charges" "discounts" "I") (by decide +kernel)) (fun _ h9 => h9) rfl dX2_tellDiscount_73 ?_
          refine lv_iconst (v := 1) hx hb dX2_tellDiscount_76 (by decide) ?_
          refine lv_iadd hx hb dX2_tellDiscount_77 ?_
          refine lv_topi (fun z9 ez9 => ?_)
          obtain rfl : z9 = nI (nd + 1) := ez9.trans (nI_1 nd)
          refine pv_put (ci := 4) (v := .int (nI (nd + 1))) (ty := .int) (C := RX2) (T := TX2) (N := 9) hx hb hts hinX2 tyX2 tyX2_ok nmX2 hown hK hP hD hS hc0 ec0 rfl 6 (by decide) (hts (.fieldLink RX2 30 "StorageCharge$Charges" "discounts" "I") (by decide +kernel)) (fun _ h9 => h9) rfl (by decide +kernel) rfl rfl (Nat.le_of_ble_eq_true rfl) dX2_tellDiscount_78 (fun H locs hP hD hS => ?_)
          obtain ⟨G_78, eG_78⟩ : ∃ gg9 : Nat → va_E, gg9 = va_up G_70 ch (.inr (4, [.ref (ad (ch + 1)), .ref (ad (ch + 2)), .ref (ad (ch + 3)), .ref (ad (ch + 4)), .ref (ad (ch + 5)), .ref (ad (ch + 6)), .int (nI (nd + 1)), .int li, .int ow])) := ⟨_, rfl⟩
          have hP : va_P D vwCl (wl Ls ad G_78) H := by rw [eG_78]; exact hP
          have hD : va_D (fun q => b0 ≤ q) (wl Ls ad G_78) := by rw [eG_78]; exact hD
          have ec1 : G_78 (ch + 1) = .inl (y 0, 40, .inl st) := by rw [eG_78, va_up_ne _ _ (by omega)]; exact ec1
          have ec2 : G_78 (ch + 2) = .inl (y 0, 40, .inl ha) := by rw [eG_78, va_up_ne _ _ (by omega)]; exact ec2
          have ec3 : G_78 (ch + 3) = .inl (y 0, 8, .inl mi) := by rw [eG_78, va_up_ne _ _ (by omega)]; exact ec3
          have ec4 : G_78 (ch + 4) = .inl (y 0, 60, .inl (upd dO nd o)) := by rw [eG_78, va_up_ne _ _ (by omega)]; exact ec4
          have ec5 : G_78 (ch + 5) = .inl (y 0, 60, .inl (upd dD nd da)) := by rw [eG_78, va_up_ne _ _ (by omega)]; exact ec5
          have ec6 : G_78 (ch + 6) = .inl (y 0, 60, .inl (upd dP nd pe)) := by rw [eG_78, va_up_ne _ _ (by omega)]; exact ec6
          have ec0 : G_78 ch = .inr (4, [.ref (ad (ch + 1)), .ref (ad (ch + 2)), .ref (ad (ch + 3)), .ref (ad (ch + 4)), .ref (ad (ch + 5)), .ref (ad (ch + 6)), .int (nI (nd + 1)), .int li, .int ow]) := by rw [eG_78]; exact va_up_self _ _ _
          refine lv_iconst (v := 1) hx hb dX2_tellDiscount_81 (by decide) ?_
          refine W.widen (k := 0) (n := 0) (Nat.le_of_ble_eq_true rfl) (Nat.le_of_ble_eq_true rfl) ?_
          exact W.zret (v := 1) hx hb hr (by first | rfl | decide | (simp [narrow]; done) | assumption) (fun t ht hW => ⟨⟨1, wl Ls ad G_78, rfl, (Or.inl ⟨rfl, ⟨hw5, hw15, hno, hlt⟩, G_78, rfl, ⟨⟨hc0, hc1, hc2, hc3, hc4, hc5, hc6⟩, ec0, ec1, ec2, ec3, ec4, ec5, ec6, hlt⟩, fun j h => by rw [eG_78, va_up_ne _ _ (by omega), eG_70, va_up_ne _ _ (by omega), eG_60, va_up_ne _ _ (by omega), eG_50, va_up_ne _ _ (by omega)]⟩), by rw [ht]; exact hP, hD⟩, hS.F ht⟩) hS.2.2 dX2_tellDiscount_82
        · refine lv_iconst (v := 0) hx hb dX2_tellDiscount_39 (by decide) ?_
          refine W.widen (k := 0) (n := 0) (Nat.le_of_ble_eq_true rfl) (Nat.le_of_ble_eq_true rfl) ?_
          exact W.zret (v := 0) hx hb hr (by first | rfl | decide | (simp [narrow]; done) | assumption) (fun t ht hW => ⟨⟨0, wl Ls ad G, rfl, (Or.inr ⟨rfl, (by rintro ⟨h5, h6, h7, h8⟩; first | exact wI_eq0.mp (by rw [← hr_5]; exact c_8) h5 | exact wI_eq0.mp (by rw [← hr_15]; exact c_18) h6 | exact hr_24.elim (fun h => h7 h.2) (fun h => c_27 h.1) | exact c_36 (nI_lt h8 (by decide))), rfl⟩), by rw [ht]; exact hP, hD⟩, hS.F ht⟩) hS.2.2 dX2_tellDiscount_40

def cOK (lt o s t : Int32) (st ha mi dO dD : Nat → Int32) (nd : Nat) : Prop :=
  (lt = 83 ∧ inR s 4 ∧ inR t 10000 ∧ ∃ k, k < 40 ∧ 5 * o + s = nI k ∧ st k = -1) ∨ (lt = 72 ∧ inR s 4 ∧ inR t 10000 ∧ ∃ k, k < 40 ∧ 5 * o + s = nI k ∧ ha k = -1) ∨ (lt = 77 ∧ inR s 10000 ∧ ∃ k, k < 8 ∧ o = nI k ∧ mi k = -1) ∨ (lt = 86 ∧ (1 ≤ s ∧ s ≤ 9000) ∧ inR t 100 ∧ ¬ hasD dO dD o s nd ∧ nd < 60)
def cUp (k lt : Int32) (f : Nat → Int32) (i : Nat) (x : Int32) : Nat → Int32 := if lt = k then upd f i x else f
def cNd (lt : Int32) (nd : Nat) : Nat := if lt = 86 then nd + 1 else nd
theorem cUp_1 {k lt : Int32} {f : Nat → Int32} {i : Nat} {x : Int32} (h : lt = k) : cUp k lt f i x = upd f i x := if_pos h
theorem cUp_0 {k lt : Int32} {f : Nat → Int32} {i : Nat} {x : Int32} (h : ¬ lt = k) : cUp k lt f i x = f := if_neg h

set_option maxHeartbeats 4000000 in
set_option maxRecDepth 100000 in
/-- Charges.tellOf -/
theorem c_X2_tellOf (l : Launch) (hl0 : l.stackTraces = false) (D : va_G) (y : Nat → ClassId) (b0 : Nat) (Ls : List Nat) (ad : Nat → Nat) (G : Nat → va_E) (ch : Nat) (st ha mi dO dD dP : Nat → Int32) (nd : Nat) (li ow : Int32) (hC : ChargesAt y Ls ad G ch st ha mi dO dD dP nd li ow) (lt o s2 s3 : Int32) : Met l yX2_tellOf wsX2_tellOf ({ frames := 2, cells := 0, slots := 0, locals := 46 }) (va_Pc [.ref (ad ch), .int lt, .int o, .int s2, .int s3] (WdM D y b0 (wl Ls ad G))) (va_Qi (fun (r : Int32) (u : va_W) => (r = 1 ∧ cOK lt o s2 s3 st ha mi dO dD nd ∧ ∃ G2, u = wl Ls ad G2 ∧ ChargesAt y Ls ad G2 ch (cUp 83 lt st (5 * o + s2).toNatClampNeg s3) (cUp 72 lt ha (5 * o + s2).toNatClampNeg s3) (cUp 77 lt mi o.toNatClampNeg s2) (cUp 86 lt dO nd o) (cUp 86 lt dD nd s2) (cUp 86 lt dP nd s3) (cNd lt nd) li ow ∧ (∀ j, j < ch ∨ ch + 6 < j → G2 j = G j)) ∨ (r = 0 ∧ ¬ cOK lt o s2 s3 st ha mi dO dD nd ∧ u = wl Ls ad G)) (WB D b0) (fun q => b0 ≤ q)) 0 0 (fun q => b0 ≤ q) := by
  refine Met.ofW (cc := cX2_tellOf) (maxL := 5) (ret := (some .boolean)) (by decide) rfl ?_
  intro p e s m args below meth c s₁ B hml hv
  obtain ⟨rfl, ⟨hP, hK, hN⟩, hD, hb0, hT⟩ := hv
  have hx := B.exec
  have hb := B.bytes
  have hr := B.returns
  have hts := atoms_spec (ws := wsX2_tellOf) B.pre
  have hown : s.vm.findClass RX2 = some m.cls := findClass_of_methodNamed B.named
  have hlocks := B.notSynchronized
  have hS : va_S (fun q => b0 ≤ q) s.heap s.heap [] := va_S.rf
  have hinX2 : ∀ w ∈ wsX20, w ∈ wsX2_tellOf := by decide +kernel
  obtain ⟨⟨hc0, hc1, hc2, hc3, hc4, hc5, hc6⟩, ec0, ec1, ec2, ec3, ec4, ec5, ec6, hnd⟩ := id hC
  have hl := lv_entry ([.ref (ad ch), .int lt, .int o, .int s2, .int s3]) (n := 5) (Nat.le_of_ble_eq_true rfl)
  rw [lg_entry_eq]
  generalize (lg_sl ([.ref (ad ch), .int lt, .int o, .int s2, .int s3]) ++ List.replicate (5 - (lg_sl ([.ref (ad ch), .int lt, .int o, .int s2, .int s3])).length) Slot.unset).toArray = ls at hl ⊢
  have hl : lv_has ls 5 [(0, .ref (ad ch)), (1, .int lt), (2, .int o), (3, .int s2), (4, .int s3)] := hl
  refine lv_iload_n hx hb dX2_tellOf_0 rfl (lv_at hl 1 rfl) ?_
  rcases lsw4 lt with hsw | hsw | hsw | hsw | hsw
  · refine lv_lookup (tgt := 76) (off := 75) hx hb dX2_tellOf_1 (by decide) (by rw [hsw]; rfl) (by decide) ?_
    refine lv_iload_n hx hb dX2_tellOf_76 rfl (lv_at hl 3 rfl) ?_
    refine lv_iconst (v := 0) hx hb dX2_tellOf_77 (by decide) ?_
    refine lv_iconst (v := 4) hx hb dX2_tellOf_78 (by decide) ?_
    refine vp_callSi (va_Run.run (va_runSN (As := [.int s2, .int 0, .int 4]) (rest := []) ⟨hx, hb, hml, hown, hts⟩ (c_X7_isWithin l s2 0 4) ⟨va_cnB 3 hts gX2_tellOf_X7_isWithin_n49 rfl rfl rfl (hN (.methodLinkNest RX2 49 yX7_isWithin "StorageCharge") (by decide +kernel)) (hts (.initialized RX7) (by decide +kernel)) (by decide +kernel) ⟨Nat.le_of_ble_eq_true rfl, Nat.le_of_ble_eq_true rfl⟩, hts (.static yX7_isWithin) (by decide +kernel), trivial⟩ ⟨fun _ _ _ _ q => q, fun U hU hW => ⟨rfl, trivial⟩⟩ rfl rfl hl.1 rfl (lv_room (Nat.le_of_ble_eq_true rfl)) dX2_tellOf_79 ⟨(Nat.le_of_ble_eq_true rfl), (Nat.le_of_ble_eq_true rfl)⟩)) (fun r_79 hr_79 => ?_)
    refine lv_if_eq (tgt := 106) hx hb dX2_tellOf_82 (by decide) (fun c_82 => ?_) (fun c_82 => ?_)
    · have hnw : ¬ inR s2 4 := wI_eq0.mp (by rw [← hr_79]; exact c_82)
      refine lv_iconst (v := 0) hx hb dX2_tellOf_106 (by decide) ?_
      refine W.widen (k := 0) (n := 0) (Nat.le_of_ble_eq_true rfl) (Nat.le_of_ble_eq_true rfl) ?_
      exact W.zret (v := 0) hx hb hr (by first | rfl | decide | (simp [narrow]; done) | assumption) (fun t ht hW => ⟨⟨0, wl Ls ad G, rfl, (Or.inr ⟨rfl, (by rintro (⟨h0, h1, h2, h3⟩ | ⟨h0, h1, h2, h3⟩ | ⟨h0, h1, h3⟩ | ⟨h0, h1, h2, h3⟩) <;> first | exact absurd (hsw.symm.trans h0) (by decide) | exact hsw.1 h0 | exact hsw.2.1 h0 | exact hsw.2.2.1 h0 | exact hsw.2.2.2 h0 | exact hnw h1 | exact hno ⟨h2, by rw [hr_91]; exact h3⟩ | exact hno ⟨h2, by rw [hr_59]; exact h3⟩ | exact hno ⟨h1, h3⟩), rfl⟩), by rw [ht]; exact hP, hD⟩, hS.F ht⟩) hS.2.2 dX2_tellOf_107
    · have hws : inR s2 4 := Decidable.byContradiction fun h => c_82 (by rw [hr_79]; exact wI_eq0.mpr h)
      refine lv_aload_n hx hb dX2_tellOf_85 rfl (lv_at hl 0 rfl) ?_
      refine pv_get (ci := 4) (C := RX2) (T := TX2) (N := 9) hx hb hts hinX2 hown hK hP hc0 ec0 rfl 1 (by decide) (hts (.fieldLink RX2 15 "StorageCharge$Charges" "handling" "[I") (by decide +kernel)) (fun _ h9 => h9) rfl dX2_tellOf_86 ?_
      refine lv_iload_n hx hb dX2_tellOf_89 rfl (lv_at hl 2 rfl) ?_
      refine lv_iload_n hx hb dX2_tellOf_90 rfl (lv_at hl 3 rfl) ?_
      refine vp_callSi (va_Run.run (va_runS (As := [.int o, .int s2]) (rest := [.ref (ad (ch + 2))]) ⟨hx, hb, hml, hown, hts⟩ (c_X2_place l o s2) (va_cwS 2 hts gX2_tellOf_X2_place rfl rfl rfl (by decide +kernel) ⟨Nat.le_of_ble_eq_true rfl, Nat.le_of_ble_eq_true rfl⟩) ⟨fun _ _ _ _ q => q, fun U hU hW => ⟨rfl, trivial⟩⟩ rfl rfl hl.1 rfl (lv_room (Nat.le_of_ble_eq_true rfl)) dX2_tellOf_91 ⟨(Nat.le_of_ble_eq_true rfl), (Nat.le_of_ble_eq_true rfl)⟩)) (fun r_91 hr_91 => ?_)
      refine lv_iload hx hb dX2_tellOf_94 (lv_at hl 4 rfl) ?_
      refine va_calli (va_runS (As := [.ref (ad (ch + 2)), .int r_91, .int s3]) (rest := []) ⟨hx, hb, hml, hown, hts⟩ (c_X2_tellCents l hl0 D y b0 Ls ad G (ch + 2) 40 ha hc2 ec2 (by decide) (by decide) r_91 s3) (va_cwS 3 hts gX2_tellOf_X2_tellCents rfl rfl rfl (by decide +kernel) ⟨(Nat.le_of_ble_eq_true rfl), (Nat.le_of_ble_eq_true rfl)⟩) ⟨WdM_blind, WdM_at hP hK hN hD hS hb0 hT⟩ rfl rfl hl.1 rfl (lv_room (Nat.le_of_ble_eq_true rfl)) dX2_tellOf_96 ⟨(Nat.le_of_ble_eq_true rfl), (Nat.le_of_ble_eq_true rfl)⟩) hS (fun _ _ h => h) (fun _ h => h) (fun r_96 u96 t H locs ht hvm hw96 hB hz1 hk1 hS => ?_)
      obtain ⟨hP, hD⟩ := hB
      rw [ht] at hP
      rcases hw96 with ⟨rfl, hok, rfl⟩ | ⟨rfl, hno, rfl⟩
      · obtain ⟨g9, eg9⟩ : ∃ g : Nat → va_E, g = va_up G (ch + 2) (.inl (y 0, 40, .inl (upd ha (r_91).toNatClampNeg s3))) := ⟨_, rfl⟩
        rw [← eg9] at hP hD
        have ec0 : g9 ch = .inr (4, [.ref (ad (ch + 1)), .ref (ad (ch + 2)), .ref (ad (ch + 3)), .ref (ad (ch + 4)), .ref (ad (ch + 5)), .ref (ad (ch + 6)), .int (nI nd), .int li, .int ow]) := by rw [eg9, va_up_ne _ _ (by omega)]; exact ec0
        have ec1 : g9 (ch + 1) = .inl (y 0, 40, .inl st) := by rw [eg9, va_up_ne _ _ (by omega)]; exact ec1
        have ec3 : g9 (ch + 3) = .inl (y 0, 8, .inl mi) := by rw [eg9, va_up_ne _ _ (by omega)]; exact ec3
        have ec4 : g9 (ch + 4) = .inl (y 0, 60, .inl dO) := by rw [eg9, va_up_ne _ _ (by omega)]; exact ec4
        have ec5 : g9 (ch + 5) = .inl (y 0, 60, .inl dD) := by rw [eg9, va_up_ne _ _ (by omega)]; exact ec5
        have ec6 : g9 (ch + 6) = .inl (y 0, 60, .inl dP) := by rw [eg9, va_up_ne _ _ (by omega)]; exact ec6
        have ec2 : g9 (ch + 2) = .inl (y 0, 40, .inl (upd ha (r_91).toNatClampNeg s3)) := by rw [eg9]; exact va_up_self _ _ _
        refine lv_if_eq (tgt := 106) hx hb dX2_tellOf_99 (by decide) (fun c_99 => ?_) (fun c_99 => ?_)
        · exact absurd c_99 (by decide)
        · refine lv_iconst (v := 1) hx hb dX2_tellOf_102 (by decide) ?_
          refine lv_goto (tgt := 107) hx hb dX2_tellOf_103 (by decide) ?_
          refine W.widen (k := 0) (n := 0) (Nat.le_of_ble_eq_true rfl) (Nat.le_of_ble_eq_true rfl) ?_
          exact W.zret (v := 1) hx hb hr (by first | rfl | decide | (simp [narrow]; done) | assumption) (fun t ht hW => ⟨⟨1, wl Ls ad g9, rfl, (Or.inl ⟨rfl, Or.inr (Or.inl ⟨hsw, hws, hok.1, by rw [← hr_91]; exact hok.2⟩), g9, rfl, by rw [cUp_0 (by rw [hsw]; decide), cUp_1 hsw, cUp_0 (by rw [hsw]; decide), cUp_0 (by rw [hsw]; decide), cUp_0 (by rw [hsw]; decide), cUp_0 (by rw [hsw]; decide), cNd, if_neg (by rw [hsw]; decide)]; rw [← hr_91]; exact ⟨⟨hc0, hc1, hc2, hc3, hc4, hc5, hc6⟩, ec0, ec1, ec2, ec3, ec4, ec5, ec6, hnd⟩, fun j h => by rw [eg9, va_up_ne _ _ (by omega)]⟩), by rw [ht]; exact hP, hD⟩, hS.F ht⟩) hS.2.2 dX2_tellOf_107
      · refine lv_if_eq (tgt := 106) hx hb dX2_tellOf_99 (by decide) (fun c_99 => ?_) (fun c_99 => ?_)
        · refine lv_iconst (v := 0) hx hb dX2_tellOf_106 (by decide) ?_
          refine W.widen (k := 0) (n := 0) (Nat.le_of_ble_eq_true rfl) (Nat.le_of_ble_eq_true rfl) ?_
          exact W.zret (v := 0) hx hb hr (by first | rfl | decide | (simp [narrow]; done) | assumption) (fun t ht hW => ⟨⟨0, wl Ls ad G, rfl, (Or.inr ⟨rfl, (by rintro (⟨h0, h1, h2, h3⟩ | ⟨h0, h1, h2, h3⟩ | ⟨h0, h1, h3⟩ | ⟨h0, h1, h2, h3⟩) <;> first | exact absurd (hsw.symm.trans h0) (by decide) | exact hsw.1 h0 | exact hsw.2.1 h0 | exact hsw.2.2.1 h0 | exact hsw.2.2.2 h0 | exact hnw h1 | exact hno ⟨h2, by rw [hr_91]; exact h3⟩ | exact hno ⟨h2, by rw [hr_59]; exact h3⟩ | exact hno ⟨h1, h3⟩), rfl⟩), by rw [ht]; exact hP, hD⟩, hS.F ht⟩) hS.2.2 dX2_tellOf_107
        · exact absurd rfl c_99
  · refine lv_lookup (tgt := 108) (off := 107) hx hb dX2_tellOf_1 (by decide) (by rw [hsw]; rfl) (by decide) ?_
    refine lv_aload_n hx hb dX2_tellOf_108 rfl (lv_at hl 0 rfl) ?_
    refine pv_get (ci := 4) (C := RX2) (T := TX2) (N := 9) hx hb hts hinX2 hown hK hP hc0 ec0 rfl 2 (by decide) (hts (.fieldLink RX2 18 "StorageCharge$Charges" "minimum" "[I") (by decide +kernel)) (fun _ h9 => h9) rfl dX2_tellOf_109 ?_
    refine lv_iload_n hx hb dX2_tellOf_112 rfl (lv_at hl 2 rfl) ?_
    refine lv_iload_n hx hb dX2_tellOf_113 rfl (lv_at hl 3 rfl) ?_
    refine va_calli (va_runS (As := [.ref (ad (ch + 3)), .int o, .int s2]) (rest := []) ⟨hx, hb, hml, hown, hts⟩ (c_X2_tellCents l hl0 D y b0 Ls ad G (ch + 3) 8 mi hc3 ec3 (by decide) (by decide) o s2) (va_cwS 3 hts gX2_tellOf_X2_tellCents rfl rfl rfl (by decide +kernel) ⟨(Nat.le_of_ble_eq_true rfl), (Nat.le_of_ble_eq_true rfl)⟩) ⟨WdM_blind, WdM_at hP hK hN hD hS hb0 hT⟩ rfl rfl hl.1 rfl (lv_room (Nat.le_of_ble_eq_true rfl)) dX2_tellOf_114 ⟨(Nat.le_of_ble_eq_true rfl), (Nat.le_of_ble_eq_true rfl)⟩) hS (fun _ _ h => h) (fun _ h => h) (fun r_114 u114 t H locs ht hvm hw114 hB hz1 hk1 hS => ?_)
    obtain ⟨hP, hD⟩ := hB
    rw [ht] at hP
    rcases hw114 with ⟨rfl, hok, rfl⟩ | ⟨rfl, hno, rfl⟩
    · obtain ⟨g9, eg9⟩ : ∃ g : Nat → va_E, g = va_up G (ch + 3) (.inl (y 0, 8, .inl (upd mi (o).toNatClampNeg s2))) := ⟨_, rfl⟩
      rw [← eg9] at hP hD
      have ec0 : g9 ch = .inr (4, [.ref (ad (ch + 1)), .ref (ad (ch + 2)), .ref (ad (ch + 3)), .ref (ad (ch + 4)), .ref (ad (ch + 5)), .ref (ad (ch + 6)), .int (nI nd), .int li, .int ow]) := by rw [eg9, va_up_ne _ _ (by omega)]; exact ec0
      have ec1 : g9 (ch + 1) = .inl (y 0, 40, .inl st) := by rw [eg9, va_up_ne _ _ (by omega)]; exact ec1
      have ec2 : g9 (ch + 2) = .inl (y 0, 40, .inl ha) := by rw [eg9, va_up_ne _ _ (by omega)]; exact ec2
      have ec4 : g9 (ch + 4) = .inl (y 0, 60, .inl dO) := by rw [eg9, va_up_ne _ _ (by omega)]; exact ec4
      have ec5 : g9 (ch + 5) = .inl (y 0, 60, .inl dD) := by rw [eg9, va_up_ne _ _ (by omega)]; exact ec5
      have ec6 : g9 (ch + 6) = .inl (y 0, 60, .inl dP) := by rw [eg9, va_up_ne _ _ (by omega)]; exact ec6
      have ec3 : g9 (ch + 3) = .inl (y 0, 8, .inl (upd mi (o).toNatClampNeg s2)) := by rw [eg9]; exact va_up_self _ _ _
      refine W.widen (k := 0) (n := 0) (Nat.le_of_ble_eq_true rfl) (Nat.le_of_ble_eq_true rfl) ?_
      exact W.zret (v := 1) hx hb hr (by first | rfl | decide | (simp [narrow]; done) | assumption) (fun t ht hW => ⟨⟨1, wl Ls ad g9, rfl, (Or.inl ⟨rfl, Or.inr (Or.inr (Or.inl ⟨hsw, hok⟩)), g9, rfl, by rw [cUp_0 (by rw [hsw]; decide), cUp_0 (by rw [hsw]; decide), cUp_1 hsw, cUp_0 (by rw [hsw]; decide), cUp_0 (by rw [hsw]; decide), cUp_0 (by rw [hsw]; decide), cNd, if_neg (by rw [hsw]; decide)]; exact ⟨⟨hc0, hc1, hc2, hc3, hc4, hc5, hc6⟩, ec0, ec1, ec2, ec3, ec4, ec5, ec6, hnd⟩, fun j h => by rw [eg9, va_up_ne _ _ (by omega)]⟩), by rw [ht]; exact hP, hD⟩, hS.F ht⟩) hS.2.2 dX2_tellOf_117
    · refine W.widen (k := 0) (n := 0) (Nat.le_of_ble_eq_true rfl) (Nat.le_of_ble_eq_true rfl) ?_
      exact W.zret (v := 0) hx hb hr (by first | rfl | decide | (simp [narrow]; done) | assumption) (fun t ht hW => ⟨⟨0, wl Ls ad G, rfl, (Or.inr ⟨rfl, (by rintro (⟨h0, h1, h2, h3⟩ | ⟨h0, h1, h2, h3⟩ | ⟨h0, h1, h3⟩ | ⟨h0, h1, h2, h3⟩) <;> first | exact absurd (hsw.symm.trans h0) (by decide) | exact hsw.1 h0 | exact hsw.2.1 h0 | exact hsw.2.2.1 h0 | exact hsw.2.2.2 h0 | exact hnw h1 | exact hno ⟨h2, by rw [hr_91]; exact h3⟩ | exact hno ⟨h2, by rw [hr_59]; exact h3⟩ | exact hno ⟨h1, h3⟩), rfl⟩), by rw [ht]; exact hP, hD⟩, hS.F ht⟩) hS.2.2 dX2_tellOf_117
  · refine lv_lookup (tgt := 44) (off := 43) hx hb dX2_tellOf_1 (by decide) (by rw [hsw]; rfl) (by decide) ?_
    refine lv_iload_n hx hb dX2_tellOf_44 rfl (lv_at hl 3 rfl) ?_
    refine lv_iconst (v := 0) hx hb dX2_tellOf_45 (by decide) ?_
    refine lv_iconst (v := 4) hx hb dX2_tellOf_46 (by decide) ?_
    refine vp_callSi (va_Run.run (va_runSN (As := [.int s2, .int 0, .int 4]) (rest := []) ⟨hx, hb, hml, hown, hts⟩ (c_X7_isWithin l s2 0 4) ⟨va_cnB 3 hts gX2_tellOf_X7_isWithin_n49 rfl rfl rfl (hN (.methodLinkNest RX2 49 yX7_isWithin "StorageCharge") (by decide +kernel)) (hts (.initialized RX7) (by decide +kernel)) (by decide +kernel) ⟨Nat.le_of_ble_eq_true rfl, Nat.le_of_ble_eq_true rfl⟩, hts (.static yX7_isWithin) (by decide +kernel), trivial⟩ ⟨fun _ _ _ _ q => q, fun U hU hW => ⟨rfl, trivial⟩⟩ rfl rfl hl.1 rfl (lv_room (Nat.le_of_ble_eq_true rfl)) dX2_tellOf_47 ⟨(Nat.le_of_ble_eq_true rfl), (Nat.le_of_ble_eq_true rfl)⟩)) (fun r_47 hr_47 => ?_)
    refine lv_if_eq (tgt := 74) hx hb dX2_tellOf_50 (by decide) (fun c_50 => ?_) (fun c_50 => ?_)
    · have hnw : ¬ inR s2 4 := wI_eq0.mp (by rw [← hr_47]; exact c_50)
      refine lv_iconst (v := 0) hx hb dX2_tellOf_74 (by decide) ?_
      refine W.widen (k := 0) (n := 0) (Nat.le_of_ble_eq_true rfl) (Nat.le_of_ble_eq_true rfl) ?_
      exact W.zret (v := 0) hx hb hr (by first | rfl | decide | (simp [narrow]; done) | assumption) (fun t ht hW => ⟨⟨0, wl Ls ad G, rfl, (Or.inr ⟨rfl, (by rintro (⟨h0, h1, h2, h3⟩ | ⟨h0, h1, h2, h3⟩ | ⟨h0, h1, h3⟩ | ⟨h0, h1, h2, h3⟩) <;> first | exact absurd (hsw.symm.trans h0) (by decide) | exact hsw.1 h0 | exact hsw.2.1 h0 | exact hsw.2.2.1 h0 | exact hsw.2.2.2 h0 | exact hnw h1 | exact hno ⟨h2, by rw [hr_91]; exact h3⟩ | exact hno ⟨h2, by rw [hr_59]; exact h3⟩ | exact hno ⟨h1, h3⟩), rfl⟩), by rw [ht]; exact hP, hD⟩, hS.F ht⟩) hS.2.2 dX2_tellOf_75
    · have hws : inR s2 4 := Decidable.byContradiction fun h => c_50 (by rw [hr_47]; exact wI_eq0.mpr h)
      refine lv_aload_n hx hb dX2_tellOf_53 rfl (lv_at hl 0 rfl) ?_
      refine pv_get (ci := 4) (C := RX2) (T := TX2) (N := 9) hx hb hts hinX2 hown hK hP hc0 ec0 rfl 0 (by decide) (hts (.fieldLink RX2 9 "StorageCharge$Charges" "storage" "[I") (by decide +kernel)) (fun _ h9 => h9) rfl dX2_tellOf_54 ?_
      refine lv_iload_n hx hb dX2_tellOf_57 rfl (lv_at hl 2 rfl) ?_
      refine lv_iload_n hx hb dX2_tellOf_58 rfl (lv_at hl 3 rfl) ?_
      refine vp_callSi (va_Run.run (va_runS (As := [.int o, .int s2]) (rest := [.ref (ad (ch + 1))]) ⟨hx, hb, hml, hown, hts⟩ (c_X2_place l o s2) (va_cwS 2 hts gX2_tellOf_X2_place rfl rfl rfl (by decide +kernel) ⟨Nat.le_of_ble_eq_true rfl, Nat.le_of_ble_eq_true rfl⟩) ⟨fun _ _ _ _ q => q, fun U hU hW => ⟨rfl, trivial⟩⟩ rfl rfl hl.1 rfl (lv_room (Nat.le_of_ble_eq_true rfl)) dX2_tellOf_59 ⟨(Nat.le_of_ble_eq_true rfl), (Nat.le_of_ble_eq_true rfl)⟩)) (fun r_59 hr_59 => ?_)
      refine lv_iload hx hb dX2_tellOf_62 (lv_at hl 4 rfl) ?_
      refine va_calli (va_runS (As := [.ref (ad (ch + 1)), .int r_59, .int s3]) (rest := []) ⟨hx, hb, hml, hown, hts⟩ (c_X2_tellCents l hl0 D y b0 Ls ad G (ch + 1) 40 st hc1 ec1 (by decide) (by decide) r_59 s3) (va_cwS 3 hts gX2_tellOf_X2_tellCents rfl rfl rfl (by decide +kernel) ⟨(Nat.le_of_ble_eq_true rfl), (Nat.le_of_ble_eq_true rfl)⟩) ⟨WdM_blind, WdM_at hP hK hN hD hS hb0 hT⟩ rfl rfl hl.1 rfl (lv_room (Nat.le_of_ble_eq_true rfl)) dX2_tellOf_64 ⟨(Nat.le_of_ble_eq_true rfl), (Nat.le_of_ble_eq_true rfl)⟩) hS (fun _ _ h => h) (fun _ h => h) (fun r_64 u64 t H locs ht hvm hw64 hB hz1 hk1 hS => ?_)
      obtain ⟨hP, hD⟩ := hB
      rw [ht] at hP
      rcases hw64 with ⟨rfl, hok, rfl⟩ | ⟨rfl, hno, rfl⟩
      · obtain ⟨g9, eg9⟩ : ∃ g : Nat → va_E, g = va_up G (ch + 1) (.inl (y 0, 40, .inl (upd st (r_59).toNatClampNeg s3))) := ⟨_, rfl⟩
        rw [← eg9] at hP hD
        have ec0 : g9 ch = .inr (4, [.ref (ad (ch + 1)), .ref (ad (ch + 2)), .ref (ad (ch + 3)), .ref (ad (ch + 4)), .ref (ad (ch + 5)), .ref (ad (ch + 6)), .int (nI nd), .int li, .int ow]) := by rw [eg9, va_up_ne _ _ (by omega)]; exact ec0
        have ec2 : g9 (ch + 2) = .inl (y 0, 40, .inl ha) := by rw [eg9, va_up_ne _ _ (by omega)]; exact ec2
        have ec3 : g9 (ch + 3) = .inl (y 0, 8, .inl mi) := by rw [eg9, va_up_ne _ _ (by omega)]; exact ec3
        have ec4 : g9 (ch + 4) = .inl (y 0, 60, .inl dO) := by rw [eg9, va_up_ne _ _ (by omega)]; exact ec4
        have ec5 : g9 (ch + 5) = .inl (y 0, 60, .inl dD) := by rw [eg9, va_up_ne _ _ (by omega)]; exact ec5
        have ec6 : g9 (ch + 6) = .inl (y 0, 60, .inl dP) := by rw [eg9, va_up_ne _ _ (by omega)]; exact ec6
        have ec1 : g9 (ch + 1) = .inl (y 0, 40, .inl (upd st (r_59).toNatClampNeg s3)) := by rw [eg9]; exact va_up_self _ _ _
        refine lv_if_eq (tgt := 74) hx hb dX2_tellOf_67 (by decide) (fun c_67 => ?_) (fun c_67 => ?_)
        · exact absurd c_67 (by decide)
        · refine lv_iconst (v := 1) hx hb dX2_tellOf_70 (by decide) ?_
          refine lv_goto (tgt := 75) hx hb dX2_tellOf_71 (by decide) ?_
          refine W.widen (k := 0) (n := 0) (Nat.le_of_ble_eq_true rfl) (Nat.le_of_ble_eq_true rfl) ?_
          exact W.zret (v := 1) hx hb hr (by first | rfl | decide | (simp [narrow]; done) | assumption) (fun t ht hW => ⟨⟨1, wl Ls ad g9, rfl, (Or.inl ⟨rfl, Or.inl ⟨hsw, hws, hok.1, by rw [← hr_59]; exact hok.2⟩, g9, rfl, by rw [cUp_1 hsw, cUp_0 (by rw [hsw]; decide), cUp_0 (by rw [hsw]; decide), cUp_0 (by rw [hsw]; decide), cUp_0 (by rw [hsw]; decide), cUp_0 (by rw [hsw]; decide), cNd, if_neg (by rw [hsw]; decide)]; rw [← hr_59]; exact ⟨⟨hc0, hc1, hc2, hc3, hc4, hc5, hc6⟩, ec0, ec1, ec2, ec3, ec4, ec5, ec6, hnd⟩, fun j h => by rw [eg9, va_up_ne _ _ (by omega)]⟩), by rw [ht]; exact hP, hD⟩, hS.F ht⟩) hS.2.2 dX2_tellOf_75
      · refine lv_if_eq (tgt := 74) hx hb dX2_tellOf_67 (by decide) (fun c_67 => ?_) (fun c_67 => ?_)
        · refine lv_iconst (v := 0) hx hb dX2_tellOf_74 (by decide) ?_
          refine W.widen (k := 0) (n := 0) (Nat.le_of_ble_eq_true rfl) (Nat.le_of_ble_eq_true rfl) ?_
          exact W.zret (v := 0) hx hb hr (by first | rfl | decide | (simp [narrow]; done) | assumption) (fun t ht hW => ⟨⟨0, wl Ls ad G, rfl, (Or.inr ⟨rfl, (by rintro (⟨h0, h1, h2, h3⟩ | ⟨h0, h1, h2, h3⟩ | ⟨h0, h1, h3⟩ | ⟨h0, h1, h2, h3⟩) <;> first | exact absurd (hsw.symm.trans h0) (by decide) | exact hsw.1 h0 | exact hsw.2.1 h0 | exact hsw.2.2.1 h0 | exact hsw.2.2.2 h0 | exact hnw h1 | exact hno ⟨h2, by rw [hr_91]; exact h3⟩ | exact hno ⟨h2, by rw [hr_59]; exact h3⟩ | exact hno ⟨h1, h3⟩), rfl⟩), by rw [ht]; exact hP, hD⟩, hS.F ht⟩) hS.2.2 dX2_tellOf_75
        · exact absurd rfl c_67
  · refine lv_lookup (tgt := 118) (off := 117) hx hb dX2_tellOf_1 (by decide) (by rw [hsw]; rfl) (by decide) ?_
    refine lv_aload_n hx hb dX2_tellOf_118 rfl (lv_at hl 0 rfl) ?_
    refine lv_iload_n hx hb dX2_tellOf_119 rfl (lv_at hl 2 rfl) ?_
    refine lv_iload_n hx hb dX2_tellOf_120 rfl (lv_at hl 3 rfl) ?_
    refine lv_iload hx hb dX2_tellOf_121 (lv_at hl 4 rfl) ?_
    refine va_calli (va_runV (As := [.int o, .int s2, .int s3]) (rest := []) ⟨hx, hb, hml, hown, hts⟩ (c_X2_tellDiscount l hl0 D y b0 Ls ad G ch st ha mi dO dD dP nd li ow hC o s2 s3) (cwV 3 hts gX2_tellOf_X2_tellDiscount rfl rfl rfl (by decide +kernel) ⟨(Nat.le_of_ble_eq_true rfl), (Nat.le_of_ble_eq_true rfl)⟩) ⟨WdM_blind, Wd_recv hK hP (ci := 4) rfl hc0 ec0, WdM_at hP hK hN hD hS hb0 hT⟩ rfl rfl hl.1 rfl (lv_room (Nat.le_of_ble_eq_true rfl)) dX2_tellOf_123 ⟨(Nat.le_of_ble_eq_true rfl), (Nat.le_of_ble_eq_true rfl)⟩) hS (fun _ _ h => h) (fun _ h => h) (fun r_123 u123 t H locs ht hvm hw123 hB hz1 hk1 hS => ?_)
    obtain ⟨hP, hD⟩ := hB
    rw [ht] at hP
    rcases hw123 with ⟨rfl, hok, g9, rfl, hC9, hfr9⟩ | ⟨rfl, hno, rfl⟩
    · refine W.widen (k := 0) (n := 0) (Nat.le_of_ble_eq_true rfl) (Nat.le_of_ble_eq_true rfl) ?_
      exact W.zret (v := 1) hx hb hr (by first | rfl | decide | (simp [narrow]; done) | assumption) (fun t ht hW => ⟨⟨1, wl Ls ad g9, rfl, (Or.inl ⟨rfl, Or.inr (Or.inr (Or.inr ⟨hsw, hok⟩)), g9, rfl, by rw [cUp_0 (by rw [hsw]; decide), cUp_0 (by rw [hsw]; decide), cUp_0 (by rw [hsw]; decide), cUp_1 hsw, cUp_1 hsw, cUp_1 hsw, cNd, if_pos hsw]; exact hC9, hfr9⟩), by rw [ht]; exact hP, hD⟩, hS.F ht⟩) hS.2.2 dX2_tellOf_126
    · refine W.widen (k := 0) (n := 0) (Nat.le_of_ble_eq_true rfl) (Nat.le_of_ble_eq_true rfl) ?_
      exact W.zret (v := 0) hx hb hr (by first | rfl | decide | (simp [narrow]; done) | assumption) (fun t ht hW => ⟨⟨0, wl Ls ad G, rfl, (Or.inr ⟨rfl, (by rintro (⟨h0, h1⟩ | ⟨h0, h1⟩ | ⟨h0, h1⟩ | ⟨h0, h1⟩) <;> first | exact absurd (hsw.symm.trans h0) (by decide) | exact hno h1), rfl⟩), by rw [ht]; exact hP, hD⟩, hS.F ht⟩) hS.2.2 dX2_tellOf_126
  · refine lv_lookup (tgt := 127) (off := 126) hx hb dX2_tellOf_1 (by decide) ((lv_osw (k := 72) hsw.1 (by decide)).trans ((lv_osw (k := 77) hsw.2.1 (by decide)).trans ((lv_osw (k := 83) hsw.2.2.1 (by decide)).trans ((lv_osw (k := 86) hsw.2.2.2 (by decide)).trans rfl)))) (by decide) ?_
    refine lv_iconst (v := 0) hx hb dX2_tellOf_127 (by decide) ?_
    refine W.widen (k := 0) (n := 0) (Nat.le_of_ble_eq_true rfl) (Nat.le_of_ble_eq_true rfl) ?_
    exact W.zret (v := 0) hx hb hr (by first | rfl | decide | (simp [narrow]; done) | assumption) (fun t ht hW => ⟨⟨0, wl Ls ad G, rfl, (Or.inr ⟨rfl, (by rintro (⟨h0, h1, h2, h3⟩ | ⟨h0, h1, h2, h3⟩ | ⟨h0, h1, h3⟩ | ⟨h0, h1, h2, h3⟩) <;> first | exact absurd (hsw.symm.trans h0) (by decide) | exact hsw.1 h0 | exact hsw.2.1 h0 | exact hsw.2.2.1 h0 | exact hsw.2.2.2 h0 | exact hnw h1 | exact hno ⟨h2, by rw [hr_91]; exact h3⟩ | exact hno ⟨h2, by rw [hr_59]; exact h3⟩ | exact hno ⟨h1, h3⟩), rfl⟩), by rw [ht]; exact hP, hD⟩, hS.F ht⟩) hS.2.2 dX2_tellOf_128

set_option maxHeartbeats 4000000 in
set_option maxRecDepth 100000 in
/-- Charges.tell -/
theorem c_X2_tell (l : Launch) (hl0 : l.stackTraces = false) (D : va_G) (y : Nat → ClassId) (b0 : Nat) (Ls : List Nat) (ad : Nat → Nat) (G : Nat → va_E) (ch : Nat) (st ha mi dO dD dP : Nat → Int32) (nd : Nat) (li ow : Int32) (hC : ChargesAt y Ls ad G ch st ha mi dO dD dP nd li ow) (lt o s2 s3 : Int32) : Met l yX2_tell wsX2_tell ({ frames := 3, cells := 0, slots := 0, locals := 70 }) (va_Pc [.ref (ad ch), .int lt, .int o, .int s2, .int s3] (WdM D y b0 (wl Ls ad G))) (va_Qi (fun (r : Int32) (u : va_W) => (r = 1 ∧ (inR o 7 ∧ cOK lt o s2 s3 st ha mi dO dD nd) ∧ ∃ G2, u = wl Ls ad G2 ∧ ChargesAt y Ls ad G2 ch (cUp 83 lt st (5 * o + s2).toNatClampNeg s3) (cUp 72 lt ha (5 * o + s2).toNatClampNeg s3) (cUp 77 lt mi o.toNatClampNeg s2) (cUp 86 lt dO nd o) (cUp 86 lt dD nd s2) (cUp 86 lt dP nd s3) (cNd lt nd) (li + 1) (ow ||| ((1 : Int32) <<< (o &&& 31))) ∧ (∀ j, j < ch ∨ ch + 6 < j → G2 j = G j)) ∨ (r = 0 ∧ ¬ (inR o 7 ∧ cOK lt o s2 s3 st ha mi dO dD nd) ∧ u = wl Ls ad G)) (WB D b0) (fun q => b0 ≤ q)) 0 0 (fun q => b0 ≤ q) := by
  refine Met.ofW (cc := cX2_tell) (maxL := 5) (ret := (some .boolean)) (by decide) rfl ?_
  intro p e s m args below meth c s₁ B hml hv
  obtain ⟨rfl, ⟨hP, hK, hN⟩, hD, hb0, hT⟩ := hv
  have hx := B.exec
  have hb := B.bytes
  have hr := B.returns
  have hts := atoms_spec (ws := wsX2_tell) B.pre
  have hown : s.vm.findClass RX2 = some m.cls := findClass_of_methodNamed B.named
  have hlocks := B.notSynchronized
  have hS : va_S (fun q => b0 ≤ q) s.heap s.heap [] := va_S.rf
  have hinX2 : ∀ w ∈ wsX20, w ∈ wsX2_tell := by decide +kernel
  obtain ⟨⟨hc0, hc1, hc2, hc3, hc4, hc5, hc6⟩, ec0, ec1, ec2, ec3, ec4, ec5, ec6, hnd⟩ := id hC
  have hl := lv_entry ([.ref (ad ch), .int lt, .int o, .int s2, .int s3]) (n := 5) (Nat.le_of_ble_eq_true rfl)
  rw [lg_entry_eq]
  generalize (lg_sl ([.ref (ad ch), .int lt, .int o, .int s2, .int s3]) ++ List.replicate (5 - (lg_sl ([.ref (ad ch), .int lt, .int o, .int s2, .int s3])).length) Slot.unset).toArray = ls at hl ⊢
  have hl : lv_has ls 5 [(0, .ref (ad ch)), (1, .int lt), (2, .int o), (3, .int s2), (4, .int s3)] := hl
  refine lv_iload_n hx hb dX2_tell_0 rfl (lv_at hl 2 rfl) ?_
  refine lv_iconst (v := 0) hx hb dX2_tell_1 (by decide) ?_
  refine lv_bipush (v := 7) hx hb dX2_tell_2 (by decide) ?_
  refine vp_callSi (va_Run.run (va_runSN (As := [.int o, .int 0, .int 7]) (rest := []) ⟨hx, hb, hml, hown, hts⟩ (c_X7_isWithin l o 0 7) ⟨va_cnB 3 hts gX2_tell_X7_isWithin_n49 rfl rfl rfl (hN (.methodLinkNest RX2 49 yX7_isWithin "StorageCharge") (by decide +kernel)) (hts (.initialized RX7) (by decide +kernel)) (by decide +kernel) ⟨Nat.le_of_ble_eq_true rfl, Nat.le_of_ble_eq_true rfl⟩, hts (.static yX7_isWithin) (by decide +kernel), trivial⟩ ⟨fun _ _ _ _ q => q, fun U hU hW => ⟨rfl, trivial⟩⟩ rfl rfl hl.1 rfl (lv_room (Nat.le_of_ble_eq_true rfl)) dX2_tell_4 ⟨(Nat.le_of_ble_eq_true rfl), (Nat.le_of_ble_eq_true rfl)⟩)) (fun r_4 hr_4 => ?_)
  refine lv_if_eq (tgt := 22) hx hb dX2_tell_7 (by decide) (fun c_7 => ?_) (fun c_7 => ?_)
  · refine lv_iconst (v := 0) hx hb dX2_tell_22 (by decide) ?_
    refine W.widen (k := 0) (n := 0) (Nat.le_of_ble_eq_true rfl) (Nat.le_of_ble_eq_true rfl) ?_
    exact W.zret (v := 0) hx hb hr (by first | rfl | decide | (simp [narrow]; done) | assumption) (fun t ht hW => ⟨⟨0, wl Ls ad G, rfl, (Or.inr ⟨rfl, (fun h => by first | exact wI_eq0.mp (by rw [← hr_4]; exact c_7) h.1 | exact hno h.2), rfl⟩), by rw [ht]; exact hP, hD⟩, hS.F ht⟩) hS.2.2 dX2_tell_23
  · have hwo : inR o 7 := Decidable.byContradiction fun h => c_7 (by rw [hr_4]; exact wI_eq0.mpr h)
    refine lv_aload_n hx hb dX2_tell_10 rfl (lv_at hl 0 rfl) ?_
    refine lv_iload_n hx hb dX2_tell_11 rfl (lv_at hl 1 rfl) ?_
    refine lv_iload_n hx hb dX2_tell_12 rfl (lv_at hl 2 rfl) ?_
    refine lv_iload_n hx hb dX2_tell_13 rfl (lv_at hl 3 rfl) ?_
    refine lv_iload hx hb dX2_tell_14 (lv_at hl 4 rfl) ?_
    refine va_calli (va_runV (As := [.int lt, .int o, .int s2, .int s3]) (rest := []) ⟨hx, hb, hml, hown, hts⟩ (c_X2_tellOf l hl0 D y b0 Ls ad G ch st ha mi dO dD dP nd li ow hC lt o s2 s3) (cwV 4 hts gX2_tell_X2_tellOf rfl rfl rfl (by decide +kernel) ⟨(Nat.le_of_ble_eq_true rfl), (Nat.le_of_ble_eq_true rfl)⟩) ⟨WdM_blind, Wd_recv hK hP (ci := 4) rfl hc0 ec0, WdM_at hP hK hN hD hS hb0 hT⟩ rfl rfl hl.1 rfl (lv_room (Nat.le_of_ble_eq_true rfl)) dX2_tell_16 ⟨(Nat.le_of_ble_eq_true rfl), (Nat.le_of_ble_eq_true rfl)⟩) hS (fun _ _ h => h) (fun _ h => h) (fun r_16 u16 t H locs ht hvm hw16 hB hz1 hk1 hS => ?_)
    obtain ⟨hP, hD⟩ := hB
    rw [ht] at hP
    rcases hw16 with ⟨rfl, hok, g9, rfl, hC9, hfr9⟩ | ⟨rfl, hno, rfl⟩
    · obtain ⟨⟨hc0, hc1, hc2, hc3, hc4, hc5, hc6⟩, ec0, ec1, ec2, ec3, ec4, ec5, ec6, hnd9⟩ := hC9
      refine lv_if_ne (tgt := 24) hx hb dX2_tell_19 (by decide) (fun c_19 => ?_) (fun c_19 => ?_)
      · refine lv_aload_n hx hb dX2_tell_24 rfl (lv_at hl 0 rfl) ?_
        refine lv_dup hx hb dX2_tell_25 rfl ?_
        refine pv_get (ci := 4) (C := RX2) (T := TX2) (N := 9) hx hb hts hinX2 hown hK hP hc0 ec0 rfl 7 (by decide) (hts (.fieldLink RX2 34 "StorageCharge$Charges" "lines" "I") (by decide +kernel)) (fun _ h9 => h9) rfl dX2_tell_26 ?_
        refine lv_iconst (v := 1) hx hb dX2_tell_29 (by decide) ?_
        refine lv_iadd hx hb dX2_tell_30 ?_
        refine pv_put (ci := 4) (v := .int (li + 1)) (ty := .int) (C := RX2) (T := TX2) (N := 9) hx hb hts hinX2 tyX2 tyX2_ok nmX2 hown hK hP hD hS hc0 ec0 rfl 7 (by decide) (hts (.fieldLink RX2 34 "StorageCharge$Charges" "lines" "I") (by decide +kernel)) (fun _ h9 => h9) rfl (by decide +kernel) rfl rfl (Nat.le_of_ble_eq_true rfl) dX2_tell_31 (fun H locs hP hD hS => ?_)
        obtain ⟨G_31, eG_31⟩ : ∃ gg9 : Nat → va_E, gg9 = va_up g9 ch (.inr (4, [.ref (ad (ch + 1)), .ref (ad (ch + 2)), .ref (ad (ch + 3)), .ref (ad (ch + 4)), .ref (ad (ch + 5)), .ref (ad (ch + 6)), .int (nI (cNd lt nd)), .int (li + 1), .int ow])) := ⟨_, rfl⟩
        have hP : va_P D vwCl (wl Ls ad G_31) H := by rw [eG_31]; exact hP
        have hD : va_D (fun q => b0 ≤ q) (wl Ls ad G_31) := by rw [eG_31]; exact hD
        have ec1 : G_31 (ch + 1) = .inl (y 0, 40, .inl (cUp 83 lt st (5 * o + s2).toNatClampNeg s3)) := by rw [eG_31, va_up_ne _ _ (by omega)]; exact ec1
        have ec2 : G_31 (ch + 2) = .inl (y 0, 40, .inl (cUp 72 lt ha (5 * o + s2).toNatClampNeg s3)) := by rw [eG_31, va_up_ne _ _ (by omega)]; exact ec2
        have ec3 : G_31 (ch + 3) = .inl (y 0, 8, .inl (cUp 77 lt mi o.toNatClampNeg s2)) := by rw [eG_31, va_up_ne _ _ (by omega)]; exact ec3
        have ec4 : G_31 (ch + 4) = .inl (y 0, 60, .inl (cUp 86 lt dO nd o)) := by rw [eG_31, va_up_ne _ _ (by omega)]; exact ec4
        have ec5 : G_31 (ch + 5) = .inl (y 0, 60, .inl (cUp 86 lt dD nd s2)) := by rw [eG_31, va_up_ne _ _ (by omega)]; exact ec5
        have ec6 : G_31 (ch + 6) = .inl (y 0, 60, .inl (cUp 86 lt dP nd s3)) := by rw [eG_31, va_up_ne _ _ (by omega)]; exact ec6
        have ec0 : G_31 ch = .inr (4, [.ref (ad (ch + 1)), .ref (ad (ch + 2)), .ref (ad (ch + 3)), .ref (ad (ch + 4)), .ref (ad (ch + 5)), .ref (ad (ch + 6)), .int (nI (cNd lt nd)), .int (li + 1), .int ow]) := by rw [eG_31]; exact va_up_self _ _ _
        refine lv_aload_n hx hb dX2_tell_34 rfl (lv_at hl 0 rfl) ?_
        refine lv_dup hx hb dX2_tell_35 rfl ?_
        refine pv_get (ci := 4) (C := RX2) (T := TX2) (N := 9) hx hb hts hinX2 hown hK hP hc0 ec0 rfl 8 (by decide) (hts (.fieldLink RX2 37 "StorageCharge$Charges" "owners" "I") (by decide +kernel)) (fun _ h9 => h9) rfl dX2_tell_36 ?_
        refine lv_iconst (v := 1) hx hb dX2_tell_39 (by decide) ?_
        refine lv_iload_n hx hb dX2_tell_40 rfl (lv_at hl 2 rfl) ?_
        refine lv_ishl hx hb dX2_tell_41 ?_
        refine lv_ior hx hb dX2_tell_42 ?_
        refine pv_put (ci := 4) (v := .int (ow ||| (1 <<< (o &&& 31)))) (ty := .int) (C := RX2) (T := TX2) (N := 9) hx hb hts hinX2 tyX2 tyX2_ok nmX2 hown hK hP hD hS hc0 ec0 rfl 8 (by decide) (hts (.fieldLink RX2 37 "StorageCharge$Charges" "owners" "I") (by decide +kernel)) (fun _ h9 => h9) rfl (by decide +kernel) rfl rfl (Nat.le_of_ble_eq_true rfl) dX2_tell_43 (fun H locs hP hD hS => ?_)
        obtain ⟨G_43, eG_43⟩ : ∃ gg9 : Nat → va_E, gg9 = va_up G_31 ch (.inr (4, [.ref (ad (ch + 1)), .ref (ad (ch + 2)), .ref (ad (ch + 3)), .ref (ad (ch + 4)), .ref (ad (ch + 5)), .ref (ad (ch + 6)), .int (nI (cNd lt nd)), .int (li + 1), .int (ow ||| (1 <<< (o &&& 31)))])) := ⟨_, rfl⟩
        have hP : va_P D vwCl (wl Ls ad G_43) H := by rw [eG_43]; exact hP
        have hD : va_D (fun q => b0 ≤ q) (wl Ls ad G_43) := by rw [eG_43]; exact hD
        have ec1 : G_43 (ch + 1) = .inl (y 0, 40, .inl (cUp 83 lt st (5 * o + s2).toNatClampNeg s3)) := by rw [eG_43, va_up_ne _ _ (by omega)]; exact ec1
        have ec2 : G_43 (ch + 2) = .inl (y 0, 40, .inl (cUp 72 lt ha (5 * o + s2).toNatClampNeg s3)) := by rw [eG_43, va_up_ne _ _ (by omega)]; exact ec2
        have ec3 : G_43 (ch + 3) = .inl (y 0, 8, .inl (cUp 77 lt mi o.toNatClampNeg s2)) := by rw [eG_43, va_up_ne _ _ (by omega)]; exact ec3
        have ec4 : G_43 (ch + 4) = .inl (y 0, 60, .inl (cUp 86 lt dO nd o)) := by rw [eG_43, va_up_ne _ _ (by omega)]; exact ec4
        have ec5 : G_43 (ch + 5) = .inl (y 0, 60, .inl (cUp 86 lt dD nd s2)) := by rw [eG_43, va_up_ne _ _ (by omega)]; exact ec5
        have ec6 : G_43 (ch + 6) = .inl (y 0, 60, .inl (cUp 86 lt dP nd s3)) := by rw [eG_43, va_up_ne _ _ (by omega)]; exact ec6
        have ec0 : G_43 ch = .inr (4, [.ref (ad (ch + 1)), .ref (ad (ch + 2)), .ref (ad (ch + 3)), .ref (ad (ch + 4)), .ref (ad (ch + 5)), .ref (ad (ch + 6)), .int (nI (cNd lt nd)), .int (li + 1), .int (ow ||| (1 <<< (o &&& 31)))]) := by rw [eG_43]; exact va_up_self _ _ _
        refine lv_iconst (v := 1) hx hb dX2_tell_46 (by decide) ?_
        refine W.widen (k := 0) (n := 0) (Nat.le_of_ble_eq_true rfl) (Nat.le_of_ble_eq_true rfl) ?_
        exact W.zret (v := 1) hx hb hr (by first | rfl | decide | (simp [narrow]; done) | assumption) (fun t ht hW => ⟨⟨1, wl Ls ad G_43, rfl, (Or.inl ⟨rfl, ⟨hwo, hok⟩, G_43, rfl, ⟨⟨hc0, hc1, hc2, hc3, hc4, hc5, hc6⟩, ec0, ec1, ec2, ec3, ec4, ec5, ec6, hnd9⟩, fun j h => by rw [eG_43, va_up_ne _ _ (by omega), eG_31, va_up_ne _ _ (by omega)]; exact hfr9 j h⟩), by rw [ht]; exact hP, hD⟩, hS.F ht⟩) hS.2.2 dX2_tell_47
      · exact absurd c_19 (by decide)
    · refine lv_if_ne (tgt := 24) hx hb dX2_tell_19 (by decide) (fun c_19 => ?_) (fun c_19 => ?_)
      · exact absurd rfl c_19
      · refine lv_iconst (v := 0) hx hb dX2_tell_22 (by decide) ?_
        refine W.widen (k := 0) (n := 0) (Nat.le_of_ble_eq_true rfl) (Nat.le_of_ble_eq_true rfl) ?_
        exact W.zret (v := 0) hx hb hr (by first | rfl | decide | (simp [narrow]; done) | assumption) (fun t ht hW => ⟨⟨0, wl Ls ad G, rfl, (Or.inr ⟨rfl, (fun h => by first | exact wI_eq0.mp (by rw [← hr_4]; exact c_7) h.1 | exact hno h.2), rfl⟩), by rw [ht]; exact hP, hD⟩, hS.F ht⟩) hS.2.2 dX2_tell_23
