/-! the model's sign, number, line, read -/
theorem ModelAt_w {y : Nat → ClassId} {Ls : List Nat} {ad : Nat → Nat} {G G2 : Nat → va_E} {F F2 : Nat → Int32} {A A2 : Nat → Nat → Int32} (hM : ModelAt y Ls ad G F A) (h : G2 100 = .inr (10, mfs ad F2)) (ha : ∀ k, asz k ≠ 0 → (G2 (101 + k) = G (101 + k) ∧ A2 k = A k) ∨ G2 (101 + k) = .inl (y (aty k), asz k, .inl (A2 k))) : ModelAt y Ls ad G2 F2 A2 :=
  ⟨hM.1, h, fun k hk => ⟨(hM.2.2 k hk).1, (ha k hk).elim (fun h => by rw [h.1, h.2]; exact (hM.2.2 k hk).2) (fun h => h)⟩⟩
theorem asz_big {k : Nat} (h : 33 < k) : asz k = 0 := by
  unfold asz
  split <;> first | rfl | omega
theorem ModelAt_fr {y : Nat → ClassId} {Ls : List Nat} {ad : Nat → Nat} {G G2 : Nat → va_E} {F : Nat → Int32} {A : Nat → Nat → Int32} (hM : ModelAt y Ls ad G F A) (h : ∀ j, 100 ≤ j → j ≤ 134 → G2 j = G j) : ModelAt y Ls ad G2 F A :=
  ⟨hM.1, (h 100 (by decide) (by decide)).trans hM.2.1, fun k hk => ⟨(hM.2.2 k hk).1, (h _ (by omega) (by have : k ≤ 33 := Nat.le_of_not_lt fun h9 => hk (asz_big h9); omega)).trans (hM.2.2 k hk).2⟩⟩
def mlk (f : Nat → Int32) (len p : Nat) : Nat → Nat
  | 0 => 0
  | k + 1 => if mlk f len p k = k ∧ (48 ≤ nx f len (p + k) ∧ nx f len (p + k) ≤ 57) ∧ ¬ (k = 1 ∧ numV f p 1 = 0) then k + 1 else mlk f len p k
theorem mlk_stop {f : Nat → Int32} {len p k : Nat} (h : mlk f len p k = k) (hn : ¬ ((48 ≤ nx f len (p + k) ∧ nx f len (p + k) ≤ 57) ∧ ¬ (k = 1 ∧ numV f p 1 = 0))) : ∀ j, mlk f len p (k + j) = k
  | 0 => h
  | j + 1 => by
    have ih := mlk_stop h hn j
    rw [← Nat.add_assoc, mlk, if_neg, ih]
    rintro ⟨h1, h2⟩
    rw [ih] at h1
    obtain rfl : j = 0 := by omega
    exact hn h2
theorem mlk_le {f : Nat → Int32} {len p : Nat} (hp : p ≤ len) : ∀ k, p + mlk f len p k ≤ len
  | 0 => hp
  | k + 1 => by
    rw [mlk]
    split
    · rename_i h
      have : p + k < len := Decidable.byContradiction fun h9 => by
        have h2 := h.2.1.1
        rw [nx, if_neg h9] at h2
        exact absurd h2 (by decide)
      omega
    · exact mlk_le hp k
def mnV (f : Nat → Int32) (len pl : Nat) : Int32 := if nx f len pl = 32 then (if mlk f len (pl + 1) 6 = 0 then -1 else numV f (pl + 1) (mlk f len (pl + 1) 6)) else -1
def mnP (f : Nat → Int32) (len pl : Nat) : Nat := if nx f len pl = 32 then pl + 1 + mlk f len (pl + 1) 6 else pl
theorem nx_in {f : Nat → Int32} {len p : Nat} (h : ¬ nx f len p = -1) : p < len := Decidable.byContradiction fun h9 => h (by rw [nx, if_neg h9])
theorem mnP_le {f : Nat → Int32} {len pl : Nat} (hp : pl ≤ len) : mnP f len pl ≤ len := by
  rw [mnP]
  split
  · rename_i h
    exact mlk_le (nx_in (by rw [h]; decide)) 6
  · exact hp

set_option maxHeartbeats 4000000 in
set_option maxRecDepth 100000 in
/-- sign -/
theorem c_X8_sign (l : Launch) (hl0 : l.stackTraces = false) (D : va_G) (y : Nat → ClassId) (b0 : Nat) (Ls : List Nat) (ad : Nat → Nat) (G : Nat → va_E) (F : Nat → Int32) (A : Nat → Nat → Int32) (hM : ModelAt y Ls ad G F A) (sg : Nat) (h1 : F 1 = nI sg) (hsg : sg ≤ 400) (x : Int32) : Met l yX8_sign wsX8_sign ({ frames := 1, cells := 0, slots := 0, locals := 22 }) (va_Pc [.ref (ad 100), .int x] (WdM D y b0 (wl Ls ad G))) (va_Qi (fun (r : Int32) (u : va_W) => (¬ inR x 255 ∧ ∃ G2, u = wl Ls ad G2 ∧ ModelAt y Ls ad G2 (va_up F 0 1) A ∧ (∀ j, (j < 100 ∨ 134 < j) → G2 j = G j)) ∨ (inR x 255 ∧ sg = 400 ∧ ∃ G2, u = wl Ls ad G2 ∧ ModelAt y Ls ad G2 (va_up F 0 2) A ∧ (∀ j, (j < 100 ∨ 134 < j) → G2 j = G j)) ∨ (inR x 255 ∧ sg < 400 ∧ r = nI (sg + 1) ∧ ∃ G2, u = wl Ls ad G2 ∧ ModelAt y Ls ad G2 (va_up (va_up F 0 0) 1 (nI (sg + 1))) (va_up A 2 (upd (A 2) sg x)) ∧ (∀ j, (j < 100 ∨ 134 < j) → G2 j = G j))) (WB D b0) (fun q => b0 ≤ q)) 0 0 (fun q => b0 ≤ q) := by
  refine Met.ofW (cc := cX8_sign) (maxL := 2) (ret := (some .int)) (by decide) rfl ?_
  intro p e s m args below meth c s₁ B hml hv
  obtain ⟨rfl, ⟨hP, hK, hN⟩, hD, hb0, hT⟩ := hv
  have hx := B.exec
  have hb := B.bytes
  have hr := B.returns
  have hts := atoms_spec (ws := wsX8_sign) B.pre
  have hown : s.vm.findClass RX8 = some m.cls := findClass_of_methodNamed B.named
  have hlocks := B.notSynchronized
  have hS : va_S (fun q => b0 ≤ q) s.heap s.heap [] := va_S.rf
  have hinX8 : ∀ w ∈ wsX80, w ∈ wsX8_sign := by decide +kernel
  have eM : G 100 = .inr (10, [.int (F 0), .int (nI sg), .ref (ad 103), .int (F 3), .ref (ad 105), .ref (ad 106), .ref (ad 107), .ref (ad 108), .int (F 8), .ref (ad 110), .ref (ad 111), .ref (ad 112), .ref (ad 113), .int (F 13), .int (F 14), .ref (ad 116), .ref (ad 117), .ref (ad 118), .ref (ad 119), .ref (ad 120), .ref (ad 121), .int (F 21), .ref (ad 123), .ref (ad 124), .ref (ad 125), .ref (ad 126), .int (F 26), .ref (ad 128), .ref (ad 129), .ref (ad 130), .ref (ad 131), .ref (ad 132), .int (F 32), .ref (ad 134)]) := hM.2.1.trans (by rw [mfs, h1])
  obtain ⟨j2, a2⟩ : 103 ∈ Ls ∧ G 103 = .inl (y 0, 400, .inl (A 2)) := hM.2.2 2 (by decide)
  have hl := lv_entry ([.ref (ad 100), .int x]) (n := 2) (Nat.le_of_ble_eq_true rfl)
  rw [lg_entry_eq]
  generalize (lg_sl ([.ref (ad 100), .int x]) ++ List.replicate (2 - (lg_sl ([.ref (ad 100), .int x])).length) Slot.unset).toArray = ls at hl ⊢
  have hl : lv_has ls 2 [(0, .ref (ad 100)), (1, .int x)] := hl
  refine lv_aload_n hx hb dX8_sign_0 rfl (lv_at hl 0 rfl) ?_
  refine lv_iload_n hx hb dX8_sign_1 rfl (lv_at hl 1 rfl) ?_
  refine lv_iconst (v := 0) hx hb dX8_sign_2 (by decide) ?_
  refine lv_sipush (v := 255) hx hb dX8_sign_3 (by decide) ?_
  refine vp_callSi (va_Run.run (va_runS (As := [.int x, .int 0, .int 255]) (rest := [.ref (ad 100)]) ⟨hx, hb, hml, hown, hts⟩ (c_X8_in l x 0 255) (va_cwS 3 hts gX8_sign_X8_in rfl rfl rfl (by decide +kernel) ⟨Nat.le_of_ble_eq_true rfl, Nat.le_of_ble_eq_true rfl⟩) ⟨fun _ _ _ _ q => q, fun U hU hW => ⟨rfl, trivial⟩⟩ rfl rfl hl.1 rfl (lv_room (Nat.le_of_ble_eq_true rfl)) dX8_sign_6 ⟨(Nat.le_of_ble_eq_true rfl), (Nat.le_of_ble_eq_true rfl)⟩)) (fun r_6 hr_6 => ?_)
  refine lv_if_ne (tgt := 16) hx hb dX8_sign_9 (by decide) (fun c_9 => ?_) (fun c_9 => ?_)
  · refine lv_aload_n hx hb dX8_sign_16 rfl (lv_at hl 0 rfl) ?_
    refine pv_get (ci := 10) (C := RX8) (T := TX8) (N := 34) hx hb hts hinX8 hown hK hP hM.1 eM rfl 1 (by decide) (hts (.fieldLink RX8 94 "StorageChargeModel" "signs" "I") (by decide +kernel)) (fun _ h9 => h9) rfl dX8_sign_17 ?_
    refine lv_sipush (v := 400) hx hb dX8_sign_20 (by decide) ?_
    refine lv_icmp_ne (tgt := 30) hx hb dX8_sign_23 (by decide) (fun c_23 => ?_) (fun c_23 => ?_)
    · have hlt : sg < 400 := by
        have h9 : sg ≠ 400 := fun h => c_23 (by rw [h]; rfl)
        omega
      refine lv_iconst (v := 0) hx hb dX8_sign_30 (by decide) ?_
      refine pv_put (ci := 10) (v := .int 0) (ty := .int) (C := RX8) (T := TX8) (N := 34) hx hb hts hinX8 tyX8 tyX8_ok nmX8 hown hK hP hD hS hM.1 eM rfl 0 (by decide) (hts (.fieldLink RX8 86 "StorageChargeModel" "code" "I") (by decide +kernel)) (fun _ h9 => h9) rfl (by decide +kernel) rfl rfl (Nat.le_of_ble_eq_true rfl) dX8_sign_31 (fun H locs hP hD hS => ?_)
      obtain ⟨G_31, eG_31⟩ : ∃ gg9 : Nat → va_E, gg9 = va_up G 100 (.inr (10, [.int 0, .int (nI sg), .ref (ad 103), .int (F 3), .ref (ad 105), .ref (ad 106), .ref (ad 107), .ref (ad 108), .int (F 8), .ref (ad 110), .ref (ad 111), .ref (ad 112), .ref (ad 113), .int (F 13), .int (F 14), .ref (ad 116), .ref (ad 117), .ref (ad 118), .ref (ad 119), .ref (ad 120), .ref (ad 121), .int (F 21), .ref (ad 123), .ref (ad 124), .ref (ad 125), .ref (ad 126), .int (F 26), .ref (ad 128), .ref (ad 129), .ref (ad 130), .ref (ad 131), .ref (ad 132), .int (F 32), .ref (ad 134)])) := ⟨_, rfl⟩
      have hP : va_P D vwCl (wl Ls ad G_31) H := by rw [eG_31]; exact hP
      have hD : va_D (fun q => b0 ≤ q) (wl Ls ad G_31) := by rw [eG_31]; exact hD
      have a2 : G_31 103 = .inl (y 0, 400, .inl (A 2)) := by rw [eG_31, va_up_ne _ _ (by omega)]; exact a2
      have eM : G_31 100 = .inr (10, [.int 0, .int (nI sg), .ref (ad 103), .int (F 3), .ref (ad 105), .ref (ad 106), .ref (ad 107), .ref (ad 108), .int (F 8), .ref (ad 110), .ref (ad 111), .ref (ad 112), .ref (ad 113), .int (F 13), .int (F 14), .ref (ad 116), .ref (ad 117), .ref (ad 118), .ref (ad 119), .ref (ad 120), .ref (ad 121), .int (F 21), .ref (ad 123), .ref (ad 124), .ref (ad 125), .ref (ad 126), .int (F 26), .ref (ad 128), .ref (ad 129), .ref (ad 130), .ref (ad 131), .ref (ad 132), .int (F 32), .ref (ad 134)]) := by rw [eG_31]; exact va_up_self _ _ _
      refine lv_aload_n hx hb dX8_sign_34 rfl (lv_at hl 0 rfl) ?_
      refine pv_get (ci := 10) (C := RX8) (T := TX8) (N := 34) hx hb hts hinX8 hown hK hP hM.1 eM rfl 0 (by decide) (hts (.fieldLink RX8 86 "StorageChargeModel" "code" "I") (by decide +kernel)) (fun _ h9 => h9) rfl dX8_sign_35 ?_
      refine lv_if_le (tgt := 43) hx hb dX8_sign_38 (by decide) (fun c_38 => ?_) (fun c_38 => ?_)
      · refine lv_aload_n hx hb dX8_sign_43 rfl (lv_at hl 0 rfl) ?_
        refine pv_get (ci := 10) (C := RX8) (T := TX8) (N := 34) hx hb hts hinX8 hown hK hP hM.1 eM rfl 2 (by decide) (hts (.fieldLink RX8 7 "StorageChargeModel" "text" "[I") (by decide +kernel)) (fun _ h9 => h9) rfl dX8_sign_44 ?_
        refine lv_aload_n hx hb dX8_sign_47 rfl (lv_at hl 0 rfl) ?_
        refine pv_get (ci := 10) (C := RX8) (T := TX8) (N := 34) hx hb hts hinX8 hown hK hP hM.1 eM rfl 1 (by decide) (hts (.fieldLink RX8 94 "StorageChargeModel" "signs" "I") (by decide +kernel)) (fun _ h9 => h9) rfl dX8_sign_48 ?_
        refine lv_iload_n hx hb dX8_sign_51 rfl (lv_at hl 1 rfl) ?_
        refine pv_iast hx hb hK hP hD hS j2 0 a2 rfl (k := sg) rfl (by omega) (by decide) dX8_sign_52 (fun H locs hP hD hS => ?_)
        obtain ⟨G_52, eG_52⟩ : ∃ gg9 : Nat → va_E, gg9 = va_up G_31 103 (.inl (y 0, 400, .inl (upd (A 2) sg x))) := ⟨_, rfl⟩
        have hP : va_P D vwCl (wl Ls ad G_52) H := by rw [eG_52]; exact hP
        have hD : va_D (fun q => b0 ≤ q) (wl Ls ad G_52) := by rw [eG_52]; exact hD
        have eM : G_52 100 = .inr (10, [.int 0, .int (nI sg), .ref (ad 103), .int (F 3), .ref (ad 105), .ref (ad 106), .ref (ad 107), .ref (ad 108), .int (F 8), .ref (ad 110), .ref (ad 111), .ref (ad 112), .ref (ad 113), .int (F 13), .int (F 14), .ref (ad 116), .ref (ad 117), .ref (ad 118), .ref (ad 119), .ref (ad 120), .ref (ad 121), .int (F 21), .ref (ad 123), .ref (ad 124), .ref (ad 125), .ref (ad 126), .int (F 26), .ref (ad 128), .ref (ad 129), .ref (ad 130), .ref (ad 131), .ref (ad 132), .int (F 32), .ref (ad 134)]) := by rw [eG_52, va_up_ne _ _ (by omega)]; exact eM
        have a2 : G_52 103 = .inl (y 0, 400, .inl (upd (A 2) sg x)) := by rw [eG_52]; exact va_up_self _ _ _
        refine lv_aload_n hx hb dX8_sign_53 rfl (lv_at hl 0 rfl) ?_
        refine lv_dup hx hb dX8_sign_54 rfl ?_
        refine pv_get (ci := 10) (C := RX8) (T := TX8) (N := 34) hx hb hts hinX8 hown hK hP hM.1 eM rfl 1 (by decide) (hts (.fieldLink RX8 94 "StorageChargeModel" "signs" "I") (by decide +kernel)) (fun _ h9 => h9) rfl dX8_sign_55 ?_
        refine lv_iconst (v := 1) hx hb dX8_sign_58 (by decide) ?_
        refine lv_iadd hx hb dX8_sign_59 ?_
        refine lv_topi (fun z9 ez9 => ?_)
        obtain rfl : z9 = nI (sg + 1) := ez9.trans (nI_1 sg)
        refine pv_put (ci := 10) (v := .int (nI (sg + 1))) (ty := .int) (C := RX8) (T := TX8) (N := 34) hx hb hts hinX8 tyX8 tyX8_ok nmX8 hown hK hP hD hS hM.1 eM rfl 1 (by decide) (hts (.fieldLink RX8 94 "StorageChargeModel" "signs" "I") (by decide +kernel)) (fun _ h9 => h9) rfl (by decide +kernel) rfl rfl (Nat.le_of_ble_eq_true rfl) dX8_sign_60 (fun H locs hP hD hS => ?_)
        obtain ⟨G_60, eG_60⟩ : ∃ gg9 : Nat → va_E, gg9 = va_up G_52 100 (.inr (10, [.int 0, .int (nI (sg + 1)), .ref (ad 103), .int (F 3), .ref (ad 105), .ref (ad 106), .ref (ad 107), .ref (ad 108), .int (F 8), .ref (ad 110), .ref (ad 111), .ref (ad 112), .ref (ad 113), .int (F 13), .int (F 14), .ref (ad 116), .ref (ad 117), .ref (ad 118), .ref (ad 119), .ref (ad 120), .ref (ad 121), .int (F 21), .ref (ad 123), .ref (ad 124), .ref (ad 125), .ref (ad 126), .int (F 26), .ref (ad 128), .ref (ad 129), .ref (ad 130), .ref (ad 131), .ref (ad 132), .int (F 32), .ref (ad 134)])) := ⟨_, rfl⟩
        have hP : va_P D vwCl (wl Ls ad G_60) H := by rw [eG_60]; exact hP
        have hD : va_D (fun q => b0 ≤ q) (wl Ls ad G_60) := by rw [eG_60]; exact hD
        have a2 : G_60 103 = .inl (y 0, 400, .inl (upd (A 2) sg x)) := by rw [eG_60, va_up_ne _ _ (by omega)]; exact a2
        have eM : G_60 100 = .inr (10, [.int 0, .int (nI (sg + 1)), .ref (ad 103), .int (F 3), .ref (ad 105), .ref (ad 106), .ref (ad 107), .ref (ad 108), .int (F 8), .ref (ad 110), .ref (ad 111), .ref (ad 112), .ref (ad 113), .int (F 13), .int (F 14), .ref (ad 116), .ref (ad 117), .ref (ad 118), .ref (ad 119), .ref (ad 120), .ref (ad 121), .int (F 21), .ref (ad 123), .ref (ad 124), .ref (ad 125), .ref (ad 126), .int (F 26), .ref (ad 128), .ref (ad 129), .ref (ad 130), .ref (ad 131), .ref (ad 132), .int (F 32), .ref (ad 134)]) := by rw [eG_60]; exact va_up_self _ _ _
        refine lv_aload_n hx hb dX8_sign_63 rfl (lv_at hl 0 rfl) ?_
        refine pv_get (ci := 10) (C := RX8) (T := TX8) (N := 34) hx hb hts hinX8 hown hK hP hM.1 eM rfl 1 (by decide) (hts (.fieldLink RX8 94 "StorageChargeModel" "signs" "I") (by decide +kernel)) (fun _ h9 => h9) rfl dX8_sign_64 ?_
        refine W.widen (k := 0) (n := 0) (Nat.le_of_ble_eq_true rfl) (Nat.le_of_ble_eq_true rfl) ?_
        exact W.iret (v := nI (sg + 1)) hx hb hr (fun t ht hW => ⟨⟨nI (sg + 1), wl Ls ad G_60, rfl, Or.inr (Or.inr ⟨Decidable.byContradiction fun h => c_9 (by rw [hr_6]; exact wI_eq0.mpr h), hlt, rfl, _, rfl, (ModelAt_w hM (eM) (fun k hk => if h29 : k = 2 then Or.inr (by subst h29; exact a2) else (Or.inl ⟨by rw [eG_60, va_up_ne _ _ (by omega), eG_52, va_up_ne _ _ (by omega), eG_31, va_up_ne _ _ (by omega)], by rw [va_up_ne _ _ h29]⟩))), (fun j h9 => by rw [eG_60, va_up_ne _ _ (by omega), eG_52, va_up_ne _ _ (by omega), eG_31, va_up_ne _ _ (by omega)])⟩), by rw [ht]; exact hP, hD⟩, hS.F ht⟩) hS.2.2 dX8_sign_67
      · exact absurd (by decide) c_38
    · have h400 : sg = 400 := (nI_eq (by omega) (by decide)).mp (show nI sg = nI 400 from c_23)
      refine lv_iconst (v := 2) hx hb dX8_sign_26 (by decide) ?_
      refine lv_goto (tgt := 31) hx hb dX8_sign_27 (by decide) ?_
      refine pv_put (ci := 10) (v := .int 2) (ty := .int) (C := RX8) (T := TX8) (N := 34) hx hb hts hinX8 tyX8 tyX8_ok nmX8 hown hK hP hD hS hM.1 eM rfl 0 (by decide) (hts (.fieldLink RX8 86 "StorageChargeModel" "code" "I") (by decide +kernel)) (fun _ h9 => h9) rfl (by decide +kernel) rfl rfl (Nat.le_of_ble_eq_true rfl) dX8_sign_31 (fun H locs hP hD hS => ?_)
      obtain ⟨G_31, eG_31⟩ : ∃ gg9 : Nat → va_E, gg9 = va_up G 100 (.inr (10, [.int 2, .int (nI sg), .ref (ad 103), .int (F 3), .ref (ad 105), .ref (ad 106), .ref (ad 107), .ref (ad 108), .int (F 8), .ref (ad 110), .ref (ad 111), .ref (ad 112), .ref (ad 113), .int (F 13), .int (F 14), .ref (ad 116), .ref (ad 117), .ref (ad 118), .ref (ad 119), .ref (ad 120), .ref (ad 121), .int (F 21), .ref (ad 123), .ref (ad 124), .ref (ad 125), .ref (ad 126), .int (F 26), .ref (ad 128), .ref (ad 129), .ref (ad 130), .ref (ad 131), .ref (ad 132), .int (F 32), .ref (ad 134)])) := ⟨_, rfl⟩
      have hP : va_P D vwCl (wl Ls ad G_31) H := by rw [eG_31]; exact hP
      have hD : va_D (fun q => b0 ≤ q) (wl Ls ad G_31) := by rw [eG_31]; exact hD
      have a2 : G_31 103 = .inl (y 0, 400, .inl (A 2)) := by rw [eG_31, va_up_ne _ _ (by omega)]; exact a2
      have eM : G_31 100 = .inr (10, [.int 2, .int (nI sg), .ref (ad 103), .int (F 3), .ref (ad 105), .ref (ad 106), .ref (ad 107), .ref (ad 108), .int (F 8), .ref (ad 110), .ref (ad 111), .ref (ad 112), .ref (ad 113), .int (F 13), .int (F 14), .ref (ad 116), .ref (ad 117), .ref (ad 118), .ref (ad 119), .ref (ad 120), .ref (ad 121), .int (F 21), .ref (ad 123), .ref (ad 124), .ref (ad 125), .ref (ad 126), .int (F 26), .ref (ad 128), .ref (ad 129), .ref (ad 130), .ref (ad 131), .ref (ad 132), .int (F 32), .ref (ad 134)]) := by rw [eG_31]; exact va_up_self _ _ _
      refine lv_aload_n hx hb dX8_sign_34 rfl (lv_at hl 0 rfl) ?_
      refine pv_get (ci := 10) (C := RX8) (T := TX8) (N := 34) hx hb hts hinX8 hown hK hP hM.1 eM rfl 0 (by decide) (hts (.fieldLink RX8 86 "StorageChargeModel" "code" "I") (by decide +kernel)) (fun _ h9 => h9) rfl dX8_sign_35 ?_
      refine lv_if_le (tgt := 43) hx hb dX8_sign_38 (by decide) (fun c_38 => ?_) (fun c_38 => ?_)
      · exact absurd c_38 (by decide)
      · refine lv_iconst (v := 0) hx hb dX8_sign_41 (by decide) ?_
        refine W.widen (k := 0) (n := 0) (Nat.le_of_ble_eq_true rfl) (Nat.le_of_ble_eq_true rfl) ?_
        exact W.iret (v := 0) hx hb hr (fun t ht hW => ⟨⟨0, wl Ls ad G_31, rfl, Or.inr (Or.inl ⟨Decidable.byContradiction fun h => c_9 (by rw [hr_6]; exact wI_eq0.mpr h), h400, _, rfl, (ModelAt_w hM (eM.trans (by rw [← h1]; rfl)) (fun k hk => Or.inl ⟨by rw [eG_31, va_up_ne _ _ (by omega)], rfl⟩)), (fun j h9 => by rw [eG_31, va_up_ne _ _ (by omega)])⟩), by rw [ht]; exact hP, hD⟩, hS.F ht⟩) hS.2.2 dX8_sign_42
  · refine lv_iconst (v := 1) hx hb dX8_sign_12 (by decide) ?_
    refine lv_goto (tgt := 31) hx hb dX8_sign_13 (by decide) ?_
    refine pv_put (ci := 10) (v := .int 1) (ty := .int) (C := RX8) (T := TX8) (N := 34) hx hb hts hinX8 tyX8 tyX8_ok nmX8 hown hK hP hD hS hM.1 eM rfl 0 (by decide) (hts (.fieldLink RX8 86 "StorageChargeModel" "code" "I") (by decide +kernel)) (fun _ h9 => h9) rfl (by decide +kernel) rfl rfl (Nat.le_of_ble_eq_true rfl) dX8_sign_31 (fun H locs hP hD hS => ?_)
    obtain ⟨G_31, eG_31⟩ : ∃ gg9 : Nat → va_E, gg9 = va_up G 100 (.inr (10, [.int 1, .int (nI sg), .ref (ad 103), .int (F 3), .ref (ad 105), .ref (ad 106), .ref (ad 107), .ref (ad 108), .int (F 8), .ref (ad 110), .ref (ad 111), .ref (ad 112), .ref (ad 113), .int (F 13), .int (F 14), .ref (ad 116), .ref (ad 117), .ref (ad 118), .ref (ad 119), .ref (ad 120), .ref (ad 121), .int (F 21), .ref (ad 123), .ref (ad 124), .ref (ad 125), .ref (ad 126), .int (F 26), .ref (ad 128), .ref (ad 129), .ref (ad 130), .ref (ad 131), .ref (ad 132), .int (F 32), .ref (ad 134)])) := ⟨_, rfl⟩
    have hP : va_P D vwCl (wl Ls ad G_31) H := by rw [eG_31]; exact hP
    have hD : va_D (fun q => b0 ≤ q) (wl Ls ad G_31) := by rw [eG_31]; exact hD
    have a2 : G_31 103 = .inl (y 0, 400, .inl (A 2)) := by rw [eG_31, va_up_ne _ _ (by omega)]; exact a2
    have eM : G_31 100 = .inr (10, [.int 1, .int (nI sg), .ref (ad 103), .int (F 3), .ref (ad 105), .ref (ad 106), .ref (ad 107), .ref (ad 108), .int (F 8), .ref (ad 110), .ref (ad 111), .ref (ad 112), .ref (ad 113), .int (F 13), .int (F 14), .ref (ad 116), .ref (ad 117), .ref (ad 118), .ref (ad 119), .ref (ad 120), .ref (ad 121), .int (F 21), .ref (ad 123), .ref (ad 124), .ref (ad 125), .ref (ad 126), .int (F 26), .ref (ad 128), .ref (ad 129), .ref (ad 130), .ref (ad 131), .ref (ad 132), .int (F 32), .ref (ad 134)]) := by rw [eG_31]; exact va_up_self _ _ _
    refine lv_aload_n hx hb dX8_sign_34 rfl (lv_at hl 0 rfl) ?_
    refine pv_get (ci := 10) (C := RX8) (T := TX8) (N := 34) hx hb hts hinX8 hown hK hP hM.1 eM rfl 0 (by decide) (hts (.fieldLink RX8 86 "StorageChargeModel" "code" "I") (by decide +kernel)) (fun _ h9 => h9) rfl dX8_sign_35 ?_
    refine lv_if_le (tgt := 43) hx hb dX8_sign_38 (by decide) (fun c_38 => ?_) (fun c_38 => ?_)
    · exact absurd c_38 (by decide)
    · refine lv_iconst (v := 0) hx hb dX8_sign_41 (by decide) ?_
      refine W.widen (k := 0) (n := 0) (Nat.le_of_ble_eq_true rfl) (Nat.le_of_ble_eq_true rfl) ?_
      exact W.iret (v := 0) hx hb hr (fun t ht hW => ⟨⟨0, wl Ls ad G_31, rfl, Or.inl ⟨wI_eq0.mp (by rw [← hr_6]; exact c_9), _, rfl, (ModelAt_w hM (eM.trans (by rw [← h1]; rfl)) (fun k hk => Or.inl ⟨by rw [eG_31, va_up_ne _ _ (by omega)], rfl⟩)), (fun j h9 => by rw [eG_31, va_up_ne _ _ (by omega)])⟩, by rw [ht]; exact hP, hD⟩, hS.F ht⟩) hS.2.2 dX8_sign_42

set_option maxHeartbeats 4000000 in
set_option maxRecDepth 100000 in
/-- number -/
theorem c_X8_number (l : Launch) (hl0 : l.stackTraces = false) (D : va_G) (y : Nat → ClassId) (b0 : Nat) (Ls : List Nat) (ad : Nat → Nat) (G : Nat → va_E) (F : Nat → Int32) (A : Nat → Nat → Int32) (hM : ModelAt y Ls ad G F A) (sg : Nat) (h1 : F 1 = nI sg) (pl : Nat) (h13 : F 13 = nI pl) (hsg : sg ≤ 400) (hpl : pl ≤ sg) : Met l yX8_number wsX8_number ({ frames := 1, cells := 0, slots := 0, locals := 22 }) (va_Pc [.ref (ad 100)] (WdM D y b0 (wl Ls ad G))) (va_Qi (fun (r : Int32) (u : va_W) => r = mnV (A 2) sg pl ∧ ∃ G2, u = wl Ls ad G2 ∧ ModelAt y Ls ad G2 (va_up F 13 (nI (mnP (A 2) sg pl))) A ∧ ∀ j, j ≠ 100 → G2 j = G j) (WB D b0) (fun q => b0 ≤ q)) 0 0 (fun q => b0 ≤ q) := by
  refine Met.ofW (cc := cX8_number) (maxL := 3) (ret := (some .int)) (by decide) rfl ?_
  intro p e s m args below meth c s₁ B hml hv
  obtain ⟨rfl, ⟨hP, hK, hN⟩, hD, hb0, hT⟩ := hv
  have hx := B.exec
  have hb := B.bytes
  have hr := B.returns
  have hts := atoms_spec (ws := wsX8_number) B.pre
  have hown : s.vm.findClass RX8 = some m.cls := findClass_of_methodNamed B.named
  have hlocks := B.notSynchronized
  have hS : va_S (fun q => b0 ≤ q) s.heap s.heap [] := va_S.rf
  have hinX8 : ∀ w ∈ wsX80, w ∈ wsX8_number := by decide +kernel
  have eM : G 100 = .inr (10, [.int (F 0), .int (nI sg), .ref (ad 103), .int (F 3), .ref (ad 105), .ref (ad 106), .ref (ad 107), .ref (ad 108), .int (F 8), .ref (ad 110), .ref (ad 111), .ref (ad 112), .ref (ad 113), .int (nI pl), .int (F 14), .ref (ad 116), .ref (ad 117), .ref (ad 118), .ref (ad 119), .ref (ad 120), .ref (ad 121), .int (F 21), .ref (ad 123), .ref (ad 124), .ref (ad 125), .ref (ad 126), .int (F 26), .ref (ad 128), .ref (ad 129), .ref (ad 130), .ref (ad 131), .ref (ad 132), .int (F 32), .ref (ad 134)]) := hM.2.1.trans (by rw [mfs, h1, h13])
  have hl := lv_entry ([.ref (ad 100)]) (n := 3) (Nat.le_of_ble_eq_true rfl)
  rw [lg_entry_eq]
  generalize (lg_sl ([.ref (ad 100)]) ++ List.replicate (3 - (lg_sl ([.ref (ad 100)])).length) Slot.unset).toArray = ls at hl ⊢
  have hl : lv_has ls 3 [(0, .ref (ad 100))] := hl
  refine lv_aload_n hx hb dX8_number_0 rfl (lv_at hl 0 rfl) ?_
  refine vp_callSi (va_Run.run (va_runV (As := []) (rest := []) ⟨hx, hb, hml, hown, hts⟩ (c_X8_next l D y Ls ad G F A hM sg h1 pl h13 hsg (by omega)) (cwV 0 hts gX8_number_X8_next rfl rfl rfl (by decide +kernel) ⟨Nat.le_of_ble_eq_true rfl, Nat.le_of_ble_eq_true rfl⟩) ⟨Wd_blind, Wd_recv hK hP (ci := 10) rfl hM.1 eM, Wd_at hP hK hN⟩ rfl rfl hl.1 rfl (lv_room (Nat.le_of_ble_eq_true rfl)) dX8_number_1 ⟨(Nat.le_of_ble_eq_true rfl), (Nat.le_of_ble_eq_true rfl)⟩)) (fun r_1 hr_1 => ?_)
  refine lv_bipush (v := 32) hx hb dX8_number_4 (by decide) ?_
  refine lv_icmp_eq (tgt := 11) hx hb dX8_number_6 (by decide) (fun c_6 => ?_) (fun c_6 => ?_)
  · have h32 : nx (A 2) sg pl = 32 := by rw [← hr_1]; exact c_6
    have hin0 : pl < sg := nx_in (by rw [h32]; decide)
    have loop25 : ∀ (n : Nat) (k : Nat) (q : Int32) (G1 : Nat → va_E), k ≤ 6 → 6 < k + n → mlk (A 2) sg (pl + 1) k = k → q = numV (A 2) (pl + 1) k → ModelAt y Ls ad G1 (va_up F 13 (nI (pl + 1 + k))) A → (∀ j, j ≠ 100 → G1 j = G j) → ∀ (H : Heap) (locs : List Loc), va_P D vwCl (wl Ls ad G1) H → va_D (fun q => b0 ≤ q) (wl Ls ad G1) → va_S (fun q => b0 ≤ q) s.heap H locs → ∀ ls : Array Slot, lv_has ls 3 [(0, .ref (ad 100)), (1, .int q), (2, .int (nI k))] → W p l e (headSpec wsX8_number ({ frames := 1, cells := 0, slots := 0, locals := 22 })).room s m ([.ref (ad 100)] : List Value).toArray below meth c H locs 0 0 (MQ below (va_Qi (fun (r : Int32) (u : va_W) => r = mnV (A 2) sg pl ∧ ∃ G2, u = wl Ls ad G2 ∧ ModelAt y Ls ad G2 (va_up F 13 (nI (mnP (A 2) sg pl))) A ∧ ∀ j, j ≠ 100 → G2 j = G j) (WB D b0) (fun q => b0 ≤ q)) ([.ref (ad 100)] : List Value).toArray s 0 0 (fun q => b0 ≤ q)) (F0 m 25 ls []) := by
      intro n
      induction n with
      | zero =>
        intro k q G1 hk6 hn; exact absurd hn (by omega)
      | succ n ih25 =>
        intro k q G1 hk6 hn hk eq hM1 hfr1 H locs hP hD hS ls hl
        have hple : pl + 1 + k ≤ 400 := by have := mlk_le (f := A 2) (len := sg) (p := pl + 1) (by omega) k; omega
        have eM : G1 100 = .inr (10, [.int (F 0), .int (F 1), .ref (ad 103), .int (F 3), .ref (ad 105), .ref (ad 106), .ref (ad 107), .ref (ad 108), .int (F 8), .ref (ad 110), .ref (ad 111), .ref (ad 112), .ref (ad 113), .int (nI (pl + 1 + k)), .int (F 14), .ref (ad 116), .ref (ad 117), .ref (ad 118), .ref (ad 119), .ref (ad 120), .ref (ad 121), .int (F 21), .ref (ad 123), .ref (ad 124), .ref (ad 125), .ref (ad 126), .int (F 26), .ref (ad 128), .ref (ad 129), .ref (ad 130), .ref (ad 131), .ref (ad 132), .int (F 32), .ref (ad 134)]) := hM1.2.1
        rw [h1] at eM
        refine lv_aload_n hx hb dX8_number_25 rfl (lv_at hl 0 rfl) ?_
        refine vp_callSi (va_Run.run (va_runV (As := []) (rest := []) ⟨hx, hb, hml, hown, hts⟩ (c_X8_next l D y Ls ad G1 (va_up F 13 (nI (pl + 1 + k))) A hM1 sg ((va_up_ne _ _ (by decide)).trans h1) (pl + 1 + k) (va_up_self _ _ _) hsg (by omega)) (cwV 0 hts gX8_number_X8_next rfl rfl rfl (by decide +kernel) ⟨Nat.le_of_ble_eq_true rfl, Nat.le_of_ble_eq_true rfl⟩) ⟨Wd_blind, Wd_recv hK hP (ci := 10) rfl hM.1 eM, Wd_at hP hK hN⟩ rfl rfl hl.1 rfl (lv_room (Nat.le_of_ble_eq_true rfl)) dX8_number_26 ⟨(Nat.le_of_ble_eq_true rfl), (Nat.le_of_ble_eq_true rfl)⟩)) (fun r_26 hr_26 => ?_)
        refine lv_bipush (v := 48) hx hb dX8_number_29 (by decide) ?_
        refine lv_bipush (v := 57) hx hb dX8_number_31 (by decide) ?_
        refine vp_callSi (va_Run.run (va_runS (As := [.int r_26, .int 48, .int 57]) (rest := []) ⟨hx, hb, hml, hown, hts⟩ (c_X8_in l r_26 48 57) (va_cwS 3 hts gX8_number_X8_in rfl rfl rfl (by decide +kernel) ⟨Nat.le_of_ble_eq_true rfl, Nat.le_of_ble_eq_true rfl⟩) ⟨fun _ _ _ _ q => q, fun U hU hW => ⟨rfl, trivial⟩⟩ rfl rfl hl.1 rfl (lv_room (Nat.le_of_ble_eq_true rfl)) dX8_number_33 ⟨(Nat.le_of_ble_eq_true rfl), (Nat.le_of_ble_eq_true rfl)⟩)) (fun r_33 hr_33 => ?_)
        refine lv_if_eq (tgt := 83) hx hb dX8_number_36 (by decide) (fun c_36 => ?_) (fun c_36 => ?_)
        · have hk7 : mlk (A 2) sg (pl + 1) 6 = k := by
            have h8 := mlk_stop hk (show ¬ ((48 ≤ nx (A 2) sg (pl + 1 + k) ∧ nx (A 2) sg (pl + 1 + k) ≤ 57) ∧ ¬ (k = 1 ∧ numV (A 2) (pl + 1) 1 = 0)) from fun h9 => absurd h9.1 (by rw [← hr_26]; exact wI_eq0.mp (by rw [← hr_33]; exact c_36))) (6 - k)
            rw [show k + (6 - k) = 6 by omega] at h8
            exact h8
          refine lv_iload_n hx hb dX8_number_83 rfl (lv_at hl 2 rfl) ?_
          refine lv_if_ne (tgt := 91) hx hb dX8_number_84 (by decide) (fun c_84 => ?_) (fun c_84 => ?_)
          · refine lv_iload_n hx hb dX8_number_91 rfl (lv_at hl 1 rfl) ?_
            refine W.widen (k := 0) (n := 0) (Nat.le_of_ble_eq_true rfl) (Nat.le_of_ble_eq_true rfl) ?_
            exact W.iret (v := q) hx hb hr (fun t ht hW => ⟨⟨q, wl Ls ad G1, rfl, ⟨by rw [mnV, if_pos h32, hk7, if_neg (fun h => c_84 (by rw [h]; rfl)), eq], G1, rfl, by rw [mnP, if_pos h32, hk7]; exact hM1, hfr1⟩, by rw [ht]; exact hP, hD⟩, hS.F ht⟩) hS.2.2 dX8_number_92
          · refine lv_iconst (v := (-1)) hx hb dX8_number_87 (by decide) ?_
            refine lv_goto (tgt := 92) hx hb dX8_number_88 (by decide) ?_
            refine W.widen (k := 0) (n := 0) (Nat.le_of_ble_eq_true rfl) (Nat.le_of_ble_eq_true rfl) ?_
            exact W.iret (v := (-1)) hx hb hr (fun t ht hW => ⟨⟨(-1), wl Ls ad G1, rfl, ⟨by rw [mnV, if_pos h32, hk7, if_pos ((nI_eq (by omega) (by decide)).mp (show nI k = nI 0 from c_84))], G1, rfl, by rw [mnP, if_pos h32, hk7]; exact hM1, hfr1⟩, by rw [ht]; exact hP, hD⟩, hS.F ht⟩) hS.2.2 dX8_number_92
        · have hdg : 48 ≤ nx (A 2) sg (pl + 1 + k) ∧ nx (A 2) sg (pl + 1 + k) ≤ 57 := by
            rw [← hr_26]
            exact Decidable.byContradiction fun h => c_36 (by rw [hr_33]; exact wI_eq0.mpr h)
          have hin1 : pl + 1 + k < sg := nx_in (fun h9 => by rw [h9] at hdg; exact absurd hdg.1 (by decide))
          refine lv_iload_n hx hb dX8_number_39 rfl (lv_at hl 2 rfl) ?_
          refine lv_bipush (v := 6) hx hb dX8_number_40 (by decide) ?_
          refine lv_icmp_ge (tgt := 83) hx hb dX8_number_42 (by decide) (fun c_42 => ?_) (fun c_42 => ?_)
          · have hk7 : mlk (A 2) sg (pl + 1) 6 = k := by
              obtain rfl : k = 6 := by
                have h8 := Nat.le_of_not_lt (fun h : k < 6 => absurd c_42 (nI_ge h (by decide)))
                omega
              exact hk
            refine lv_iload_n hx hb dX8_number_83 rfl (lv_at hl 2 rfl) ?_
            refine lv_if_ne (tgt := 91) hx hb dX8_number_84 (by decide) (fun c_84 => ?_) (fun c_84 => ?_)
            · refine lv_iload_n hx hb dX8_number_91 rfl (lv_at hl 1 rfl) ?_
              refine W.widen (k := 0) (n := 0) (Nat.le_of_ble_eq_true rfl) (Nat.le_of_ble_eq_true rfl) ?_
              exact W.iret (v := q) hx hb hr (fun t ht hW => ⟨⟨q, wl Ls ad G1, rfl, ⟨by rw [mnV, if_pos h32, hk7, if_neg (fun h => c_84 (by rw [h]; rfl)), eq], G1, rfl, by rw [mnP, if_pos h32, hk7]; exact hM1, hfr1⟩, by rw [ht]; exact hP, hD⟩, hS.F ht⟩) hS.2.2 dX8_number_92
            · refine lv_iconst (v := (-1)) hx hb dX8_number_87 (by decide) ?_
              refine lv_goto (tgt := 92) hx hb dX8_number_88 (by decide) ?_
              refine W.widen (k := 0) (n := 0) (Nat.le_of_ble_eq_true rfl) (Nat.le_of_ble_eq_true rfl) ?_
              exact W.iret (v := (-1)) hx hb hr (fun t ht hW => ⟨⟨(-1), wl Ls ad G1, rfl, ⟨by rw [mnV, if_pos h32, hk7, if_pos ((nI_eq (by omega) (by decide)).mp (show nI k = nI 0 from c_84))], G1, rfl, by rw [mnP, if_pos h32, hk7]; exact hM1, hfr1⟩, by rw [ht]; exact hP, hD⟩, hS.F ht⟩) hS.2.2 dX8_number_92
          · have hk5 : k < 6 := Nat.lt_of_not_le fun h => c_42 (nI_le h (by omega))
            refine lv_iload_n hx hb dX8_number_45 rfl (lv_at hl 2 rfl) ?_
            refine lv_iconst (v := 1) hx hb dX8_number_46 (by decide) ?_
            refine lv_icmp_ne (tgt := 54) hx hb dX8_number_47 (by decide) (fun c_47 => ?_) (fun c_47 => ?_)
            · refine lv_bipush (v := 10) hx hb dX8_number_54 (by decide) ?_
              refine lv_iload_n hx hb dX8_number_56 rfl (lv_at hl 1 rfl) ?_
              refine lv_imul hx hb dX8_number_57 ?_
              refine lv_aload_n hx hb dX8_number_58 rfl (lv_at hl 0 rfl) ?_
              refine vp_callSi (va_Run.run (va_runV (As := []) (rest := [.int (10 * q)]) ⟨hx, hb, hml, hown, hts⟩ (c_X8_next l D y Ls ad G1 (va_up F 13 (nI (pl + 1 + k))) A hM1 sg ((va_up_ne _ _ (by decide)).trans h1) (pl + 1 + k) (va_up_self _ _ _) hsg (by omega)) (cwV 0 hts gX8_number_X8_next rfl rfl rfl (by decide +kernel) ⟨Nat.le_of_ble_eq_true rfl, Nat.le_of_ble_eq_true rfl⟩) ⟨Wd_blind, Wd_recv hK hP (ci := 10) rfl hM.1 eM, Wd_at hP hK hN⟩ rfl rfl hl.1 rfl (lv_room (Nat.le_of_ble_eq_true rfl)) dX8_number_59 ⟨(Nat.le_of_ble_eq_true rfl), (Nat.le_of_ble_eq_true rfl)⟩)) (fun r_59 hr_59 => ?_)
              refine lv_iadd hx hb dX8_number_62 ?_
              refine lv_bipush (v := 48) hx hb dX8_number_63 (by decide) ?_
              refine lv_isub hx hb dX8_number_65 ?_
              refine lv_topi (fun x_66 ex_66 => ?_)
              refine lv_istore_n (lv' := [(1, .int x_66), (0, .ref (ad 100)), (2, .int (nI k))]) hx hb dX8_number_66 rfl hl (by decide) rfl (fun ls hl => ?_)
              refine lv_iinc (v := nI (k + 1)) (lv' := [(2, .int (nI (k + 1))), (1, .int x_66), (0, .ref (ad 100))]) hx hb dX8_number_67 hl (k := 2) rfl (nI_1 k) (by decide) rfl (fun ls hl => ?_)
              refine lv_aload_n hx hb dX8_number_70 rfl (lv_at hl 2 rfl) ?_
              refine lv_dup hx hb dX8_number_71 rfl ?_
              refine pv_get (ci := 10) (C := RX8) (T := TX8) (N := 34) hx hb hts hinX8 hown hK hP hM.1 eM rfl 13 (by decide) (hts (.fieldLink RX8 97 "StorageChargeModel" "at" "I") (by decide +kernel)) (fun _ h9 => h9) rfl dX8_number_72 ?_
              refine lv_iconst (v := 1) hx hb dX8_number_75 (by decide) ?_
              refine lv_iadd hx hb dX8_number_76 ?_
              refine lv_topi (fun z9 ez9 => ?_)
              obtain rfl : z9 = nI (pl + 1 + (k + 1)) := ez9.trans (nI_1 _)
              refine pv_put (ci := 10) (v := .int (nI (pl + 1 + (k + 1)))) (ty := .int) (C := RX8) (T := TX8) (N := 34) hx hb hts hinX8 tyX8 tyX8_ok nmX8 hown hK hP hD hS hM.1 eM rfl 13 (by decide) (hts (.fieldLink RX8 97 "StorageChargeModel" "at" "I") (by decide +kernel)) (fun _ h9 => h9) rfl (by decide +kernel) rfl rfl (Nat.le_of_ble_eq_true rfl) dX8_number_77 (fun H locs hP hD hS => ?_)
              obtain ⟨G_77, eG_77⟩ : ∃ gg9 : Nat → va_E, gg9 = va_up G1 100 (.inr (10, [.int (F 0), .int (nI sg), .ref (ad 103), .int (F 3), .ref (ad 105), .ref (ad 106), .ref (ad 107), .ref (ad 108), .int (F 8), .ref (ad 110), .ref (ad 111), .ref (ad 112), .ref (ad 113), .int (nI (pl + 1 + (k + 1))), .int (F 14), .ref (ad 116), .ref (ad 117), .ref (ad 118), .ref (ad 119), .ref (ad 120), .ref (ad 121), .int (F 21), .ref (ad 123), .ref (ad 124), .ref (ad 125), .ref (ad 126), .int (F 26), .ref (ad 128), .ref (ad 129), .ref (ad 130), .ref (ad 131), .ref (ad 132), .int (F 32), .ref (ad 134)])) := ⟨_, rfl⟩
              have hP : va_P D vwCl (wl Ls ad G_77) H := by rw [eG_77]; exact hP
              have hD : va_D (fun q => b0 ≤ q) (wl Ls ad G_77) := by rw [eG_77]; exact hD
              have eM : G_77 100 = .inr (10, [.int (F 0), .int (nI sg), .ref (ad 103), .int (F 3), .ref (ad 105), .ref (ad 106), .ref (ad 107), .ref (ad 108), .int (F 8), .ref (ad 110), .ref (ad 111), .ref (ad 112), .ref (ad 113), .int (nI (pl + 1 + (k + 1))), .int (F 14), .ref (ad 116), .ref (ad 117), .ref (ad 118), .ref (ad 119), .ref (ad 120), .ref (ad 121), .int (F 21), .ref (ad 123), .ref (ad 124), .ref (ad 125), .ref (ad 126), .int (F 26), .ref (ad 128), .ref (ad 129), .ref (ad 130), .ref (ad 131), .ref (ad 132), .int (F 32), .ref (ad 134)]) := by rw [eG_77]; exact va_up_self _ _ _
              refine lv_goto (tgt := 25) hx hb dX8_number_80 (by decide) ?_
              exact ih25 (k + 1) x_66 G_77 (by omega) (by omega) (by rw [mlk, if_pos ⟨hk, hdg, by first | exact fun h => c_47 (by rw [h.1]; rfl) | exact fun h => c_51 (by rw [eq, (nI_eq (b := 1) (by omega) (by decide)).mp c_47]; exact h.2)⟩]) (by rw [numV, ex_66, eq, hr_59, nx, if_pos hin1]) (ModelAt_w hM1 (eM.trans (by rw [← h1]; rfl)) (fun k hk => Or.inl ⟨by rw [eG_77, va_up_ne _ _ (by omega)], rfl⟩)) (fun j h9 => by rw [eG_77, va_up_ne _ _ h9]; exact hfr1 j h9) _ _ hP hD hS ls (lv_sub hl [2, 1, 0] rfl)
            · refine lv_iload_n hx hb dX8_number_50 rfl (lv_at hl 1 rfl) ?_
              refine lv_if_eq (tgt := 83) hx hb dX8_number_51 (by decide) (fun c_51 => ?_) (fun c_51 => ?_)
              · have hk7 : mlk (A 2) sg (pl + 1) 6 = k := by
                  have h8 := mlk_stop hk (show ¬ ((48 ≤ nx (A 2) sg (pl + 1 + k) ∧ nx (A 2) sg (pl + 1 + k) ≤ 57) ∧ ¬ (k = 1 ∧ numV (A 2) (pl + 1) 1 = 0)) from fun h9 => h9.2 ⟨(nI_eq (b := 1) (by omega) (by decide)).mp c_47, by have h8 : k = 1 := (nI_eq (b := 1) (by omega) (by decide)).mp c_47; rw [h8] at eq; rw [← eq]; exact c_51⟩) (6 - k)
                  rw [show k + (6 - k) = 6 by omega] at h8
                  exact h8
                refine lv_iload_n hx hb dX8_number_83 rfl (lv_at hl 2 rfl) ?_
                refine lv_if_ne (tgt := 91) hx hb dX8_number_84 (by decide) (fun c_84 => ?_) (fun c_84 => ?_)
                · refine lv_iload_n hx hb dX8_number_91 rfl (lv_at hl 1 rfl) ?_
                  refine W.widen (k := 0) (n := 0) (Nat.le_of_ble_eq_true rfl) (Nat.le_of_ble_eq_true rfl) ?_
                  exact W.iret (v := q) hx hb hr (fun t ht hW => ⟨⟨q, wl Ls ad G1, rfl, ⟨by rw [mnV, if_pos h32, hk7, if_neg (fun h => c_84 (by rw [h]; rfl)), eq], G1, rfl, by rw [mnP, if_pos h32, hk7]; exact hM1, hfr1⟩, by rw [ht]; exact hP, hD⟩, hS.F ht⟩) hS.2.2 dX8_number_92
                · refine lv_iconst (v := (-1)) hx hb dX8_number_87 (by decide) ?_
                  refine lv_goto (tgt := 92) hx hb dX8_number_88 (by decide) ?_
                  refine W.widen (k := 0) (n := 0) (Nat.le_of_ble_eq_true rfl) (Nat.le_of_ble_eq_true rfl) ?_
                  exact W.iret (v := (-1)) hx hb hr (fun t ht hW => ⟨⟨(-1), wl Ls ad G1, rfl, ⟨by rw [mnV, if_pos h32, hk7, if_pos ((nI_eq (by omega) (by decide)).mp (show nI k = nI 0 from c_84))], G1, rfl, by rw [mnP, if_pos h32, hk7]; exact hM1, hfr1⟩, by rw [ht]; exact hP, hD⟩, hS.F ht⟩) hS.2.2 dX8_number_92
              · refine lv_bipush (v := 10) hx hb dX8_number_54 (by decide) ?_
                refine lv_iload_n hx hb dX8_number_56 rfl (lv_at hl 1 rfl) ?_
                refine lv_imul hx hb dX8_number_57 ?_
                refine lv_aload_n hx hb dX8_number_58 rfl (lv_at hl 0 rfl) ?_
                refine vp_callSi (va_Run.run (va_runV (As := []) (rest := [.int (10 * q)]) ⟨hx, hb, hml, hown, hts⟩ (c_X8_next l D y Ls ad G1 (va_up F 13 (nI (pl + 1 + k))) A hM1 sg ((va_up_ne _ _ (by decide)).trans h1) (pl + 1 + k) (va_up_self _ _ _) hsg (by omega)) (cwV 0 hts gX8_number_X8_next rfl rfl rfl (by decide +kernel) ⟨Nat.le_of_ble_eq_true rfl, Nat.le_of_ble_eq_true rfl⟩) ⟨Wd_blind, Wd_recv hK hP (ci := 10) rfl hM.1 eM, Wd_at hP hK hN⟩ rfl rfl hl.1 rfl (lv_room (Nat.le_of_ble_eq_true rfl)) dX8_number_59 ⟨(Nat.le_of_ble_eq_true rfl), (Nat.le_of_ble_eq_true rfl)⟩)) (fun r_59 hr_59 => ?_)
                refine lv_iadd hx hb dX8_number_62 ?_
                refine lv_bipush (v := 48) hx hb dX8_number_63 (by decide) ?_
                refine lv_isub hx hb dX8_number_65 ?_
                refine lv_topi (fun x_66 ex_66 => ?_)
                refine lv_istore_n (lv' := [(1, .int x_66), (0, .ref (ad 100)), (2, .int (nI k))]) hx hb dX8_number_66 rfl hl (by decide) rfl (fun ls hl => ?_)
                refine lv_iinc (v := nI (k + 1)) (lv' := [(2, .int (nI (k + 1))), (1, .int x_66), (0, .ref (ad 100))]) hx hb dX8_number_67 hl (k := 2) rfl (nI_1 k) (by decide) rfl (fun ls hl => ?_)
                refine lv_aload_n hx hb dX8_number_70 rfl (lv_at hl 2 rfl) ?_
                refine lv_dup hx hb dX8_number_71 rfl ?_
                refine pv_get (ci := 10) (C := RX8) (T := TX8) (N := 34) hx hb hts hinX8 hown hK hP hM.1 eM rfl 13 (by decide) (hts (.fieldLink RX8 97 "StorageChargeModel" "at" "I") (by decide +kernel)) (fun _ h9 => h9) rfl dX8_number_72 ?_
                refine lv_iconst (v := 1) hx hb dX8_number_75 (by decide) ?_
                refine lv_iadd hx hb dX8_number_76 ?_
                refine lv_topi (fun z9 ez9 => ?_)
                obtain rfl : z9 = nI (pl + 1 + (k + 1)) := ez9.trans (nI_1 _)
                refine pv_put (ci := 10) (v := .int (nI (pl + 1 + (k + 1)))) (ty := .int) (C := RX8) (T := TX8) (N := 34) hx hb hts hinX8 tyX8 tyX8_ok nmX8 hown hK hP hD hS hM.1 eM rfl 13 (by decide) (hts (.fieldLink RX8 97 "StorageChargeModel" "at" "I") (by decide +kernel)) (fun _ h9 => h9) rfl (by decide +kernel) rfl rfl (Nat.le_of_ble_eq_true rfl) dX8_number_77 (fun H locs hP hD hS => ?_)
                obtain ⟨G_77, eG_77⟩ : ∃ gg9 : Nat → va_E, gg9 = va_up G1 100 (.inr (10, [.int (F 0), .int (nI sg), .ref (ad 103), .int (F 3), .ref (ad 105), .ref (ad 106), .ref (ad 107), .ref (ad 108), .int (F 8), .ref (ad 110), .ref (ad 111), .ref (ad 112), .ref (ad 113), .int (nI (pl + 1 + (k + 1))), .int (F 14), .ref (ad 116), .ref (ad 117), .ref (ad 118), .ref (ad 119), .ref (ad 120), .ref (ad 121), .int (F 21), .ref (ad 123), .ref (ad 124), .ref (ad 125), .ref (ad 126), .int (F 26), .ref (ad 128), .ref (ad 129), .ref (ad 130), .ref (ad 131), .ref (ad 132), .int (F 32), .ref (ad 134)])) := ⟨_, rfl⟩
                have hP : va_P D vwCl (wl Ls ad G_77) H := by rw [eG_77]; exact hP
                have hD : va_D (fun q => b0 ≤ q) (wl Ls ad G_77) := by rw [eG_77]; exact hD
                have eM : G_77 100 = .inr (10, [.int (F 0), .int (nI sg), .ref (ad 103), .int (F 3), .ref (ad 105), .ref (ad 106), .ref (ad 107), .ref (ad 108), .int (F 8), .ref (ad 110), .ref (ad 111), .ref (ad 112), .ref (ad 113), .int (nI (pl + 1 + (k + 1))), .int (F 14), .ref (ad 116), .ref (ad 117), .ref (ad 118), .ref (ad 119), .ref (ad 120), .ref (ad 121), .int (F 21), .ref (ad 123), .ref (ad 124), .ref (ad 125), .ref (ad 126), .int (F 26), .ref (ad 128), .ref (ad 129), .ref (ad 130), .ref (ad 131), .ref (ad 132), .int (F 32), .ref (ad 134)]) := by rw [eG_77]; exact va_up_self _ _ _
                refine lv_goto (tgt := 25) hx hb dX8_number_80 (by decide) ?_
                exact ih25 (k + 1) x_66 G_77 (by omega) (by omega) (by rw [mlk, if_pos ⟨hk, hdg, by first | exact fun h => c_47 (by rw [h.1]; rfl) | exact fun h => c_51 (by rw [eq, (nI_eq (b := 1) (by omega) (by decide)).mp c_47]; exact h.2)⟩]) (by rw [numV, ex_66, eq, hr_59, nx, if_pos hin1]) (ModelAt_w hM1 (eM.trans (by rw [← h1]; rfl)) (fun k hk => Or.inl ⟨by rw [eG_77, va_up_ne _ _ (by omega)], rfl⟩)) (fun j h9 => by rw [eG_77, va_up_ne _ _ h9]; exact hfr1 j h9) _ _ hP hD hS ls (lv_sub hl [2, 1, 0] rfl)
    refine lv_aload_n hx hb dX8_number_11 rfl (lv_at hl 0 rfl) ?_
    refine lv_dup hx hb dX8_number_12 rfl ?_
    refine pv_get (ci := 10) (C := RX8) (T := TX8) (N := 34) hx hb hts hinX8 hown hK hP hM.1 eM rfl 13 (by decide) (hts (.fieldLink RX8 97 "StorageChargeModel" "at" "I") (by decide +kernel)) (fun _ h9 => h9) rfl dX8_number_13 ?_
    refine lv_iconst (v := 1) hx hb dX8_number_16 (by decide) ?_
    refine lv_iadd hx hb dX8_number_17 ?_
    refine lv_topi (fun z9 ez9 => ?_)
    obtain rfl : z9 = nI (pl + 1) := ez9.trans (nI_1 pl)
    refine pv_put (ci := 10) (v := .int (nI (pl + 1))) (ty := .int) (C := RX8) (T := TX8) (N := 34) hx hb hts hinX8 tyX8 tyX8_ok nmX8 hown hK hP hD hS hM.1 eM rfl 13 (by decide) (hts (.fieldLink RX8 97 "StorageChargeModel" "at" "I") (by decide +kernel)) (fun _ h9 => h9) rfl (by decide +kernel) rfl rfl (Nat.le_of_ble_eq_true rfl) dX8_number_18 (fun H locs hP hD hS => ?_)
    obtain ⟨G_18, eG_18⟩ : ∃ gg9 : Nat → va_E, gg9 = va_up G 100 (.inr (10, [.int (F 0), .int (nI sg), .ref (ad 103), .int (F 3), .ref (ad 105), .ref (ad 106), .ref (ad 107), .ref (ad 108), .int (F 8), .ref (ad 110), .ref (ad 111), .ref (ad 112), .ref (ad 113), .int (nI (pl + 1)), .int (F 14), .ref (ad 116), .ref (ad 117), .ref (ad 118), .ref (ad 119), .ref (ad 120), .ref (ad 121), .int (F 21), .ref (ad 123), .ref (ad 124), .ref (ad 125), .ref (ad 126), .int (F 26), .ref (ad 128), .ref (ad 129), .ref (ad 130), .ref (ad 131), .ref (ad 132), .int (F 32), .ref (ad 134)])) := ⟨_, rfl⟩
    have hP : va_P D vwCl (wl Ls ad G_18) H := by rw [eG_18]; exact hP
    have hD : va_D (fun q => b0 ≤ q) (wl Ls ad G_18) := by rw [eG_18]; exact hD
    have eM : G_18 100 = .inr (10, [.int (F 0), .int (nI sg), .ref (ad 103), .int (F 3), .ref (ad 105), .ref (ad 106), .ref (ad 107), .ref (ad 108), .int (F 8), .ref (ad 110), .ref (ad 111), .ref (ad 112), .ref (ad 113), .int (nI (pl + 1)), .int (F 14), .ref (ad 116), .ref (ad 117), .ref (ad 118), .ref (ad 119), .ref (ad 120), .ref (ad 121), .int (F 21), .ref (ad 123), .ref (ad 124), .ref (ad 125), .ref (ad 126), .int (F 26), .ref (ad 128), .ref (ad 129), .ref (ad 130), .ref (ad 131), .ref (ad 132), .int (F 32), .ref (ad 134)]) := by rw [eG_18]; exact va_up_self _ _ _
    have hMn : ModelAt y Ls ad G_18 (va_up F 13 (nI (pl + 1 + 0))) A := (ModelAt_w hM (eM.trans (by rw [← h1]; rfl)) (fun k hk => Or.inl ⟨by rw [eG_18, va_up_ne _ _ (by omega)], rfl⟩))
    refine lv_iconst (v := 0) hx hb dX8_number_21 (by decide) ?_
    refine lv_istore_n (lv' := [(1, .int 0), (0, .ref (ad 100))]) hx hb dX8_number_22 rfl hl (by decide) rfl (fun ls hl => ?_)
    refine lv_iconst (v := 0) hx hb dX8_number_23 (by decide) ?_
    refine lv_istore_n (lv' := [(2, .int 0), (1, .int 0), (0, .ref (ad 100))]) hx hb dX8_number_24 rfl hl (by decide) rfl (fun ls hl => ?_)
    exact loop25 7 0 0 G_18 (by decide) (by decide) rfl rfl hMn (fun j h9 => by rw [eG_18, va_up_ne _ _ h9]) _ _ hP hD hS ls (lv_sub hl [2, 1, 0] rfl)
  · refine lv_iconst (v := (-1)) hx hb dX8_number_9 (by decide) ?_
    refine W.widen (k := 0) (n := 0) (Nat.le_of_ble_eq_true rfl) (Nat.le_of_ble_eq_true rfl) ?_
    exact W.iret (v := (-1)) hx hb hr (fun t ht hW => ⟨⟨(-1), wl Ls ad G, rfl, ⟨by rw [mnV, if_neg (by rw [← hr_1]; exact c_6)], G, rfl, ModelAt_w hM (hM.2.1.trans (by rw [mnP, if_neg (by rw [← hr_1]; exact c_6), mfs, mfs, h13]; rfl)) (fun k hk => Or.inl ⟨rfl, rfl⟩), fun j h9 => rfl⟩, by rw [ht]; exact hP, hD⟩, hS.F ht⟩) hS.2.2 dX8_number_10
