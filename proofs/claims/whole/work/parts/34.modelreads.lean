/-! the model: its object at the label 100, its row of the field k at 101 + k -/
def asz : Nat → Nat
  | 2 => 400
  | 4 => 60
  | 5 => 60
  | 6 => 60
  | 7 => 60
  | 9 => 60
  | 10 => 60
  | 11 => 60
  | 12 => 60
  | 15 => 24
  | 16 => 24
  | 17 => 24
  | 18 => 24
  | 19 => 216
  | 20 => 216
  | 22 => 60
  | 23 => 60
  | 24 => 60
  | 25 => 60
  | 27 => 520
  | 28 => 520
  | 29 => 520
  | 30 => 520
  | 31 => 960
  | 33 => 9000
  | _ => 0
def aty : Nat → Nat
  | 30 => 2
  | 31 => 2
  | _ => 0
def mfs (ad : Nat → Nat) (F : Nat → Int32) : List Value := [.int (F 0), .int (F 1), .ref (ad 103), .int (F 3), .ref (ad 105), .ref (ad 106), .ref (ad 107), .ref (ad 108), .int (F 8), .ref (ad 110), .ref (ad 111), .ref (ad 112), .ref (ad 113), .int (F 13), .int (F 14), .ref (ad 116), .ref (ad 117), .ref (ad 118), .ref (ad 119), .ref (ad 120), .ref (ad 121), .int (F 21), .ref (ad 123), .ref (ad 124), .ref (ad 125), .ref (ad 126), .int (F 26), .ref (ad 128), .ref (ad 129), .ref (ad 130), .ref (ad 131), .ref (ad 132), .int (F 32), .ref (ad 134)]
def ModelAt (y : Nat → ClassId) (Ls : List Nat) (ad : Nat → Nat) (G : Nat → va_E) (F : Nat → Int32) (A : Nat → Nat → Int32) : Prop :=
  100 ∈ Ls ∧ G 100 = .inr (10, mfs ad F) ∧ ∀ k, asz k ≠ 0 → 101 + k ∈ Ls ∧ G (101 + k) = .inl (y (aty k), asz k, .inl (A k))
theorem nI9 (u i : Nat) : 9 * nI u + nI i = nI (9 * u + i) := by rw [show (9 : Int32) * nI u = nI (9 * u) from pk_mul 9 u, nI_add]
/-- sums -/
def sN (v : Nat → Int32) : Nat → Int32
  | 0 => 0
  | k + 1 => sN v k + v k
/-- the first of the lines i, i + 1 .. (so many) that says it -/
def mCh (L O Wh Mu : Nat → Int32) (l o w : Int32) : Nat → Nat → Int32
  | 0, _ => -1
  | n + 1, i => if L i = l ∧ O i = o ∧ Wh i = w then Mu i else mCh L O Wh Mu l o w n (i + 1)
def mCe (L O Wh Mu : Nat → Int32) (l o w : Int32) (n : Nat) : Int32 := if mCh L O Wh Mu l o w n 0 = -1 then 0 else mCh L O Wh Mu l o w n 0
def mHas (L O Wh : Nat → Int32) (l o w : Int32) (n : Nat) : Prop := ∃ i, i < n ∧ L i = l ∧ O i = o ∧ Wh i = w
def mK (td tk : Nat → Int32) (b : Nat) (d : Int32) : Nat → Int32
  | 0 => -1
  | i + 1 => if td (b + i) < d then tk (b + i) else if td (b + i) = d ∧ mK td tk b d i < tk (b + i) then tk (b + i) else mK td tk b d i
abbrev mIn (uo uf ut : Nat → Int32) (o : Int32) (u d : Nat) : Prop := uo u = o ∧ uf u ≤ nI d ∧ nI d ≤ ut u
def mDay (uo uf ut : Nat → Int32) (o : Int32) (m nu : Nat) : Int32 := sN (fun u => sN (fun j => if mIn uo uf ut o u (30 * m + j) then 1 else 0) 30) nu
def mSto (L O Wh Mu : Nat → Int32) (nl : Nat) (uo uf ut tn td tk : Nat → Int32) (o by0 : Int32) (m nu : Nat) : Int32 := sN (fun u => sN (fun j => if mIn uo uf ut o u (30 * m + j) then mCe L O Wh Mu 83 by0 (mK td tk (9 * u) (nI (30 * m + j)) (tn u).toNatClampNeg) nl else 0) 30) nu

set_option maxHeartbeats 4000000 in
set_option maxRecDepth 100000 in
/-- in -/
theorem c_X8_in (l : Launch) (a b c0 : Int32) : Met l yX8_in wsX8_in ({ frames := 0, cells := 0, slots := 0, locals := 0 }) (va_Pc [.int a, .int b, .int c0] (fun _ => True)) (vp_Si (fun r => r = wI a b c0)) 0 0 (fun _ => False) := by
  refine Met.ofW (cc := cX8_in) (maxL := 3) (ret := (some .boolean)) (by decide) rfl ?_
  intro p e s m args below meth c s₁ B hml hv
  obtain ⟨rfl, -⟩ := hv
  have hx := B.exec
  have hb := B.bytes
  have hr := B.returns
  have hts := atoms_spec (ws := wsX8_in) B.pre
  have hown : s.vm.findClass RX8 = some m.cls := findClass_of_methodNamed B.named
  have hlocks := B.notSynchronized
  have hl := lv_entry ([.int a, .int b, .int c0]) (n := 3) (Nat.le_of_ble_eq_true rfl)
  rw [lg_entry_eq]
  generalize (lg_sl ([.int a, .int b, .int c0]) ++ List.replicate (3 - (lg_sl ([.int a, .int b, .int c0])).length) Slot.unset).toArray = ls at hl ⊢
  have hl : lv_has ls 3 [(0, .int a), (1, .int b), (2, .int c0)] := hl
  refine lv_iload_n hx hb dX8_in_0 rfl (lv_at hl 0 rfl) ?_
  refine lv_iload_n hx hb dX8_in_1 rfl (lv_at hl 1 rfl) ?_
  refine lv_icmp_lt (tgt := 14) hx hb dX8_in_2 (by decide) (fun c_2 => ?_) (fun c_2 => ?_)
  · refine lv_iconst (v := 0) hx hb dX8_in_14 (by decide) ?_
    exact W.zret (v := 0) hx hb hr (by first | rfl | decide | (simp [narrow]; done) | assumption) (fun t ht hW => ⟨0, rfl, (by rw [wI, if_neg]; rintro ⟨h1, h2⟩; first | exact absurd c_2 (Int32.not_lt.mpr h1) | exact absurd c_7 (Int32.not_lt.mpr h2)), ht⟩) (fun q h => by cases h) dX8_in_15
  · refine lv_iload_n hx hb dX8_in_5 rfl (lv_at hl 0 rfl) ?_
    refine lv_iload_n hx hb dX8_in_6 rfl (lv_at hl 2 rfl) ?_
    refine lv_icmp_gt (tgt := 14) hx hb dX8_in_7 (by decide) (fun c_7 => ?_) (fun c_7 => ?_)
    · refine lv_iconst (v := 0) hx hb dX8_in_14 (by decide) ?_
      exact W.zret (v := 0) hx hb hr (by first | rfl | decide | (simp [narrow]; done) | assumption) (fun t ht hW => ⟨0, rfl, (by rw [wI, if_neg]; rintro ⟨h1, h2⟩; first | exact absurd c_2 (Int32.not_lt.mpr h1) | exact absurd c_7 (Int32.not_lt.mpr h2)), ht⟩) (fun q h => by cases h) dX8_in_15
    · refine lv_iconst (v := 1) hx hb dX8_in_10 (by decide) ?_
      refine lv_goto (tgt := 15) hx hb dX8_in_11 (by decide) ?_
      exact W.zret (v := 1) hx hb hr (by first | rfl | decide | (simp [narrow]; done) | assumption) (fun t ht hW => ⟨1, rfl, (by rw [wI, if_pos ⟨Int32.not_lt.mp c_2, Int32.not_lt.mp c_7⟩]), ht⟩) (fun q h => by cases h) dX8_in_15

set_option maxHeartbeats 4000000 in
set_option maxRecDepth 100000 in
/-- isOwner -/
theorem c_X8_isOwner (l : Launch) (a : Int32) : Met l yX8_isOwner wsX8_isOwner ({ frames := 1, cells := 0, slots := 0, locals := 22 }) (va_Pc [.int a] (fun _ => True)) (vp_Si (fun r => r = wI a 0 7)) 0 0 (fun _ => False) := by
  refine Met.ofW (cc := cX8_isOwner) (maxL := 1) (ret := (some .boolean)) (by decide) rfl ?_
  intro p e s m args below meth c s₁ B hml hv
  obtain ⟨rfl, -⟩ := hv
  have hx := B.exec
  have hb := B.bytes
  have hr := B.returns
  have hts := atoms_spec (ws := wsX8_isOwner) B.pre
  have hown : s.vm.findClass RX8 = some m.cls := findClass_of_methodNamed B.named
  have hlocks := B.notSynchronized
  have hl := lv_entry ([.int a]) (n := 1) (Nat.le_of_ble_eq_true rfl)
  rw [lg_entry_eq]
  generalize (lg_sl ([.int a]) ++ List.replicate (1 - (lg_sl ([.int a])).length) Slot.unset).toArray = ls at hl ⊢
  have hl : lv_has ls 1 [(0, .int a)] := hl
  refine lv_iload_n hx hb dX8_isOwner_0 rfl (lv_at hl 0 rfl) ?_
  refine lv_iconst (v := 0) hx hb dX8_isOwner_1 (by decide) ?_
  refine lv_bipush (v := 7) hx hb dX8_isOwner_2 (by decide) ?_
  refine vp_callSi (va_Run.run (va_runS (As := [.int a, .int 0, .int 7]) (rest := []) ⟨hx, hb, hml, hown, hts⟩ (c_X8_in l a 0 7) (va_cwS 3 hts gX8_isOwner_X8_in rfl rfl rfl (by decide +kernel) ⟨Nat.le_of_ble_eq_true rfl, Nat.le_of_ble_eq_true rfl⟩) ⟨fun _ _ _ _ q => q, fun U hU hW => ⟨rfl, trivial⟩⟩ rfl rfl hl.1 rfl (lv_room (Nat.le_of_ble_eq_true rfl)) dX8_isOwner_4 ⟨Nat.zero_le _, Nat.zero_le _⟩)) (fun r_4 hr_4 => ?_)
  have hn9 : narrow .boolean (.int r_4) = .int r_4 := by rw [hr_4, wI]; split <;> rfl
  exact W.zret (v := r_4) hx hb hr (by first | rfl | decide | (simp [narrow]; done) | assumption) (fun t ht hW => ⟨r_4, rfl, hr_4, ht⟩) (fun q h => by cases h) dX8_isOwner_7

set_option maxHeartbeats 4000000 in
set_option maxRecDepth 100000 in
/-- isMonth -/
theorem c_X8_isMonth (l : Launch) (a : Int32) : Met l yX8_isMonth wsX8_isMonth ({ frames := 1, cells := 0, slots := 0, locals := 22 }) (va_Pc [.int a] (fun _ => True)) (vp_Si (fun r => r = wI a 0 119)) 0 0 (fun _ => False) := by
  refine Met.ofW (cc := cX8_isMonth) (maxL := 1) (ret := (some .boolean)) (by decide) rfl ?_
  intro p e s m args below meth c s₁ B hml hv
  obtain ⟨rfl, -⟩ := hv
  have hx := B.exec
  have hb := B.bytes
  have hr := B.returns
  have hts := atoms_spec (ws := wsX8_isMonth) B.pre
  have hown : s.vm.findClass RX8 = some m.cls := findClass_of_methodNamed B.named
  have hlocks := B.notSynchronized
  have hl := lv_entry ([.int a]) (n := 1) (Nat.le_of_ble_eq_true rfl)
  rw [lg_entry_eq]
  generalize (lg_sl ([.int a]) ++ List.replicate (1 - (lg_sl ([.int a])).length) Slot.unset).toArray = ls at hl ⊢
  have hl : lv_has ls 1 [(0, .int a)] := hl
  refine lv_iload_n hx hb dX8_isMonth_0 rfl (lv_at hl 0 rfl) ?_
  refine lv_iconst (v := 0) hx hb dX8_isMonth_1 (by decide) ?_
  refine lv_bipush (v := 119) hx hb dX8_isMonth_2 (by decide) ?_
  refine vp_callSi (va_Run.run (va_runS (As := [.int a, .int 0, .int 119]) (rest := []) ⟨hx, hb, hml, hown, hts⟩ (c_X8_in l a 0 119) (va_cwS 3 hts gX8_isMonth_X8_in rfl rfl rfl (by decide +kernel) ⟨Nat.le_of_ble_eq_true rfl, Nat.le_of_ble_eq_true rfl⟩) ⟨fun _ _ _ _ q => q, fun U hU hW => ⟨rfl, trivial⟩⟩ rfl rfl hl.1 rfl (lv_room (Nat.le_of_ble_eq_true rfl)) dX8_isMonth_4 ⟨Nat.zero_le _, Nat.zero_le _⟩)) (fun r_4 hr_4 => ?_)
  have hn9 : narrow .boolean (.int r_4) = .int r_4 := by rw [hr_4, wI]; split <;> rfl
  exact W.zret (v := r_4) hx hb hr (by first | rfl | decide | (simp [narrow]; done) | assumption) (fun t ht hW => ⟨r_4, rfl, hr_4, ht⟩) (fun q h => by cases h) dX8_isMonth_7

set_option maxHeartbeats 4000000 in
set_option maxRecDepth 100000 in
/-- isDay -/
theorem c_X8_isDay (l : Launch) (a : Int32) : Met l yX8_isDay wsX8_isDay ({ frames := 1, cells := 0, slots := 0, locals := 22 }) (va_Pc [.int a] (fun _ => True)) (vp_Si (fun r => r = wI a 0 3599)) 0 0 (fun _ => False) := by
  refine Met.ofW (cc := cX8_isDay) (maxL := 1) (ret := (some .boolean)) (by decide) rfl ?_
  intro p e s m args below meth c s₁ B hml hv
  obtain ⟨rfl, -⟩ := hv
  have hx := B.exec
  have hb := B.bytes
  have hr := B.returns
  have hts := atoms_spec (ws := wsX8_isDay) B.pre
  have hown : s.vm.findClass RX8 = some m.cls := findClass_of_methodNamed B.named
  have hlocks := B.notSynchronized
  have hl := lv_entry ([.int a]) (n := 1) (Nat.le_of_ble_eq_true rfl)
  rw [lg_entry_eq]
  generalize (lg_sl ([.int a]) ++ List.replicate (1 - (lg_sl ([.int a])).length) Slot.unset).toArray = ls at hl ⊢
  have hl : lv_has ls 1 [(0, .int a)] := hl
  refine lv_iload_n hx hb dX8_isDay_0 rfl (lv_at hl 0 rfl) ?_
  refine lv_iconst (v := 0) hx hb dX8_isDay_1 (by decide) ?_
  refine lv_sipush (v := 3599) hx hb dX8_isDay_2 (by decide) ?_
  refine vp_callSi (va_Run.run (va_runS (As := [.int a, .int 0, .int 3599]) (rest := []) ⟨hx, hb, hml, hown, hts⟩ (c_X8_in l a 0 3599) (va_cwS 3 hts gX8_isDay_X8_in rfl rfl rfl (by decide +kernel) ⟨Nat.le_of_ble_eq_true rfl, Nat.le_of_ble_eq_true rfl⟩) ⟨fun _ _ _ _ q => q, fun U hU hW => ⟨rfl, trivial⟩⟩ rfl rfl hl.1 rfl (lv_room (Nat.le_of_ble_eq_true rfl)) dX8_isDay_5 ⟨Nat.zero_le _, Nat.zero_le _⟩)) (fun r_5 hr_5 => ?_)
  have hn9 : narrow .boolean (.int r_5) = .int r_5 := by rw [hr_5, wI]; split <;> rfl
  exact W.zret (v := r_5) hx hb hr (by first | rfl | decide | (simp [narrow]; done) | assumption) (fun t ht hW => ⟨r_5, rfl, hr_5, ht⟩) (fun q h => by cases h) dX8_isDay_8

set_option maxHeartbeats 4000000 in
set_option maxRecDepth 100000 in
/-- isKind -/
theorem c_X8_isKind (l : Launch) (a : Int32) : Met l yX8_isKind wsX8_isKind ({ frames := 1, cells := 0, slots := 0, locals := 22 }) (va_Pc [.int a] (fun _ => True)) (vp_Si (fun r => r = wI a 0 4)) 0 0 (fun _ => False) := by
  refine Met.ofW (cc := cX8_isKind) (maxL := 1) (ret := (some .boolean)) (by decide) rfl ?_
  intro p e s m args below meth c s₁ B hml hv
  obtain ⟨rfl, -⟩ := hv
  have hx := B.exec
  have hb := B.bytes
  have hr := B.returns
  have hts := atoms_spec (ws := wsX8_isKind) B.pre
  have hown : s.vm.findClass RX8 = some m.cls := findClass_of_methodNamed B.named
  have hlocks := B.notSynchronized
  have hl := lv_entry ([.int a]) (n := 1) (Nat.le_of_ble_eq_true rfl)
  rw [lg_entry_eq]
  generalize (lg_sl ([.int a]) ++ List.replicate (1 - (lg_sl ([.int a])).length) Slot.unset).toArray = ls at hl ⊢
  have hl : lv_has ls 1 [(0, .int a)] := hl
  refine lv_iload_n hx hb dX8_isKind_0 rfl (lv_at hl 0 rfl) ?_
  refine lv_iconst (v := 0) hx hb dX8_isKind_1 (by decide) ?_
  refine lv_iconst (v := 4) hx hb dX8_isKind_2 (by decide) ?_
  refine vp_callSi (va_Run.run (va_runS (As := [.int a, .int 0, .int 4]) (rest := []) ⟨hx, hb, hml, hown, hts⟩ (c_X8_in l a 0 4) (va_cwS 3 hts gX8_isKind_X8_in rfl rfl rfl (by decide +kernel) ⟨Nat.le_of_ble_eq_true rfl, Nat.le_of_ble_eq_true rfl⟩) ⟨fun _ _ _ _ q => q, fun U hU hW => ⟨rfl, trivial⟩⟩ rfl rfl hl.1 rfl (lv_room (Nat.le_of_ble_eq_true rfl)) dX8_isKind_3 ⟨Nat.zero_le _, Nat.zero_le _⟩)) (fun r_3 hr_3 => ?_)
  have hn9 : narrow .boolean (.int r_3) = .int r_3 := by rw [hr_3, wI]; split <;> rfl
  exact W.zret (v := r_3) hx hb hr (by first | rfl | decide | (simp [narrow]; done) | assumption) (fun t ht hW => ⟨r_3, rfl, hr_3, ht⟩) (fun q h => by cases h) dX8_isKind_6

set_option maxHeartbeats 4000000 in
set_option maxRecDepth 100000 in
/-- thrown -/
theorem c_X8_thrown (l : Launch) (D : va_G) (y : Nat → ClassId) (Ls : List Nat) (ad : Nat → Nat) (G : Nat → va_E) (F : Nat → Int32) (A : Nat → Nat → Int32) (hM : ModelAt y Ls ad G F A) : Met l yX8_thrown wsX8_thrown ({ frames := 0, cells := 0, slots := 0, locals := 0 }) (va_Pc [.ref (ad 100)] (Wd D y (wl Ls ad G))) (vp_Si (fun r => r = F 0)) 0 0 (fun _ => False) := by
  refine Met.ofW (cc := cX8_thrown) (maxL := 1) (ret := (some .int)) (by decide) rfl ?_
  intro p e s m args below meth c s₁ B hml hv
  obtain ⟨rfl, hP, hK, hN⟩ := hv
  have hx := B.exec
  have hb := B.bytes
  have hr := B.returns
  have hts := atoms_spec (ws := wsX8_thrown) B.pre
  have hown : s.vm.findClass RX8 = some m.cls := findClass_of_methodNamed B.named
  have hlocks := B.notSynchronized
  have hinX8 : ∀ w ∈ wsX80, w ∈ wsX8_thrown := by decide +kernel
  have eM : G 100 = .inr (10, [.int (F 0), .int (F 1), .ref (ad 103), .int (F 3), .ref (ad 105), .ref (ad 106), .ref (ad 107), .ref (ad 108), .int (F 8), .ref (ad 110), .ref (ad 111), .ref (ad 112), .ref (ad 113), .int (F 13), .int (F 14), .ref (ad 116), .ref (ad 117), .ref (ad 118), .ref (ad 119), .ref (ad 120), .ref (ad 121), .int (F 21), .ref (ad 123), .ref (ad 124), .ref (ad 125), .ref (ad 126), .int (F 26), .ref (ad 128), .ref (ad 129), .ref (ad 130), .ref (ad 131), .ref (ad 132), .int (F 32), .ref (ad 134)]) := hM.2.1
  have hl := lv_entry ([.ref (ad 100)]) (n := 1) (Nat.le_of_ble_eq_true rfl)
  rw [lg_entry_eq]
  generalize (lg_sl ([.ref (ad 100)]) ++ List.replicate (1 - (lg_sl ([.ref (ad 100)])).length) Slot.unset).toArray = ls at hl ⊢
  have hl : lv_has ls 1 [(0, .ref (ad 100))] := hl
  refine lv_aload_n hx hb dX8_thrown_0 rfl (lv_at hl 0 rfl) ?_
  refine pv_get (ci := 10) (C := RX8) (T := TX8) (N := 34) hx hb hts hinX8 hown hK hP hM.1 eM rfl 0 (by decide) (hts (.fieldLink RX8 86 "StorageChargeModel" "code" "I") (by decide +kernel)) (fun _ h9 => h9) rfl dX8_thrown_1 ?_
  exact W.iret (v := F 0) hx hb hr (fun t ht hW => ⟨F 0, rfl, rfl, ht⟩) (fun q h => by cases h) dX8_thrown_4

set_option maxHeartbeats 4000000 in
set_option maxRecDepth 100000 in
/-- next -/
theorem c_X8_next (l : Launch) (D : va_G) (y : Nat → ClassId) (Ls : List Nat) (ad : Nat → Nat) (G : Nat → va_E) (F : Nat → Int32) (A : Nat → Nat → Int32) (hM : ModelAt y Ls ad G F A) (sg : Nat) (h1 : F 1 = nI sg) (pl : Nat) (h13 : F 13 = nI pl) (hsg : sg ≤ 400) (hpl : pl ≤ 400) : Met l yX8_next wsX8_next ({ frames := 0, cells := 0, slots := 0, locals := 0 }) (va_Pc [.ref (ad 100)] (Wd D y (wl Ls ad G))) (vp_Si (fun r => r = nx (A 2) sg pl)) 0 0 (fun _ => False) := by
  refine Met.ofW (cc := cX8_next) (maxL := 1) (ret := (some .int)) (by decide) rfl ?_
  intro p e s m args below meth c s₁ B hml hv
  obtain ⟨rfl, hP, hK, hN⟩ := hv
  have hx := B.exec
  have hb := B.bytes
  have hr := B.returns
  have hts := atoms_spec (ws := wsX8_next) B.pre
  have hown : s.vm.findClass RX8 = some m.cls := findClass_of_methodNamed B.named
  have hlocks := B.notSynchronized
  have hinX8 : ∀ w ∈ wsX80, w ∈ wsX8_next := by decide +kernel
  have eM : G 100 = .inr (10, [.int (F 0), .int (nI sg), .ref (ad 103), .int (F 3), .ref (ad 105), .ref (ad 106), .ref (ad 107), .ref (ad 108), .int (F 8), .ref (ad 110), .ref (ad 111), .ref (ad 112), .ref (ad 113), .int (nI pl), .int (F 14), .ref (ad 116), .ref (ad 117), .ref (ad 118), .ref (ad 119), .ref (ad 120), .ref (ad 121), .int (F 21), .ref (ad 123), .ref (ad 124), .ref (ad 125), .ref (ad 126), .int (F 26), .ref (ad 128), .ref (ad 129), .ref (ad 130), .ref (ad 131), .ref (ad 132), .int (F 32), .ref (ad 134)]) := hM.2.1.trans (by rw [mfs, h1, h13])
  obtain ⟨j2, a2⟩ : 103 ∈ Ls ∧ G 103 = .inl (y 0, 400, .inl (A 2)) := hM.2.2 2 (by decide)
  have hl := lv_entry ([.ref (ad 100)]) (n := 1) (Nat.le_of_ble_eq_true rfl)
  rw [lg_entry_eq]
  generalize (lg_sl ([.ref (ad 100)]) ++ List.replicate (1 - (lg_sl ([.ref (ad 100)])).length) Slot.unset).toArray = ls at hl ⊢
  have hl : lv_has ls 1 [(0, .ref (ad 100))] := hl
  refine lv_aload_n hx hb dX8_next_0 rfl (lv_at hl 0 rfl) ?_
  refine pv_get (ci := 10) (C := RX8) (T := TX8) (N := 34) hx hb hts hinX8 hown hK hP hM.1 eM rfl 13 (by decide) (hts (.fieldLink RX8 97 "StorageChargeModel" "at" "I") (by decide +kernel)) (fun _ h9 => h9) rfl dX8_next_1 ?_
  refine lv_aload_n hx hb dX8_next_4 rfl (lv_at hl 0 rfl) ?_
  refine pv_get (ci := 10) (C := RX8) (T := TX8) (N := 34) hx hb hts hinX8 hown hK hP hM.1 eM rfl 1 (by decide) (hts (.fieldLink RX8 94 "StorageChargeModel" "signs" "I") (by decide +kernel)) (fun _ h9 => h9) rfl dX8_next_5 ?_
  refine lv_icmp_ge (tgt := 23) hx hb dX8_next_8 (by decide) (fun c_8 => ?_) (fun c_8 => ?_)
  · have hge : ¬ pl < sg := fun h => absurd c_8 (nI_ge h (by omega))
    refine lv_iconst (v := (-1)) hx hb dX8_next_23 (by decide) ?_
    exact W.iret (v := (-1)) hx hb hr (fun t ht hW => ⟨(-1), rfl, (by rw [nx, if_neg hge]), ht⟩) (fun q h => by cases h) dX8_next_24
  · have hlt : pl < sg := Nat.lt_of_not_le fun h => c_8 (nI_le h (by omega))
    refine lv_aload_n hx hb dX8_next_11 rfl (lv_at hl 0 rfl) ?_
    refine pv_get (ci := 10) (C := RX8) (T := TX8) (N := 34) hx hb hts hinX8 hown hK hP hM.1 eM rfl 2 (by decide) (hts (.fieldLink RX8 7 "StorageChargeModel" "text" "[I") (by decide +kernel)) (fun _ h9 => h9) rfl dX8_next_12 ?_
    refine lv_aload_n hx hb dX8_next_15 rfl (lv_at hl 0 rfl) ?_
    refine pv_get (ci := 10) (C := RX8) (T := TX8) (N := 34) hx hb hts hinX8 hown hK hP hM.1 eM rfl 13 (by decide) (hts (.fieldLink RX8 97 "StorageChargeModel" "at" "I") (by decide +kernel)) (fun _ h9 => h9) rfl dX8_next_16 ?_
    refine pv_iald hx hb hK hP j2 0 a2 rfl (k := pl) rfl (by omega) (by decide) dX8_next_19 ?_
    refine lv_goto (tgt := 24) hx hb dX8_next_20 (by decide) ?_
    exact W.iret (v := (A 2) pl) hx hb hr (fun t ht hW => ⟨(A 2) pl, rfl, (by rw [nx, if_pos hlt]), ht⟩) (fun q h => by cases h) dX8_next_24

set_option maxHeartbeats 4000000 in
set_option maxRecDepth 100000 in
/-- isAgain -/
theorem c_X8_isAgain (l : Launch) (D : va_G) (y : Nat → ClassId) (Ls : List Nat) (ad : Nat → Nat) (G : Nat → va_E) (F : Nat → Int32) (A : Nat → Nat → Int32) (hM : ModelAt y Ls ad G F A) (fr : Nat) (h8 : F 8 = nI fr) (hfr : fr ≤ 60) (l0 o w0 : Int32) : Met l yX8_isAgain wsX8_isAgain ({ frames := 0, cells := 0, slots := 0, locals := 0 }) (va_Pc [.ref (ad 100), .int l0, .int o, .int w0] (Wd D y (wl Ls ad G))) (vp_Si (fun r => (r = 1 ∧ mHas (A 9) (A 10) (A 11) l0 o w0 fr) ∨ (r = 0 ∧ ¬ mHas (A 9) (A 10) (A 11) l0 o w0 fr))) 0 0 (fun _ => False) := by
  refine Met.ofW (cc := cX8_isAgain) (maxL := 5) (ret := (some .boolean)) (by decide) rfl ?_
  intro p e s m args below meth c s₁ B hml hv
  obtain ⟨rfl, hP, hK, hN⟩ := hv
  have hx := B.exec
  have hb := B.bytes
  have hr := B.returns
  have hts := atoms_spec (ws := wsX8_isAgain) B.pre
  have hown : s.vm.findClass RX8 = some m.cls := findClass_of_methodNamed B.named
  have hlocks := B.notSynchronized
  have hinX8 : ∀ w ∈ wsX80, w ∈ wsX8_isAgain := by decide +kernel
  have eM : G 100 = .inr (10, [.int (F 0), .int (F 1), .ref (ad 103), .int (F 3), .ref (ad 105), .ref (ad 106), .ref (ad 107), .ref (ad 108), .int (nI fr), .ref (ad 110), .ref (ad 111), .ref (ad 112), .ref (ad 113), .int (F 13), .int (F 14), .ref (ad 116), .ref (ad 117), .ref (ad 118), .ref (ad 119), .ref (ad 120), .ref (ad 121), .int (F 21), .ref (ad 123), .ref (ad 124), .ref (ad 125), .ref (ad 126), .int (F 26), .ref (ad 128), .ref (ad 129), .ref (ad 130), .ref (ad 131), .ref (ad 132), .int (F 32), .ref (ad 134)]) := hM.2.1.trans (by rw [mfs, h8])
  obtain ⟨j9, a9⟩ : 110 ∈ Ls ∧ G 110 = .inl (y 0, 60, .inl (A 9)) := hM.2.2 9 (by decide)
  obtain ⟨j10, a10⟩ : 111 ∈ Ls ∧ G 111 = .inl (y 0, 60, .inl (A 10)) := hM.2.2 10 (by decide)
  obtain ⟨j11, a11⟩ : 112 ∈ Ls ∧ G 112 = .inl (y 0, 60, .inl (A 11)) := hM.2.2 11 (by decide)
  have loop3 : ∀ (n : Nat) (i : Nat), i ≤ fr → fr < i + n → ¬ mHas (A 9) (A 10) (A 11) l0 o w0 i → ∀ ls : Array Slot, lv_has ls 5 [(0, .ref (ad 100)), (1, .int l0), (2, .int o), (3, .int w0), (4, .int (nI i))] → W p l e (headSpec wsX8_isAgain ({ frames := 0, cells := 0, slots := 0, locals := 0 })).room s m ([.ref (ad 100), .int l0, .int o, .int w0] : List Value).toArray below meth c s.heap [] 0 0 (MQ below (vp_Si (fun r => (r = 1 ∧ mHas (A 9) (A 10) (A 11) l0 o w0 fr) ∨ (r = 0 ∧ ¬ mHas (A 9) (A 10) (A 11) l0 o w0 fr))) ([.ref (ad 100), .int l0, .int o, .int w0] : List Value).toArray s 0 0 (fun _ => False)) (F0 m 3 ls []) := by
    intro n
    induction n with
    | zero =>
      intro i hi hn; exact absurd hn (by omega)
    | succ n ih3 =>
      intro i hi hn hno ls hl
      refine lv_iload hx hb dX8_isAgain_3 (lv_at hl 4 rfl) ?_
      refine lv_aload_n hx hb dX8_isAgain_5 rfl (lv_at hl 0 rfl) ?_
      refine pv_get (ci := 10) (C := RX8) (T := TX8) (N := 34) hx hb hts hinX8 hown hK hP hM.1 eM rfl 8 (by decide) (hts (.fieldLink RX8 104 "StorageChargeModel" "fresh" "I") (by decide +kernel)) (fun _ h9 => h9) rfl dX8_isAgain_6 ?_
      refine lv_icmp_ge (tgt := 53) hx hb dX8_isAgain_9 (by decide) (fun c_9 => ?_) (fun c_9 => ?_)
      · have hge : fr = i := by
          have h8 := Nat.le_of_not_lt (fun h : i < fr => absurd c_9 (nI_ge h (by omega)))
          omega
        refine lv_iconst (v := 0) hx hb dX8_isAgain_53 (by decide) ?_
        exact W.zret (v := 0) hx hb hr (by first | rfl | decide | (simp [narrow]; done) | assumption) (fun t ht hW => ⟨0, rfl, Or.inr ⟨rfl, hge ▸ hno⟩, ht⟩) (fun q h => by cases h) dX8_isAgain_54
      · have hlt : i < fr := Nat.lt_of_not_le fun h => c_9 (nI_le h (by omega))
        refine lv_aload_n hx hb dX8_isAgain_12 rfl (lv_at hl 0 rfl) ?_
        refine pv_get (ci := 10) (C := RX8) (T := TX8) (N := 34) hx hb hts hinX8 hown hK hP hM.1 eM rfl 9 (by decide) (hts (.fieldLink RX8 25 "StorageChargeModel" "newLetter" "[I") (by decide +kernel)) (fun _ h9 => h9) rfl dX8_isAgain_13 ?_
        refine lv_iload hx hb dX8_isAgain_16 (lv_at hl 4 rfl) ?_
        refine pv_iald hx hb hK hP j9 0 a9 rfl (k := i) rfl (by omega) (by decide) dX8_isAgain_18 ?_
        refine lv_iload_n hx hb dX8_isAgain_19 rfl (lv_at hl 1 rfl) ?_
        refine lv_icmp_ne (tgt := 47) hx hb dX8_isAgain_20 (by decide) (fun c_20 => ?_) (fun c_20 => ?_)
        · refine lv_iinc (v := nI (i + 1)) (lv' := [(4, .int (nI (i + 1))), (0, .ref (ad 100)), (1, .int l0), (2, .int o), (3, .int w0)]) hx hb dX8_isAgain_47 hl (k := 4) rfl (nI_1 i) (by decide) rfl (fun ls hl => ?_)
          refine lv_goto (tgt := 3) hx hb dX8_isAgain_50 (by decide) ?_
          exact ih3 (i + 1) (by omega) (by omega) (by rintro ⟨k, hk, h1, h2, h3⟩; rcases Nat.lt_or_eq_of_le (Nat.le_of_lt_succ hk) with h | rfl; exact hno ⟨k, h, h1, h2, h3⟩; first | exact absurd h1 c_20 | exact absurd h2 c_31 | exact absurd h3 c_42) ls (lv_sub hl [1, 2, 3, 4, 0] rfl)
        · refine lv_aload_n hx hb dX8_isAgain_23 rfl (lv_at hl 0 rfl) ?_
          refine pv_get (ci := 10) (C := RX8) (T := TX8) (N := 34) hx hb hts hinX8 hown hK hP hM.1 eM rfl 10 (by decide) (hts (.fieldLink RX8 28 "StorageChargeModel" "newOwner" "[I") (by decide +kernel)) (fun _ h9 => h9) rfl dX8_isAgain_24 ?_
          refine lv_iload hx hb dX8_isAgain_27 (lv_at hl 4 rfl) ?_
          refine pv_iald hx hb hK hP j10 0 a10 rfl (k := i) rfl (by omega) (by decide) dX8_isAgain_29 ?_
          refine lv_iload_n hx hb dX8_isAgain_30 rfl (lv_at hl 2 rfl) ?_
          refine lv_icmp_ne (tgt := 47) hx hb dX8_isAgain_31 (by decide) (fun c_31 => ?_) (fun c_31 => ?_)
          · refine lv_iinc (v := nI (i + 1)) (lv' := [(4, .int (nI (i + 1))), (0, .ref (ad 100)), (1, .int l0), (2, .int o), (3, .int w0)]) hx hb dX8_isAgain_47 hl (k := 4) rfl (nI_1 i) (by decide) rfl (fun ls hl => ?_)
            refine lv_goto (tgt := 3) hx hb dX8_isAgain_50 (by decide) ?_
            exact ih3 (i + 1) (by omega) (by omega) (by rintro ⟨k, hk, h1, h2, h3⟩; rcases Nat.lt_or_eq_of_le (Nat.le_of_lt_succ hk) with h | rfl; exact hno ⟨k, h, h1, h2, h3⟩; first | exact absurd h1 c_20 | exact absurd h2 c_31 | exact absurd h3 c_42) ls (lv_sub hl [1, 2, 3, 4, 0] rfl)
          · refine lv_aload_n hx hb dX8_isAgain_34 rfl (lv_at hl 0 rfl) ?_
            refine pv_get (ci := 10) (C := RX8) (T := TX8) (N := 34) hx hb hts hinX8 hown hK hP hM.1 eM rfl 11 (by decide) (hts (.fieldLink RX8 31 "StorageChargeModel" "newWhat" "[I") (by decide +kernel)) (fun _ h9 => h9) rfl dX8_isAgain_35 ?_
            refine lv_iload hx hb dX8_isAgain_38 (lv_at hl 4 rfl) ?_
            refine pv_iald hx hb hK hP j11 0 a11 rfl (k := i) rfl (by omega) (by decide) dX8_isAgain_40 ?_
            refine lv_iload_n hx hb dX8_isAgain_41 rfl (lv_at hl 3 rfl) ?_
            refine lv_icmp_ne (tgt := 47) hx hb dX8_isAgain_42 (by decide) (fun c_42 => ?_) (fun c_42 => ?_)
            · refine lv_iinc (v := nI (i + 1)) (lv' := [(4, .int (nI (i + 1))), (0, .ref (ad 100)), (1, .int l0), (2, .int o), (3, .int w0)]) hx hb dX8_isAgain_47 hl (k := 4) rfl (nI_1 i) (by decide) rfl (fun ls hl => ?_)
              refine lv_goto (tgt := 3) hx hb dX8_isAgain_50 (by decide) ?_
              exact ih3 (i + 1) (by omega) (by omega) (by rintro ⟨k, hk, h1, h2, h3⟩; rcases Nat.lt_or_eq_of_le (Nat.le_of_lt_succ hk) with h | rfl; exact hno ⟨k, h, h1, h2, h3⟩; first | exact absurd h1 c_20 | exact absurd h2 c_31 | exact absurd h3 c_42) ls (lv_sub hl [1, 2, 3, 4, 0] rfl)
            · refine lv_iconst (v := 1) hx hb dX8_isAgain_45 (by decide) ?_
              exact W.zret (v := 1) hx hb hr (by first | rfl | decide | (simp [narrow]; done) | assumption) (fun t ht hW => ⟨1, rfl, Or.inl ⟨rfl, i, hlt, c_20, c_31, c_42⟩, ht⟩) (fun q h => by cases h) dX8_isAgain_46
  have hl := lv_entry ([.ref (ad 100), .int l0, .int o, .int w0]) (n := 5) (Nat.le_of_ble_eq_true rfl)
  rw [lg_entry_eq]
  generalize (lg_sl ([.ref (ad 100), .int l0, .int o, .int w0]) ++ List.replicate (5 - (lg_sl ([.ref (ad 100), .int l0, .int o, .int w0])).length) Slot.unset).toArray = ls at hl ⊢
  have hl : lv_has ls 5 [(0, .ref (ad 100)), (1, .int l0), (2, .int o), (3, .int w0)] := hl
  refine lv_iconst (v := 0) hx hb dX8_isAgain_0 (by decide) ?_
  refine lv_istore (lv' := [(4, .int 0), (0, .ref (ad 100)), (1, .int l0), (2, .int o), (3, .int w0)]) hx hb dX8_isAgain_1 hl (by decide) rfl (fun ls hl => ?_)
  exact loop3 (fr + 1) 0 (by omega) (by omega) (by rintro ⟨k, hk, -⟩; exact absurd hk (Nat.not_lt_zero k)) ls (lv_sub hl [1, 2, 3, 4, 0] rfl)

set_option maxHeartbeats 4000000 in
set_option maxRecDepth 100000 in
/-- charge -/
theorem c_X8_charge (l : Launch) (D : va_G) (y : Nat → ClassId) (Ls : List Nat) (ad : Nat → Nat) (G : Nat → va_E) (F : Nat → Int32) (A : Nat → Nat → Int32) (hM : ModelAt y Ls ad G F A) (nl : Nat) (h3 : F 3 = nI nl) (hnl : nl ≤ 60) (l0 o w0 : Int32) : Met l yX8_charge wsX8_charge ({ frames := 0, cells := 0, slots := 0, locals := 0 }) (va_Pc [.ref (ad 100), .int l0, .int o, .int w0] (Wd D y (wl Ls ad G))) (vp_Si (fun r => r = mCh (A 4) (A 5) (A 6) (A 7) l0 o w0 nl 0)) 0 0 (fun _ => False) := by
  refine Met.ofW (cc := cX8_charge) (maxL := 5) (ret := (some .int)) (by decide) rfl ?_
  intro p e s m args below meth c s₁ B hml hv
  obtain ⟨rfl, hP, hK, hN⟩ := hv
  have hx := B.exec
  have hb := B.bytes
  have hr := B.returns
  have hts := atoms_spec (ws := wsX8_charge) B.pre
  have hown : s.vm.findClass RX8 = some m.cls := findClass_of_methodNamed B.named
  have hlocks := B.notSynchronized
  have hinX8 : ∀ w ∈ wsX80, w ∈ wsX8_charge := by decide +kernel
  have eM : G 100 = .inr (10, [.int (F 0), .int (F 1), .ref (ad 103), .int (nI nl), .ref (ad 105), .ref (ad 106), .ref (ad 107), .ref (ad 108), .int (F 8), .ref (ad 110), .ref (ad 111), .ref (ad 112), .ref (ad 113), .int (F 13), .int (F 14), .ref (ad 116), .ref (ad 117), .ref (ad 118), .ref (ad 119), .ref (ad 120), .ref (ad 121), .int (F 21), .ref (ad 123), .ref (ad 124), .ref (ad 125), .ref (ad 126), .int (F 26), .ref (ad 128), .ref (ad 129), .ref (ad 130), .ref (ad 131), .ref (ad 132), .int (F 32), .ref (ad 134)]) := hM.2.1.trans (by rw [mfs, h3])
  obtain ⟨j4, a4⟩ : 105 ∈ Ls ∧ G 105 = .inl (y 0, 60, .inl (A 4)) := hM.2.2 4 (by decide)
  obtain ⟨j5, a5⟩ : 106 ∈ Ls ∧ G 106 = .inl (y 0, 60, .inl (A 5)) := hM.2.2 5 (by decide)
  obtain ⟨j6, a6⟩ : 107 ∈ Ls ∧ G 107 = .inl (y 0, 60, .inl (A 6)) := hM.2.2 6 (by decide)
  obtain ⟨j7, a7⟩ : 108 ∈ Ls ∧ G 108 = .inl (y 0, 60, .inl (A 7)) := hM.2.2 7 (by decide)
  have loop3 : ∀ (n : Nat) (i : Nat), i ≤ nl → nl < i + n → mCh (A 4) (A 5) (A 6) (A 7) l0 o w0 nl 0 = mCh (A 4) (A 5) (A 6) (A 7) l0 o w0 (nl - i) i → ∀ ls : Array Slot, lv_has ls 5 [(0, .ref (ad 100)), (1, .int l0), (2, .int o), (3, .int w0), (4, .int (nI i))] → W p l e (headSpec wsX8_charge ({ frames := 0, cells := 0, slots := 0, locals := 0 })).room s m ([.ref (ad 100), .int l0, .int o, .int w0] : List Value).toArray below meth c s.heap [] 0 0 (MQ below (vp_Si (fun r => r = mCh (A 4) (A 5) (A 6) (A 7) l0 o w0 nl 0)) ([.ref (ad 100), .int l0, .int o, .int w0] : List Value).toArray s 0 0 (fun _ => False)) (F0 m 3 ls []) := by
    intro n
    induction n with
    | zero =>
      intro i hi hn; exact absurd hn (by omega)
    | succ n ih3 =>
      intro i hi hn hno ls hl
      refine lv_iload hx hb dX8_charge_3 (lv_at hl 4 rfl) ?_
      refine lv_aload_n hx hb dX8_charge_5 rfl (lv_at hl 0 rfl) ?_
      refine pv_get (ci := 10) (C := RX8) (T := TX8) (N := 34) hx hb hts hinX8 hown hK hP hM.1 eM rfl 3 (by decide) (hts (.fieldLink RX8 124 "StorageChargeModel" "lines" "I") (by decide +kernel)) (fun _ h9 => h9) rfl dX8_charge_6 ?_
      refine lv_icmp_ge (tgt := 59) hx hb dX8_charge_9 (by decide) (fun c_9 => ?_) (fun c_9 => ?_)
      · have hge : nl - i = 0 := by
          have h8 := Nat.le_of_not_lt (fun h : i < nl => absurd c_9 (nI_ge h (by omega)))
          omega
        refine lv_iconst (v := (-1)) hx hb dX8_charge_59 (by decide) ?_
        exact W.iret (v := (-1)) hx hb hr (fun t ht hW => ⟨(-1), rfl, (by rw [hno, hge]; rfl), ht⟩) (fun q h => by cases h) dX8_charge_60
      · have hlt : i < nl := Nat.lt_of_not_le fun h => c_9 (nI_le h (by omega))
        obtain ⟨k9, hk9⟩ : ∃ k9, nl - i = k9 + 1 := ⟨nl - i - 1, by omega⟩
        rw [hk9, mCh] at hno
        refine lv_aload_n hx hb dX8_charge_12 rfl (lv_at hl 0 rfl) ?_
        refine pv_get (ci := 10) (C := RX8) (T := TX8) (N := 34) hx hb hts hinX8 hown hK hP hM.1 eM rfl 4 (by decide) (hts (.fieldLink RX8 13 "StorageChargeModel" "letter" "[I") (by decide +kernel)) (fun _ h9 => h9) rfl dX8_charge_13 ?_
        refine lv_iload hx hb dX8_charge_16 (lv_at hl 4 rfl) ?_
        refine pv_iald hx hb hK hP j4 0 a4 rfl (k := i) rfl (by omega) (by decide) dX8_charge_18 ?_
        refine lv_iload_n hx hb dX8_charge_19 rfl (lv_at hl 1 rfl) ?_
        refine lv_icmp_ne (tgt := 53) hx hb dX8_charge_20 (by decide) (fun c_20 => ?_) (fun c_20 => ?_)
        · refine lv_iinc (v := nI (i + 1)) (lv' := [(4, .int (nI (i + 1))), (0, .ref (ad 100)), (1, .int l0), (2, .int o), (3, .int w0)]) hx hb dX8_charge_53 hl (k := 4) rfl (nI_1 i) (by decide) rfl (fun ls hl => ?_)
          refine lv_goto (tgt := 3) hx hb dX8_charge_56 (by decide) ?_
          exact ih3 (i + 1) (by omega) (by omega) (by rw [hno, if_neg (by rintro ⟨h1, h2, h3⟩; first | exact absurd h1 c_20 | exact absurd h2 c_31 | exact absurd h3 c_42), show nl - (i + 1) = k9 by omega]) ls (lv_sub hl [1, 2, 3, 4, 0] rfl)
        · refine lv_aload_n hx hb dX8_charge_23 rfl (lv_at hl 0 rfl) ?_
          refine pv_get (ci := 10) (C := RX8) (T := TX8) (N := 34) hx hb hts hinX8 hown hK hP hM.1 eM rfl 5 (by decide) (hts (.fieldLink RX8 16 "StorageChargeModel" "lineOwner" "[I") (by decide +kernel)) (fun _ h9 => h9) rfl dX8_charge_24 ?_
          refine lv_iload hx hb dX8_charge_27 (lv_at hl 4 rfl) ?_
          refine pv_iald hx hb hK hP j5 0 a5 rfl (k := i) rfl (by omega) (by decide) dX8_charge_29 ?_
          refine lv_iload_n hx hb dX8_charge_30 rfl (lv_at hl 2 rfl) ?_
          refine lv_icmp_ne (tgt := 53) hx hb dX8_charge_31 (by decide) (fun c_31 => ?_) (fun c_31 => ?_)
          · refine lv_iinc (v := nI (i + 1)) (lv' := [(4, .int (nI (i + 1))), (0, .ref (ad 100)), (1, .int l0), (2, .int o), (3, .int w0)]) hx hb dX8_charge_53 hl (k := 4) rfl (nI_1 i) (by decide) rfl (fun ls hl => ?_)
            refine lv_goto (tgt := 3) hx hb dX8_charge_56 (by decide) ?_
            exact ih3 (i + 1) (by omega) (by omega) (by rw [hno, if_neg (by rintro ⟨h1, h2, h3⟩; first | exact absurd h1 c_20 | exact absurd h2 c_31 | exact absurd h3 c_42), show nl - (i + 1) = k9 by omega]) ls (lv_sub hl [1, 2, 3, 4, 0] rfl)
          · refine lv_aload_n hx hb dX8_charge_34 rfl (lv_at hl 0 rfl) ?_
            refine pv_get (ci := 10) (C := RX8) (T := TX8) (N := 34) hx hb hts hinX8 hown hK hP hM.1 eM rfl 6 (by decide) (hts (.fieldLink RX8 19 "StorageChargeModel" "what" "[I") (by decide +kernel)) (fun _ h9 => h9) rfl dX8_charge_35 ?_
            refine lv_iload hx hb dX8_charge_38 (lv_at hl 4 rfl) ?_
            refine pv_iald hx hb hK hP j6 0 a6 rfl (k := i) rfl (by omega) (by decide) dX8_charge_40 ?_
            refine lv_iload_n hx hb dX8_charge_41 rfl (lv_at hl 3 rfl) ?_
            refine lv_icmp_ne (tgt := 53) hx hb dX8_charge_42 (by decide) (fun c_42 => ?_) (fun c_42 => ?_)
            · refine lv_iinc (v := nI (i + 1)) (lv' := [(4, .int (nI (i + 1))), (0, .ref (ad 100)), (1, .int l0), (2, .int o), (3, .int w0)]) hx hb dX8_charge_53 hl (k := 4) rfl (nI_1 i) (by decide) rfl (fun ls hl => ?_)
              refine lv_goto (tgt := 3) hx hb dX8_charge_56 (by decide) ?_
              exact ih3 (i + 1) (by omega) (by omega) (by rw [hno, if_neg (by rintro ⟨h1, h2, h3⟩; first | exact absurd h1 c_20 | exact absurd h2 c_31 | exact absurd h3 c_42), show nl - (i + 1) = k9 by omega]) ls (lv_sub hl [1, 2, 3, 4, 0] rfl)
            · refine lv_aload_n hx hb dX8_charge_45 rfl (lv_at hl 0 rfl) ?_
              refine pv_get (ci := 10) (C := RX8) (T := TX8) (N := 34) hx hb hts hinX8 hown hK hP hM.1 eM rfl 7 (by decide) (hts (.fieldLink RX8 22 "StorageChargeModel" "much" "[I") (by decide +kernel)) (fun _ h9 => h9) rfl dX8_charge_46 ?_
              refine lv_iload hx hb dX8_charge_49 (lv_at hl 4 rfl) ?_
              refine pv_iald hx hb hK hP j7 0 a7 rfl (k := i) rfl (by omega) (by decide) dX8_charge_51 ?_
              exact W.iret (v := (A 7) i) hx hb hr (fun t ht hW => ⟨(A 7) i, rfl, (by rw [hno, if_pos ⟨c_20, c_31, c_42⟩]), ht⟩) (fun q h => by cases h) dX8_charge_52
  have hl := lv_entry ([.ref (ad 100), .int l0, .int o, .int w0]) (n := 5) (Nat.le_of_ble_eq_true rfl)
  rw [lg_entry_eq]
  generalize (lg_sl ([.ref (ad 100), .int l0, .int o, .int w0]) ++ List.replicate (5 - (lg_sl ([.ref (ad 100), .int l0, .int o, .int w0])).length) Slot.unset).toArray = ls at hl ⊢
  have hl : lv_has ls 5 [(0, .ref (ad 100)), (1, .int l0), (2, .int o), (3, .int w0)] := hl
  refine lv_iconst (v := 0) hx hb dX8_charge_0 (by decide) ?_
  refine lv_istore (lv' := [(4, .int 0), (0, .ref (ad 100)), (1, .int l0), (2, .int o), (3, .int w0)]) hx hb dX8_charge_1 hl (by decide) rfl (fun ls hl => ?_)
  exact loop3 (nl + 1) 0 (by omega) (by omega) rfl ls (lv_sub hl [1, 2, 3, 4, 0] rfl)

set_option maxHeartbeats 4000000 in
set_option maxRecDepth 100000 in
/-- cents -/
theorem c_X8_cents (l : Launch) (D : va_G) (y : Nat → ClassId) (Ls : List Nat) (ad : Nat → Nat) (G : Nat → va_E) (F : Nat → Int32) (A : Nat → Nat → Int32) (hM : ModelAt y Ls ad G F A) (nl : Nat) (h3 : F 3 = nI nl) (hnl : nl ≤ 60) (l0 o w0 : Int32) : Met l yX8_cents wsX8_cents ({ frames := 1, cells := 0, slots := 0, locals := 24 }) (va_Pc [.ref (ad 100), .int l0, .int o, .int w0] (Wd D y (wl Ls ad G))) (vp_Si (fun r => r = mCe (A 4) (A 5) (A 6) (A 7) l0 o w0 nl)) 0 0 (fun _ => False) := by
  refine Met.ofW (cc := cX8_cents) (maxL := 5) (ret := (some .int)) (by decide) rfl ?_
  intro p e s m args below meth c s₁ B hml hv
  obtain ⟨rfl, hP, hK, hN⟩ := hv
  have hx := B.exec
  have hb := B.bytes
  have hr := B.returns
  have hts := atoms_spec (ws := wsX8_cents) B.pre
  have hown : s.vm.findClass RX8 = some m.cls := findClass_of_methodNamed B.named
  have hlocks := B.notSynchronized
  have eM : G 100 = .inr (10, [.int (F 0), .int (F 1), .ref (ad 103), .int (F 3), .ref (ad 105), .ref (ad 106), .ref (ad 107), .ref (ad 108), .int (F 8), .ref (ad 110), .ref (ad 111), .ref (ad 112), .ref (ad 113), .int (F 13), .int (F 14), .ref (ad 116), .ref (ad 117), .ref (ad 118), .ref (ad 119), .ref (ad 120), .ref (ad 121), .int (F 21), .ref (ad 123), .ref (ad 124), .ref (ad 125), .ref (ad 126), .int (F 26), .ref (ad 128), .ref (ad 129), .ref (ad 130), .ref (ad 131), .ref (ad 132), .int (F 32), .ref (ad 134)]) := hM.2.1
  have hl := lv_entry ([.ref (ad 100), .int l0, .int o, .int w0]) (n := 5) (Nat.le_of_ble_eq_true rfl)
  rw [lg_entry_eq]
  generalize (lg_sl ([.ref (ad 100), .int l0, .int o, .int w0]) ++ List.replicate (5 - (lg_sl ([.ref (ad 100), .int l0, .int o, .int w0])).length) Slot.unset).toArray = ls at hl ⊢
  have hl : lv_has ls 5 [(0, .ref (ad 100)), (1, .int l0), (2, .int o), (3, .int w0)] := hl
  refine lv_aload_n hx hb dX8_cents_0 rfl (lv_at hl 0 rfl) ?_
  refine lv_iload_n hx hb dX8_cents_1 rfl (lv_at hl 1 rfl) ?_
  refine lv_iload_n hx hb dX8_cents_2 rfl (lv_at hl 2 rfl) ?_
  refine lv_iload_n hx hb dX8_cents_3 rfl (lv_at hl 3 rfl) ?_
  refine vp_callSi (va_Run.run (va_runV (As := [.int l0, .int o, .int w0]) (rest := []) ⟨hx, hb, hml, hown, hts⟩ (c_X8_charge l D y Ls ad G F A hM nl h3 hnl l0 o w0) (cwV 3 hts gX8_cents_X8_charge rfl rfl rfl (by decide +kernel) ⟨Nat.le_of_ble_eq_true rfl, Nat.le_of_ble_eq_true rfl⟩) ⟨Wd_blind, Wd_recv hK hP (ci := 10) rfl hM.1 eM, Wd_at hP hK hN⟩ rfl rfl hl.1 rfl (lv_room (Nat.le_of_ble_eq_true rfl)) dX8_cents_4 ⟨Nat.zero_le _, Nat.zero_le _⟩)) (fun r_4 hr_4 => ?_)
  refine lv_istore (lv' := [(4, .int r_4), (0, .ref (ad 100)), (1, .int l0), (2, .int o), (3, .int w0)]) hx hb dX8_cents_7 hl (by decide) rfl (fun ls hl => ?_)
  refine lv_iload hx hb dX8_cents_9 (lv_at hl 0 rfl) ?_
  refine lv_iconst (v := (-1)) hx hb dX8_cents_11 (by decide) ?_
  refine lv_icmp_ne (tgt := 19) hx hb dX8_cents_12 (by decide) (fun c_12 => ?_) (fun c_12 => ?_)
  · refine lv_iload hx hb dX8_cents_19 (lv_at hl 0 rfl) ?_
    exact W.iret (v := r_4) hx hb hr (fun t ht hW => ⟨r_4, rfl, (by rw [mCe, if_neg (by rw [← hr_4]; exact c_12), hr_4]), ht⟩) (fun q h => by cases h) dX8_cents_21
  · refine lv_iconst (v := 0) hx hb dX8_cents_15 (by decide) ?_
    refine lv_goto (tgt := 21) hx hb dX8_cents_16 (by decide) ?_
    exact W.iret (v := 0) hx hb hr (fun t ht hW => ⟨0, rfl, (by rw [mCe, if_pos (by rw [← hr_4]; exact c_12)]), ht⟩) (fun q h => by cases h) dX8_cents_21

set_option maxHeartbeats 4000000 in
set_option maxRecDepth 100000 in
/-- isUnit -/
theorem c_X8_isUnit (l : Launch) (D : va_G) (y : Nat → ClassId) (Ls : List Nat) (ad : Nat → Nat) (G : Nat → va_E) (F : Nat → Int32) (A : Nat → Nat → Int32) (hM : ModelAt y Ls ad G F A) (nu : Nat) (h14 : F 14 = nI nu) (a : Int32) : Met l yX8_isUnit wsX8_isUnit ({ frames := 1, cells := 0, slots := 0, locals := 22 }) (va_Pc [.ref (ad 100), .int a] (Wd D y (wl Ls ad G))) (vp_Si (fun r => r = wI a 0 (nI nu - 1))) 0 0 (fun _ => False) := by
  refine Met.ofW (cc := cX8_isUnit) (maxL := 2) (ret := (some .boolean)) (by decide) rfl ?_
  intro p e s m args below meth c s₁ B hml hv
  obtain ⟨rfl, hP, hK, hN⟩ := hv
  have hx := B.exec
  have hb := B.bytes
  have hr := B.returns
  have hts := atoms_spec (ws := wsX8_isUnit) B.pre
  have hown : s.vm.findClass RX8 = some m.cls := findClass_of_methodNamed B.named
  have hlocks := B.notSynchronized
  have hinX8 : ∀ w ∈ wsX80, w ∈ wsX8_isUnit := by decide +kernel
  have eM : G 100 = .inr (10, [.int (F 0), .int (F 1), .ref (ad 103), .int (F 3), .ref (ad 105), .ref (ad 106), .ref (ad 107), .ref (ad 108), .int (F 8), .ref (ad 110), .ref (ad 111), .ref (ad 112), .ref (ad 113), .int (F 13), .int (nI nu), .ref (ad 116), .ref (ad 117), .ref (ad 118), .ref (ad 119), .ref (ad 120), .ref (ad 121), .int (F 21), .ref (ad 123), .ref (ad 124), .ref (ad 125), .ref (ad 126), .int (F 26), .ref (ad 128), .ref (ad 129), .ref (ad 130), .ref (ad 131), .ref (ad 132), .int (F 32), .ref (ad 134)]) := hM.2.1.trans (by rw [mfs, h14])
  have hl := lv_entry ([.ref (ad 100), .int a]) (n := 2) (Nat.le_of_ble_eq_true rfl)
  rw [lg_entry_eq]
  generalize (lg_sl ([.ref (ad 100), .int a]) ++ List.replicate (2 - (lg_sl ([.ref (ad 100), .int a])).length) Slot.unset).toArray = ls at hl ⊢
  have hl : lv_has ls 2 [(0, .ref (ad 100)), (1, .int a)] := hl
  refine lv_iload_n hx hb dX8_isUnit_0 rfl (lv_at hl 1 rfl) ?_
  refine lv_iconst (v := 0) hx hb dX8_isUnit_1 (by decide) ?_
  refine lv_aload_n hx hb dX8_isUnit_2 rfl (lv_at hl 0 rfl) ?_
  refine pv_get (ci := 10) (C := RX8) (T := TX8) (N := 34) hx hb hts hinX8 hown hK hP hM.1 eM rfl 14 (by decide) (hts (.fieldLink RX8 134 "StorageChargeModel" "units" "I") (by decide +kernel)) (fun _ h9 => h9) rfl dX8_isUnit_3 ?_
  refine lv_iconst (v := 1) hx hb dX8_isUnit_6 (by decide) ?_
  refine lv_isub hx hb dX8_isUnit_7 ?_
  refine vp_callSi (va_Run.run (va_runS (As := [.int a, .int 0, .int ((nI nu) - 1)]) (rest := []) ⟨hx, hb, hml, hown, hts⟩ (c_X8_in l a 0 (nI nu - 1)) (va_cwS 3 hts gX8_isUnit_X8_in rfl rfl rfl (by decide +kernel) ⟨Nat.le_of_ble_eq_true rfl, Nat.le_of_ble_eq_true rfl⟩) ⟨fun _ _ _ _ q => q, fun U hU hW => ⟨rfl, trivial⟩⟩ rfl rfl hl.1 rfl (lv_room (Nat.le_of_ble_eq_true rfl)) dX8_isUnit_8 ⟨Nat.zero_le _, Nat.zero_le _⟩)) (fun r_8 hr_8 => ?_)
  have hn9 : narrow .boolean (.int r_8) = .int r_8 := by rw [hr_8, wI]; split <;> rfl
  exact W.zret (v := r_8) hx hb hr (by first | rfl | decide | (simp [narrow]; done) | assumption) (fun t ht hW => ⟨r_8, rfl, hr_8, ht⟩) (fun q h => by cases h) dX8_isUnit_11

set_option maxHeartbeats 4000000 in
set_option maxRecDepth 100000 in
/-- isLate -/
theorem c_X8_isLate (l : Launch) (D : va_G) (y : Nat → ClassId) (Ls : List Nat) (ad : Nat → Nat) (G : Nat → va_E) (F : Nat → Int32) (A : Nat → Nat → Int32) (hM : ModelAt y Ls ad G F A) (u t0 : Nat) (hu : u < 24) (ht0 : A 18 u = nI t0) (h1 : 1 ≤ t0) (h9 : t0 ≤ 9) (d : Int32) : Met l yX8_isLate wsX8_isLate ({ frames := 0, cells := 0, slots := 0, locals := 0 }) (va_Pc [.ref (ad 100), .int (nI u), .int d] (Wd D y (wl Ls ad G))) (vp_Si (fun r => (r = 1 ∧ (¬ A 17 u = 100000 ∨ d < A 19 (9 * u + t0 - 1))) ∨ (r = 0 ∧ A 17 u = 100000 ∧ A 19 (9 * u + t0 - 1) ≤ d))) 0 0 (fun _ => False) := by
  refine Met.ofW (cc := cX8_isLate) (maxL := 3) (ret := (some .boolean)) (by decide) rfl ?_
  intro p e s m args below meth c s₁ B hml hv
  obtain ⟨rfl, hP, hK, hN⟩ := hv
  have hx := B.exec
  have hb := B.bytes
  have hr := B.returns
  have hts := atoms_spec (ws := wsX8_isLate) B.pre
  have hown : s.vm.findClass RX8 = some m.cls := findClass_of_methodNamed B.named
  have hlocks := B.notSynchronized
  have hinX8 : ∀ w ∈ wsX80, w ∈ wsX8_isLate := by decide +kernel
  have eM : G 100 = .inr (10, [.int (F 0), .int (F 1), .ref (ad 103), .int (F 3), .ref (ad 105), .ref (ad 106), .ref (ad 107), .ref (ad 108), .int (F 8), .ref (ad 110), .ref (ad 111), .ref (ad 112), .ref (ad 113), .int (F 13), .int (F 14), .ref (ad 116), .ref (ad 117), .ref (ad 118), .ref (ad 119), .ref (ad 120), .ref (ad 121), .int (F 21), .ref (ad 123), .ref (ad 124), .ref (ad 125), .ref (ad 126), .int (F 26), .ref (ad 128), .ref (ad 129), .ref (ad 130), .ref (ad 131), .ref (ad 132), .int (F 32), .ref (ad 134)]) := hM.2.1
  obtain ⟨j17, a17⟩ : 118 ∈ Ls ∧ G 118 = .inl (y 0, 24, .inl (A 17)) := hM.2.2 17 (by decide)
  obtain ⟨j18, a18⟩ : 119 ∈ Ls ∧ G 119 = .inl (y 0, 24, .inl (A 18)) := hM.2.2 18 (by decide)
  obtain ⟨j19, a19⟩ : 120 ∈ Ls ∧ G 120 = .inl (y 0, 216, .inl (A 19)) := hM.2.2 19 (by decide)
  have hl := lv_entry ([.ref (ad 100), .int (nI u), .int d]) (n := 3) (Nat.le_of_ble_eq_true rfl)
  rw [lg_entry_eq]
  generalize (lg_sl ([.ref (ad 100), .int (nI u), .int d]) ++ List.replicate (3 - (lg_sl ([.ref (ad 100), .int (nI u), .int d])).length) Slot.unset).toArray = ls at hl ⊢
  have hl : lv_has ls 3 [(0, .ref (ad 100)), (1, .int (nI u)), (2, .int d)] := hl
  refine lv_aload_n hx hb dX8_isLate_0 rfl (lv_at hl 0 rfl) ?_
  refine pv_get (ci := 10) (C := RX8) (T := TX8) (N := 34) hx hb hts hinX8 hown hK hP hM.1 eM rfl 17 (by decide) (hts (.fieldLink RX8 43 "StorageChargeModel" "to" "[I") (by decide +kernel)) (fun _ h9 => h9) rfl dX8_isLate_1 ?_
  refine lv_iload_n hx hb dX8_isLate_4 rfl (lv_at hl 1 rfl) ?_
  refine pv_iald hx hb hK hP j17 0 a17 rfl (k := u) rfl (by omega) (by decide) dX8_isLate_5 ?_
  refine lv_ldc (v := 100000) hx hb hown (hts (.constant RX8 137 (100000)) (by decide +kernel)) dX8_isLate_6 ?_
  refine lv_icmp_ne (tgt := 33) hx hb dX8_isLate_8 (by decide) (fun c_8 => ?_) (fun c_8 => ?_)
  · refine lv_iconst (v := 1) hx hb dX8_isLate_33 (by decide) ?_
    refine lv_goto (tgt := 38) hx hb dX8_isLate_34 (by decide) ?_
    exact W.zret (v := 1) hx hb hr (by first | rfl | decide | (simp [narrow]; done) | assumption) (fun t ht hW => ⟨1, rfl, Or.inl ⟨rfl, by first | exact Or.inl c_8 | exact Or.inr (Int32.not_le.mp c_30)⟩, ht⟩) (fun q h => by cases h) dX8_isLate_38
  · refine lv_iload_n hx hb dX8_isLate_11 rfl (lv_at hl 2 rfl) ?_
    refine lv_aload_n hx hb dX8_isLate_12 rfl (lv_at hl 0 rfl) ?_
    refine pv_get (ci := 10) (C := RX8) (T := TX8) (N := 34) hx hb hts hinX8 hown hK hP hM.1 eM rfl 19 (by decide) (hts (.fieldLink RX8 49 "StorageChargeModel" "toldDay" "[I") (by decide +kernel)) (fun _ h9 => h9) rfl dX8_isLate_13 ?_
    refine lv_bipush (v := 9) hx hb dX8_isLate_16 (by decide) ?_
    refine lv_iload_n hx hb dX8_isLate_18 rfl (lv_at hl 1 rfl) ?_
    refine lv_imul hx hb dX8_isLate_19 ?_
    refine lv_aload_n hx hb dX8_isLate_20 rfl (lv_at hl 0 rfl) ?_
    refine pv_get (ci := 10) (C := RX8) (T := TX8) (N := 34) hx hb hts hinX8 hown hK hP hM.1 eM rfl 18 (by decide) (hts (.fieldLink RX8 46 "StorageChargeModel" "told" "[I") (by decide +kernel)) (fun _ h9 => h9) rfl dX8_isLate_21 ?_
    refine lv_iload_n hx hb dX8_isLate_24 rfl (lv_at hl 1 rfl) ?_
    refine pv_iald hx hb hK hP j18 0 a18 rfl (k := u) rfl (by omega) (by decide) dX8_isLate_25 ?_
    refine lv_iadd hx hb dX8_isLate_26 ?_
    refine lv_iconst (v := 1) hx hb dX8_isLate_27 (by decide) ?_
    refine lv_isub hx hb dX8_isLate_28 ?_
    refine lv_topi (fun z9 ez9 => ?_)
    obtain rfl : z9 = nI (9 * u + t0 - 1) := ez9.trans (by rw [ht0, nI9, nI_p1 (by omega)])
    refine pv_iald hx hb hK hP j19 0 a19 rfl (k := 9 * u + t0 - 1) rfl (by omega) (by decide) dX8_isLate_29 ?_
    refine lv_icmp_ge (tgt := 37) hx hb dX8_isLate_30 (by decide) (fun c_30 => ?_) (fun c_30 => ?_)
    · refine lv_iconst (v := 0) hx hb dX8_isLate_37 (by decide) ?_
      exact W.zret (v := 0) hx hb hr (by first | rfl | decide | (simp [narrow]; done) | assumption) (fun t ht hW => ⟨0, rfl, Or.inr ⟨rfl, c_8, c_30⟩, ht⟩) (fun q h => by cases h) dX8_isLate_38
    · refine lv_iconst (v := 1) hx hb dX8_isLate_33 (by decide) ?_
      refine lv_goto (tgt := 38) hx hb dX8_isLate_34 (by decide) ?_
      exact W.zret (v := 1) hx hb hr (by first | rfl | decide | (simp [narrow]; done) | assumption) (fun t ht hW => ⟨1, rfl, Or.inl ⟨rfl, by first | exact Or.inl c_8 | exact Or.inr (Int32.not_le.mp c_30)⟩, ht⟩) (fun q h => by cases h) dX8_isLate_38

set_option maxHeartbeats 4000000 in
set_option maxRecDepth 100000 in
/-- kindOn -/
theorem c_X8_kindOn (l : Launch) (D : va_G) (y : Nat → ClassId) (Ls : List Nat) (ad : Nat → Nat) (G : Nat → va_E) (F : Nat → Int32) (A : Nat → Nat → Int32) (hM : ModelAt y Ls ad G F A) (u t0 : Nat) (hu : u < 24) (ht0 : A 18 u = nI t0) (h9 : t0 ≤ 9) (d : Int32) : Met l yX8_kindOn wsX8_kindOn ({ frames := 0, cells := 0, slots := 0, locals := 0 }) (va_Pc [.ref (ad 100), .int (nI u), .int d] (Wd D y (wl Ls ad G))) (vp_Si (fun r => r = mK (A 19) (A 20) (9 * u) d t0)) 0 0 (fun _ => False) := by
  refine Met.ofW (cc := cX8_kindOn) (maxL := 5) (ret := (some .int)) (by decide) rfl ?_
  intro p e s m args below meth c s₁ B hml hv
  obtain ⟨rfl, hP, hK, hN⟩ := hv
  have hx := B.exec
  have hb := B.bytes
  have hr := B.returns
  have hts := atoms_spec (ws := wsX8_kindOn) B.pre
  have hown : s.vm.findClass RX8 = some m.cls := findClass_of_methodNamed B.named
  have hlocks := B.notSynchronized
  have hinX8 : ∀ w ∈ wsX80, w ∈ wsX8_kindOn := by decide +kernel
  have eM : G 100 = .inr (10, [.int (F 0), .int (F 1), .ref (ad 103), .int (F 3), .ref (ad 105), .ref (ad 106), .ref (ad 107), .ref (ad 108), .int (F 8), .ref (ad 110), .ref (ad 111), .ref (ad 112), .ref (ad 113), .int (F 13), .int (F 14), .ref (ad 116), .ref (ad 117), .ref (ad 118), .ref (ad 119), .ref (ad 120), .ref (ad 121), .int (F 21), .ref (ad 123), .ref (ad 124), .ref (ad 125), .ref (ad 126), .int (F 26), .ref (ad 128), .ref (ad 129), .ref (ad 130), .ref (ad 131), .ref (ad 132), .int (F 32), .ref (ad 134)]) := hM.2.1
  obtain ⟨j18, a18⟩ : 119 ∈ Ls ∧ G 119 = .inl (y 0, 24, .inl (A 18)) := hM.2.2 18 (by decide)
  obtain ⟨j19, a19⟩ : 120 ∈ Ls ∧ G 120 = .inl (y 0, 216, .inl (A 19)) := hM.2.2 19 (by decide)
  obtain ⟨j20, a20⟩ : 121 ∈ Ls ∧ G 121 = .inl (y 0, 216, .inl (A 20)) := hM.2.2 20 (by decide)
  have loop5 : ∀ (n : Nat) (i : Nat) (k : Int32), i ≤ t0 → t0 < i + n → k = mK (A 19) (A 20) (9 * u) d i → ∀ ls : Array Slot, lv_has ls 5 [(0, .ref (ad 100)), (1, .int (nI u)), (2, .int d), (3, .int k), (4, .int (nI i))] → W p l e (headSpec wsX8_kindOn ({ frames := 0, cells := 0, slots := 0, locals := 0 })).room s m ([.ref (ad 100), .int (nI u), .int d] : List Value).toArray below meth c s.heap [] 0 0 (MQ below (vp_Si (fun r => r = mK (A 19) (A 20) (9 * u) d t0)) ([.ref (ad 100), .int (nI u), .int d] : List Value).toArray s 0 0 (fun _ => False)) (F0 m 5 ls []) := by
    intro n
    induction n with
    | zero =>
      intro i k hi hn; exact absurd hn (by omega)
    | succ n ih5 =>
      intro i k hi hn ek ls hl
      refine lv_iload hx hb dX8_kindOn_5 (lv_at hl 4 rfl) ?_
      refine lv_aload_n hx hb dX8_kindOn_7 rfl (lv_at hl 0 rfl) ?_
      refine pv_get (ci := 10) (C := RX8) (T := TX8) (N := 34) hx hb hts hinX8 hown hK hP hM.1 eM rfl 18 (by decide) (hts (.fieldLink RX8 46 "StorageChargeModel" "told" "[I") (by decide +kernel)) (fun _ h9 => h9) rfl dX8_kindOn_8 ?_
      refine lv_iload_n hx hb dX8_kindOn_11 rfl (lv_at hl 1 rfl) ?_
      refine pv_iald hx hb hK hP j18 0 a18 rfl (k := u) rfl (by omega) (by decide) dX8_kindOn_12 ?_
      refine lv_icmp_ge (tgt := 99) hx hb dX8_kindOn_13 (by decide) (fun c_13 => ?_) (fun c_13 => ?_)
      · have hge : t0 = i := by
          have h8 := Nat.le_of_not_lt (fun h : i < t0 => absurd (by rw [ht0] at c_13; exact c_13) (nI_ge h (by omega)))
          omega
        refine lv_iload_n hx hb dX8_kindOn_99 rfl (lv_at hl 3 rfl) ?_
        exact W.iret (v := k) hx hb hr (fun t ht hW => ⟨k, rfl, (by rw [ek, hge]), ht⟩) (fun q h => by cases h) dX8_kindOn_100
      · have hlt : i < t0 := Nat.lt_of_not_le fun h => c_13 (by rw [ht0]; exact nI_le h (by omega))
        refine lv_aload_n hx hb dX8_kindOn_16 rfl (lv_at hl 0 rfl) ?_
        refine pv_get (ci := 10) (C := RX8) (T := TX8) (N := 34) hx hb hts hinX8 hown hK hP hM.1 eM rfl 19 (by decide) (hts (.fieldLink RX8 49 "StorageChargeModel" "toldDay" "[I") (by decide +kernel)) (fun _ h9 => h9) rfl dX8_kindOn_17 ?_
        refine lv_bipush (v := 9) hx hb dX8_kindOn_20 (by decide) ?_
        refine lv_iload_n hx hb dX8_kindOn_22 rfl (lv_at hl 1 rfl) ?_
        refine lv_imul hx hb dX8_kindOn_23 ?_
        refine lv_iload hx hb dX8_kindOn_24 (lv_at hl 4 rfl) ?_
        refine lv_iadd hx hb dX8_kindOn_26 ?_
        refine lv_topi (fun z9 ez9 => ?_)
        obtain rfl : z9 = nI (9 * u + i) := ez9.trans (nI9 u i)
        refine pv_iald hx hb hK hP j19 0 a19 rfl (k := 9 * u + i) rfl (by omega) (by decide) dX8_kindOn_27 ?_
        refine lv_iload_n hx hb dX8_kindOn_28 rfl (lv_at hl 2 rfl) ?_
        refine lv_icmp_ge (tgt := 48) hx hb dX8_kindOn_29 (by decide) (fun c_29 => ?_) (fun c_29 => ?_)
        · refine lv_aload_n hx hb dX8_kindOn_48 rfl (lv_at hl 0 rfl) ?_
          refine pv_get (ci := 10) (C := RX8) (T := TX8) (N := 34) hx hb hts hinX8 hown hK hP hM.1 eM rfl 19 (by decide) (hts (.fieldLink RX8 49 "StorageChargeModel" "toldDay" "[I") (by decide +kernel)) (fun _ h9 => h9) rfl dX8_kindOn_49 ?_
          refine lv_bipush (v := 9) hx hb dX8_kindOn_52 (by decide) ?_
          refine lv_iload_n hx hb dX8_kindOn_54 rfl (lv_at hl 1 rfl) ?_
          refine lv_imul hx hb dX8_kindOn_55 ?_
          refine lv_iload hx hb dX8_kindOn_56 (lv_at hl 4 rfl) ?_
          refine lv_iadd hx hb dX8_kindOn_58 ?_
          refine lv_topi (fun z9 ez9 => ?_)
          obtain rfl : z9 = nI (9 * u + i) := ez9.trans (nI9 u i)
          refine pv_iald hx hb hK hP j19 0 a19 rfl (k := 9 * u + i) rfl (by omega) (by decide) dX8_kindOn_59 ?_
          refine lv_iload_n hx hb dX8_kindOn_60 rfl (lv_at hl 2 rfl) ?_
          refine lv_icmp_ne (tgt := 93) hx hb dX8_kindOn_61 (by decide) (fun c_61 => ?_) (fun c_61 => ?_)
          · refine lv_iinc (v := nI (i + 1)) (lv' := [(4, .int (nI (i + 1))), (0, .ref (ad 100)), (1, .int (nI u)), (2, .int d), (3, .int k)]) hx hb dX8_kindOn_93 hl (k := 4) rfl (nI_1 i) (by decide) rfl (fun ls hl => ?_)
            refine lv_goto (tgt := 5) hx hb dX8_kindOn_96 (by decide) ?_
            exact ih5 (i + 1) (k) (by omega) (by omega) (by first | (rw [mK, if_pos (Int32.not_le.mp c_29)]; exact ex_44) | (rw [mK, if_neg (Int32.not_lt.mpr c_29), if_pos ⟨c_61, by rw [← ek]; exact Int32.not_le.mp c_77⟩]; exact ex_92) | rw [mK, if_neg (Int32.not_lt.mpr c_29), if_neg (fun h => absurd h.2 (by rw [← ek]; exact Int32.not_lt.mpr c_77)), ek] | rw [mK, if_neg (Int32.not_lt.mpr c_29), if_neg (fun h => absurd h.1 c_61), ek]) ls (lv_sub hl [1, 2, 3, 4, 0] rfl)
          · refine lv_aload_n hx hb dX8_kindOn_64 rfl (lv_at hl 0 rfl) ?_
            refine pv_get (ci := 10) (C := RX8) (T := TX8) (N := 34) hx hb hts hinX8 hown hK hP hM.1 eM rfl 20 (by decide) (hts (.fieldLink RX8 52 "StorageChargeModel" "toldKind" "[I") (by decide +kernel)) (fun _ h9 => h9) rfl dX8_kindOn_65 ?_
            refine lv_bipush (v := 9) hx hb dX8_kindOn_68 (by decide) ?_
            refine lv_iload_n hx hb dX8_kindOn_70 rfl (lv_at hl 1 rfl) ?_
            refine lv_imul hx hb dX8_kindOn_71 ?_
            refine lv_iload hx hb dX8_kindOn_72 (lv_at hl 4 rfl) ?_
            refine lv_iadd hx hb dX8_kindOn_74 ?_
            refine lv_topi (fun z9 ez9 => ?_)
            obtain rfl : z9 = nI (9 * u + i) := ez9.trans (nI9 u i)
            refine pv_iald hx hb hK hP j20 0 a20 rfl (k := 9 * u + i) rfl (by omega) (by decide) dX8_kindOn_75 ?_
            refine lv_iload_n hx hb dX8_kindOn_76 rfl (lv_at hl 3 rfl) ?_
            refine lv_icmp_le (tgt := 93) hx hb dX8_kindOn_77 (by decide) (fun c_77 => ?_) (fun c_77 => ?_)
            · refine lv_iinc (v := nI (i + 1)) (lv' := [(4, .int (nI (i + 1))), (0, .ref (ad 100)), (1, .int (nI u)), (2, .int d), (3, .int k)]) hx hb dX8_kindOn_93 hl (k := 4) rfl (nI_1 i) (by decide) rfl (fun ls hl => ?_)
              refine lv_goto (tgt := 5) hx hb dX8_kindOn_96 (by decide) ?_
              exact ih5 (i + 1) (k) (by omega) (by omega) (by first | (rw [mK, if_pos (Int32.not_le.mp c_29)]; exact ex_44) | (rw [mK, if_neg (Int32.not_lt.mpr c_29), if_pos ⟨c_61, by rw [← ek]; exact Int32.not_le.mp c_77⟩]; exact ex_92) | rw [mK, if_neg (Int32.not_lt.mpr c_29), if_neg (fun h => absurd h.2 (by rw [← ek]; exact Int32.not_lt.mpr c_77)), ek] | rw [mK, if_neg (Int32.not_lt.mpr c_29), if_neg (fun h => absurd h.1 c_61), ek]) ls (lv_sub hl [1, 2, 3, 4, 0] rfl)
            · refine lv_aload_n hx hb dX8_kindOn_80 rfl (lv_at hl 0 rfl) ?_
              refine pv_get (ci := 10) (C := RX8) (T := TX8) (N := 34) hx hb hts hinX8 hown hK hP hM.1 eM rfl 20 (by decide) (hts (.fieldLink RX8 52 "StorageChargeModel" "toldKind" "[I") (by decide +kernel)) (fun _ h9 => h9) rfl dX8_kindOn_81 ?_
              refine lv_bipush (v := 9) hx hb dX8_kindOn_84 (by decide) ?_
              refine lv_iload_n hx hb dX8_kindOn_86 rfl (lv_at hl 1 rfl) ?_
              refine lv_imul hx hb dX8_kindOn_87 ?_
              refine lv_iload hx hb dX8_kindOn_88 (lv_at hl 4 rfl) ?_
              refine lv_iadd hx hb dX8_kindOn_90 ?_
              refine lv_topi (fun z9 ez9 => ?_)
              obtain rfl : z9 = nI (9 * u + i) := ez9.trans (nI9 u i)
              refine pv_iald hx hb hK hP j20 0 a20 rfl (k := 9 * u + i) rfl (by omega) (by decide) dX8_kindOn_91 ?_
              refine lv_topi (fun x_92 ex_92 => ?_)
              refine lv_istore_n (lv' := [(3, .int x_92), (0, .ref (ad 100)), (1, .int (nI u)), (2, .int d), (4, .int (nI i))]) hx hb dX8_kindOn_92 rfl hl (by decide) rfl (fun ls hl => ?_)
              refine lv_iinc (v := nI (i + 1)) (lv' := [(4, .int (nI (i + 1))), (3, .int x_92), (0, .ref (ad 100)), (1, .int (nI u)), (2, .int d)]) hx hb dX8_kindOn_93 hl (k := 4) rfl (nI_1 i) (by decide) rfl (fun ls hl => ?_)
              refine lv_goto (tgt := 5) hx hb dX8_kindOn_96 (by decide) ?_
              exact ih5 (i + 1) (x_92) (by omega) (by omega) (by first | (rw [mK, if_pos (Int32.not_le.mp c_29)]; exact ex_44) | (rw [mK, if_neg (Int32.not_lt.mpr c_29), if_pos ⟨c_61, by rw [← ek]; exact Int32.not_le.mp c_77⟩]; exact ex_92) | rw [mK, if_neg (Int32.not_lt.mpr c_29), if_neg (fun h => absurd h.2 (by rw [← ek]; exact Int32.not_lt.mpr c_77)), ek] | rw [mK, if_neg (Int32.not_lt.mpr c_29), if_neg (fun h => absurd h.1 c_61), ek]) ls (lv_sub hl [2, 3, 4, 1, 0] rfl)
        · refine lv_aload_n hx hb dX8_kindOn_32 rfl (lv_at hl 0 rfl) ?_
          refine pv_get (ci := 10) (C := RX8) (T := TX8) (N := 34) hx hb hts hinX8 hown hK hP hM.1 eM rfl 20 (by decide) (hts (.fieldLink RX8 52 "StorageChargeModel" "toldKind" "[I") (by decide +kernel)) (fun _ h9 => h9) rfl dX8_kindOn_33 ?_
          refine lv_bipush (v := 9) hx hb dX8_kindOn_36 (by decide) ?_
          refine lv_iload_n hx hb dX8_kindOn_38 rfl (lv_at hl 1 rfl) ?_
          refine lv_imul hx hb dX8_kindOn_39 ?_
          refine lv_iload hx hb dX8_kindOn_40 (lv_at hl 4 rfl) ?_
          refine lv_iadd hx hb dX8_kindOn_42 ?_
          refine lv_topi (fun z9 ez9 => ?_)
          obtain rfl : z9 = nI (9 * u + i) := ez9.trans (nI9 u i)
          refine pv_iald hx hb hK hP j20 0 a20 rfl (k := 9 * u + i) rfl (by omega) (by decide) dX8_kindOn_43 ?_
          refine lv_topi (fun x_44 ex_44 => ?_)
          refine lv_istore_n (lv' := [(3, .int x_44), (0, .ref (ad 100)), (1, .int (nI u)), (2, .int d), (4, .int (nI i))]) hx hb dX8_kindOn_44 rfl hl (by decide) rfl (fun ls hl => ?_)
          refine lv_goto (tgt := 93) hx hb dX8_kindOn_45 (by decide) ?_
          refine lv_iinc (v := nI (i + 1)) (lv' := [(4, .int (nI (i + 1))), (3, .int x_44), (0, .ref (ad 100)), (1, .int (nI u)), (2, .int d)]) hx hb dX8_kindOn_93 hl (k := 4) rfl (nI_1 i) (by decide) rfl (fun ls hl => ?_)
          refine lv_goto (tgt := 5) hx hb dX8_kindOn_96 (by decide) ?_
          exact ih5 (i + 1) (x_44) (by omega) (by omega) (by first | (rw [mK, if_pos (Int32.not_le.mp c_29)]; exact ex_44) | (rw [mK, if_neg (Int32.not_lt.mpr c_29), if_pos ⟨c_61, by rw [← ek]; exact Int32.not_le.mp c_77⟩]; exact ex_92) | rw [mK, if_neg (Int32.not_lt.mpr c_29), if_neg (fun h => absurd h.2 (by rw [← ek]; exact Int32.not_lt.mpr c_77)), ek] | rw [mK, if_neg (Int32.not_lt.mpr c_29), if_neg (fun h => absurd h.1 c_61), ek]) ls (lv_sub hl [2, 3, 4, 1, 0] rfl)
  have hl := lv_entry ([.ref (ad 100), .int (nI u), .int d]) (n := 5) (Nat.le_of_ble_eq_true rfl)
  rw [lg_entry_eq]
  generalize (lg_sl ([.ref (ad 100), .int (nI u), .int d]) ++ List.replicate (5 - (lg_sl ([.ref (ad 100), .int (nI u), .int d])).length) Slot.unset).toArray = ls at hl ⊢
  have hl : lv_has ls 5 [(0, .ref (ad 100)), (1, .int (nI u)), (2, .int d)] := hl
  refine lv_iconst (v := (-1)) hx hb dX8_kindOn_0 (by decide) ?_
  refine lv_topi (fun x_1 ex_1 => ?_)
  refine lv_istore_n (lv' := [(3, .int x_1), (0, .ref (ad 100)), (1, .int (nI u)), (2, .int d)]) hx hb dX8_kindOn_1 rfl hl (by decide) rfl (fun ls hl => ?_)
  refine lv_iconst (v := 0) hx hb dX8_kindOn_2 (by decide) ?_
  refine lv_istore (lv' := [(4, .int 0), (3, .int x_1), (0, .ref (ad 100)), (1, .int (nI u)), (2, .int d)]) hx hb dX8_kindOn_3 hl (by decide) rfl (fun ls hl => ?_)
  exact loop5 (t0 + 1) 0 x_1 (by omega) (by omega) ex_1 ls (lv_sub hl [2, 3, 4, 1, 0] rfl)
