/-! leaves: StorageCharge.isWithin, firstDayOf, lastDayOf; StorageCharge$Unit's reads -/
def wI (a b c : Int32) : Int32 := if b ≤ a ∧ a ≤ c then 1 else 0
theorem wI_1 {a b c : Int32} (h : b ≤ a ∧ a ≤ c) : wI a b c = 1 := if_pos h
theorem wI_0 {a b c : Int32} (h : ¬ (b ≤ a ∧ a ≤ c)) : wI a b c = 0 := if_neg h
theorem wI_eq0 {a b c : Int32} : wI a b c = 0 ↔ ¬ (b ≤ a ∧ a ≤ c) := by
  by_cases h : b ≤ a ∧ a ≤ c
  · rw [wI_1 h]; simp [h]
  · rw [wI_0 h]; simp [h]
def mxI (x y : Int32) : Int32 := if x < y then y else x
def mnI (x y : Int32) : Int32 := if y < x then y else x
theorem nI_p1 {n : Nat} (h : 1 ≤ n) : nI n - 1 = nI (n - 1) := by
  obtain ⟨k, rfl⟩ : ∃ k, n = k + 1 := ⟨n - 1, by omega⟩
  exact nI_pred k
/-- a unit at the label u, its two arrays at u + 1 and u + 2 -/
def UnitAt (y : Nat → ClassId) (Ls : List Nat) (ad : Nat → Nat) (G : Nat → va_E) (u : Nat) (ow fd ld ig : Int32) (told : Nat) (kf df : Nat → Int32) : Prop :=
  u ∈ Ls ∧ u + 1 ∈ Ls ∧ u + 2 ∈ Ls ∧ G u = .inr (8, [.int ow, .int fd, .int ld, .int ig, .ref (ad (u + 1)), .ref (ad (u + 2)), .int (nI told)]) ∧ G (u + 1) = .inl (y 0, 9, .inl kf) ∧ G (u + 2) = .inl (y 0, 9, .inl df) ∧ 1 ≤ told ∧ told ≤ 9
/-- the class on a day, of the first i + 1 tellings -/
def kOn (kf df : Nat → Int32) (day : Int32) : Nat → Int32
  | 0 => kf 0
  | i + 1 => if df (i + 1) < day then kf (i + 1) else if df (i + 1) = day then mxI (kOn kf df day i) (kf (i + 1)) else kOn kf df day i

set_option maxHeartbeats 4000000 in
set_option maxRecDepth 100000 in
/-- isWithin -/
theorem c_X7_isWithin (l : Launch) (a b c0 : Int32) : Met l yX7_isWithin wsX7_isWithin ({ frames := 0, cells := 0, slots := 0, locals := 0 }) (va_Pc [.int a, .int b, .int c0] (fun _ => True)) (vp_Si (fun r => r = wI a b c0)) 0 0 (fun _ => False) := by
  refine Met.ofW (cc := cX7_isWithin) (maxL := 3) (ret := (some .boolean)) (by decide) rfl ?_
  intro p e s m args below meth c s₁ B hml hv
  obtain ⟨rfl, -⟩ := hv
  have hx := B.exec
  have hb := B.bytes
  have hr := B.returns
  have hts := atoms_spec (ws := wsX7_isWithin) B.pre
  have hown : s.vm.findClass RX7 = some m.cls := findClass_of_methodNamed B.named
  have hlocks := B.notSynchronized
  have hl := lv_entry ([.int a, .int b, .int c0]) (n := 3) (Nat.le_of_ble_eq_true rfl)
  rw [lg_entry_eq]
  generalize (lg_sl ([.int a, .int b, .int c0]) ++ List.replicate (3 - (lg_sl ([.int a, .int b, .int c0])).length) Slot.unset).toArray = ls at hl ⊢
  have hl : lv_has ls 3 [(0, .int a), (1, .int b), (2, .int c0)] := hl
  refine lv_iload_n hx hb dX7_isWithin_0 rfl (lv_at hl 0 rfl) ?_
  refine lv_iload_n hx hb dX7_isWithin_1 rfl (lv_at hl 1 rfl) ?_
  refine lv_icmp_lt (tgt := 14) hx hb dX7_isWithin_2 (by decide) (fun c_2 => ?_) (fun c_2 => ?_)
  · refine lv_iconst (v := 0) hx hb dX7_isWithin_14 (by decide) ?_
    exact W.zret (v := 0) hx hb hr (by first | rfl | decide | (simp [narrow]; done) | assumption) (fun t ht hW => ⟨0, rfl, (by rw [wI, if_neg]; rintro ⟨h1, h2⟩; first | exact absurd c_2 (Int32.not_lt.mpr h1) | exact absurd c_7 (Int32.not_lt.mpr h2)), ht⟩) (fun q h => by cases h) dX7_isWithin_15
  · refine lv_iload_n hx hb dX7_isWithin_5 rfl (lv_at hl 0 rfl) ?_
    refine lv_iload_n hx hb dX7_isWithin_6 rfl (lv_at hl 2 rfl) ?_
    refine lv_icmp_gt (tgt := 14) hx hb dX7_isWithin_7 (by decide) (fun c_7 => ?_) (fun c_7 => ?_)
    · refine lv_iconst (v := 0) hx hb dX7_isWithin_14 (by decide) ?_
      exact W.zret (v := 0) hx hb hr (by first | rfl | decide | (simp [narrow]; done) | assumption) (fun t ht hW => ⟨0, rfl, (by rw [wI, if_neg]; rintro ⟨h1, h2⟩; first | exact absurd c_2 (Int32.not_lt.mpr h1) | exact absurd c_7 (Int32.not_lt.mpr h2)), ht⟩) (fun q h => by cases h) dX7_isWithin_15
    · refine lv_iconst (v := 1) hx hb dX7_isWithin_10 (by decide) ?_
      refine lv_goto (tgt := 15) hx hb dX7_isWithin_11 (by decide) ?_
      exact W.zret (v := 1) hx hb hr (by first | rfl | decide | (simp [narrow]; done) | assumption) (fun t ht hW => ⟨1, rfl, (by rw [wI, if_pos ⟨Int32.not_lt.mp c_2, Int32.not_lt.mp c_7⟩]), ht⟩) (fun q h => by cases h) dX7_isWithin_15

set_option maxHeartbeats 4000000 in
set_option maxRecDepth 100000 in
/-- firstDayOf -/
theorem c_X7_firstDayOf (l : Launch) (mo : Int32) : Met l yX7_firstDayOf wsX7_firstDayOf ({ frames := 0, cells := 0, slots := 0, locals := 0 }) (va_Pc [.int mo] (fun _ => True)) (vp_Si (fun r => r = 30 * mo)) 0 0 (fun _ => False) := by
  refine Met.ofW (cc := cX7_firstDayOf) (maxL := 1) (ret := (some .int)) (by decide) rfl ?_
  intro p e s m args below meth c s₁ B hml hv
  obtain ⟨rfl, -⟩ := hv
  have hx := B.exec
  have hb := B.bytes
  have hr := B.returns
  have hts := atoms_spec (ws := wsX7_firstDayOf) B.pre
  have hown : s.vm.findClass RX7 = some m.cls := findClass_of_methodNamed B.named
  have hlocks := B.notSynchronized
  have hl := lv_entry ([.int mo]) (n := 1) (Nat.le_of_ble_eq_true rfl)
  rw [lg_entry_eq]
  generalize (lg_sl ([.int mo]) ++ List.replicate (1 - (lg_sl ([.int mo])).length) Slot.unset).toArray = ls at hl ⊢
  have hl : lv_has ls 1 [(0, .int mo)] := hl
  refine lv_bipush (v := 30) hx hb dX7_firstDayOf_0 (by decide) ?_
  refine lv_iload_n hx hb dX7_firstDayOf_2 rfl (lv_at hl 0 rfl) ?_
  refine lv_imul hx hb dX7_firstDayOf_3 ?_
  exact W.iret (v := (30 * mo)) hx hb hr (fun t ht hW => ⟨(30 * mo), rfl, rfl, ht⟩) (fun q h => by cases h) dX7_firstDayOf_4

set_option maxHeartbeats 4000000 in
set_option maxRecDepth 100000 in
/-- lastDayOf -/
theorem c_X7_lastDayOf (l : Launch) (mo : Int32) : Met l yX7_lastDayOf wsX7_lastDayOf ({ frames := 0, cells := 0, slots := 0, locals := 0 }) (va_Pc [.int mo] (fun _ => True)) (vp_Si (fun r => r = 30 * mo + 30 - 1)) 0 0 (fun _ => False) := by
  refine Met.ofW (cc := cX7_lastDayOf) (maxL := 1) (ret := (some .int)) (by decide) rfl ?_
  intro p e s m args below meth c s₁ B hml hv
  obtain ⟨rfl, -⟩ := hv
  have hx := B.exec
  have hb := B.bytes
  have hr := B.returns
  have hts := atoms_spec (ws := wsX7_lastDayOf) B.pre
  have hown : s.vm.findClass RX7 = some m.cls := findClass_of_methodNamed B.named
  have hlocks := B.notSynchronized
  have hl := lv_entry ([.int mo]) (n := 1) (Nat.le_of_ble_eq_true rfl)
  rw [lg_entry_eq]
  generalize (lg_sl ([.int mo]) ++ List.replicate (1 - (lg_sl ([.int mo])).length) Slot.unset).toArray = ls at hl ⊢
  have hl : lv_has ls 1 [(0, .int mo)] := hl
  refine lv_bipush (v := 30) hx hb dX7_lastDayOf_0 (by decide) ?_
  refine lv_iload_n hx hb dX7_lastDayOf_2 rfl (lv_at hl 0 rfl) ?_
  refine lv_imul hx hb dX7_lastDayOf_3 ?_
  refine lv_bipush (v := 30) hx hb dX7_lastDayOf_4 (by decide) ?_
  refine lv_iadd hx hb dX7_lastDayOf_6 ?_
  refine lv_iconst (v := 1) hx hb dX7_lastDayOf_7 (by decide) ?_
  refine lv_isub hx hb dX7_lastDayOf_8 ?_
  exact W.iret (v := (((30 * mo) + 30) - 1)) hx hb hr (fun t ht hW => ⟨(((30 * mo) + 30) - 1), rfl, rfl, ht⟩) (fun q h => by cases h) dX7_lastDayOf_9

set_option maxHeartbeats 4000000 in
set_option maxRecDepth 100000 in
/-- Unit.isFull -/
theorem c_X6_isFull (l : Launch) (D : va_G) (y : Nat → ClassId) (Ls : List Nat) (ad : Nat → Nat) (G : Nat → va_E) (u : Nat) (ow fd ld ig : Int32) (told : Nat) (kf df : Nat → Int32) (hU : UnitAt y Ls ad G u ow fd ld ig told kf df) : Met l yX6_isFull wsX6_isFull ({ frames := 0, cells := 0, slots := 0, locals := 0 }) (va_Pc [.ref (ad u)] (Wd D y (wl Ls ad G))) (vp_Si (fun r => r = if 9 ≤ told then 1 else 0)) 0 0 (fun _ => False) := by
  refine Met.ofW (cc := cX6_isFull) (maxL := 1) (ret := (some .boolean)) (by decide) rfl ?_
  intro p e s m args below meth c s₁ B hml hv
  obtain ⟨rfl, hP, hK, hN⟩ := hv
  have hx := B.exec
  have hb := B.bytes
  have hr := B.returns
  have hts := atoms_spec (ws := wsX6_isFull) B.pre
  have hown : s.vm.findClass RX6 = some m.cls := findClass_of_methodNamed B.named
  have hlocks := B.notSynchronized
  have hinX6 : ∀ w ∈ wsX60, w ∈ wsX6_isFull := by decide +kernel
  obtain ⟨hu, huk, hud, eu, euk, eud, h1, h9⟩ := hU
  have hl := lv_entry ([.ref (ad u)]) (n := 1) (Nat.le_of_ble_eq_true rfl)
  rw [lg_entry_eq]
  generalize (lg_sl ([.ref (ad u)]) ++ List.replicate (1 - (lg_sl ([.ref (ad u)])).length) Slot.unset).toArray = ls at hl ⊢
  have hl : lv_has ls 1 [(0, .ref (ad u))] := hl
  refine lv_aload_n hx hb dX6_isFull_0 rfl (lv_at hl 0 rfl) ?_
  refine pv_get (ci := 8) (C := RX6) (T := TX6) (N := 7) hx hb hts hinX6 hown hK hP hu eu rfl 6 (by decide) (hts (.fieldLink RX6 26 "StorageCharge$Unit" "told" "I") (by decide +kernel)) (fun _ h9 => h9) rfl dX6_isFull_1 ?_
  refine lv_aload_n hx hb dX6_isFull_4 rfl (lv_at hl 0 rfl) ?_
  refine pv_get (ci := 8) (C := RX6) (T := TX6) (N := 7) hx hb hts hinX6 hown hK hP hu eu rfl 4 (by decide) (hts (.fieldLink RX6 19 "StorageCharge$Unit" "toldKinds" "[I") (by decide +kernel)) (fun _ h9 => h9) rfl dX6_isFull_5 ?_
  refine pv_alen (n := 9) hx hb hK hP huk 0 euk rfl rfl dX6_isFull_8 ?_
  refine lv_icmp_lt (tgt := 16) hx hb dX6_isFull_9 (by decide) (fun c_9 => ?_) (fun c_9 => ?_)
  · refine lv_iconst (v := 0) hx hb dX6_isFull_16 (by decide) ?_
    exact W.zret (v := 0) hx hb hr (by first | rfl | decide | (simp [narrow]; done) | assumption) (fun t ht hW => ⟨0, rfl, (by rw [if_neg]; intro h; exact absurd c_9 (nI_nlt h (by omega))), ht⟩) (fun q h => by cases h) dX6_isFull_17
  · refine lv_iconst (v := 1) hx hb dX6_isFull_12 (by decide) ?_
    refine lv_goto (tgt := 17) hx hb dX6_isFull_13 (by decide) ?_
    exact W.zret (v := 1) hx hb hr (by first | rfl | decide | (simp [narrow]; done) | assumption) (fun t ht hW => ⟨1, rfl, (by rw [if_pos]; exact Nat.le_of_not_lt (fun h => c_9 (nI_lt h (by decide)))), ht⟩) (fun q h => by cases h) dX6_isFull_17

set_option maxHeartbeats 4000000 in
set_option maxRecDepth 100000 in
/-- Unit.kindToldLast -/
theorem c_X6_kindToldLast (l : Launch) (D : va_G) (y : Nat → ClassId) (Ls : List Nat) (ad : Nat → Nat) (G : Nat → va_E) (u : Nat) (ow fd ld ig : Int32) (told : Nat) (kf df : Nat → Int32) (hU : UnitAt y Ls ad G u ow fd ld ig told kf df) : Met l yX6_kindToldLast wsX6_kindToldLast ({ frames := 0, cells := 0, slots := 0, locals := 0 }) (va_Pc [.ref (ad u)] (Wd D y (wl Ls ad G))) (vp_Si (fun r => r = kf (told - 1))) 0 0 (fun _ => False) := by
  refine Met.ofW (cc := cX6_kindToldLast) (maxL := 1) (ret := (some .int)) (by decide) rfl ?_
  intro p e s m args below meth c s₁ B hml hv
  obtain ⟨rfl, hP, hK, hN⟩ := hv
  have hx := B.exec
  have hb := B.bytes
  have hr := B.returns
  have hts := atoms_spec (ws := wsX6_kindToldLast) B.pre
  have hown : s.vm.findClass RX6 = some m.cls := findClass_of_methodNamed B.named
  have hlocks := B.notSynchronized
  have hinX6 : ∀ w ∈ wsX60, w ∈ wsX6_kindToldLast := by decide +kernel
  obtain ⟨hu, huk, hud, eu, euk, eud, h1, h9⟩ := hU
  have hl := lv_entry ([.ref (ad u)]) (n := 1) (Nat.le_of_ble_eq_true rfl)
  rw [lg_entry_eq]
  generalize (lg_sl ([.ref (ad u)]) ++ List.replicate (1 - (lg_sl ([.ref (ad u)])).length) Slot.unset).toArray = ls at hl ⊢
  have hl : lv_has ls 1 [(0, .ref (ad u))] := hl
  refine lv_aload_n hx hb dX6_kindToldLast_0 rfl (lv_at hl 0 rfl) ?_
  refine pv_get (ci := 8) (C := RX6) (T := TX6) (N := 7) hx hb hts hinX6 hown hK hP hu eu rfl 4 (by decide) (hts (.fieldLink RX6 19 "StorageCharge$Unit" "toldKinds" "[I") (by decide +kernel)) (fun _ h9 => h9) rfl dX6_kindToldLast_1 ?_
  refine lv_aload_n hx hb dX6_kindToldLast_4 rfl (lv_at hl 0 rfl) ?_
  refine pv_get (ci := 8) (C := RX6) (T := TX6) (N := 7) hx hb hts hinX6 hown hK hP hu eu rfl 6 (by decide) (hts (.fieldLink RX6 26 "StorageCharge$Unit" "told" "I") (by decide +kernel)) (fun _ h9 => h9) rfl dX6_kindToldLast_5 ?_
  refine lv_iconst (v := 1) hx hb dX6_kindToldLast_8 (by decide) ?_
  refine lv_isub hx hb dX6_kindToldLast_9 ?_
  refine pv_iald hx hb hK hP huk 0 euk rfl (k := (told - 1)) (nI_p1 h1) (by omega) (by decide) dX6_kindToldLast_10 ?_
  exact W.iret (v := kf (told - 1)) hx hb hr (fun t ht hW => ⟨kf (told - 1), rfl, rfl, ht⟩) (fun q h => by cases h) dX6_kindToldLast_11

set_option maxHeartbeats 4000000 in
set_option maxRecDepth 100000 in
/-- Unit.dayToldLast -/
theorem c_X6_dayToldLast (l : Launch) (D : va_G) (y : Nat → ClassId) (Ls : List Nat) (ad : Nat → Nat) (G : Nat → va_E) (u : Nat) (ow fd ld ig : Int32) (told : Nat) (kf df : Nat → Int32) (hU : UnitAt y Ls ad G u ow fd ld ig told kf df) : Met l yX6_dayToldLast wsX6_dayToldLast ({ frames := 0, cells := 0, slots := 0, locals := 0 }) (va_Pc [.ref (ad u)] (Wd D y (wl Ls ad G))) (vp_Si (fun r => r = df (told - 1))) 0 0 (fun _ => False) := by
  refine Met.ofW (cc := cX6_dayToldLast) (maxL := 1) (ret := (some .int)) (by decide) rfl ?_
  intro p e s m args below meth c s₁ B hml hv
  obtain ⟨rfl, hP, hK, hN⟩ := hv
  have hx := B.exec
  have hb := B.bytes
  have hr := B.returns
  have hts := atoms_spec (ws := wsX6_dayToldLast) B.pre
  have hown : s.vm.findClass RX6 = some m.cls := findClass_of_methodNamed B.named
  have hlocks := B.notSynchronized
  have hinX6 : ∀ w ∈ wsX60, w ∈ wsX6_dayToldLast := by decide +kernel
  obtain ⟨hu, huk, hud, eu, euk, eud, h1, h9⟩ := hU
  have hl := lv_entry ([.ref (ad u)]) (n := 1) (Nat.le_of_ble_eq_true rfl)
  rw [lg_entry_eq]
  generalize (lg_sl ([.ref (ad u)]) ++ List.replicate (1 - (lg_sl ([.ref (ad u)])).length) Slot.unset).toArray = ls at hl ⊢
  have hl : lv_has ls 1 [(0, .ref (ad u))] := hl
  refine lv_aload_n hx hb dX6_dayToldLast_0 rfl (lv_at hl 0 rfl) ?_
  refine pv_get (ci := 8) (C := RX6) (T := TX6) (N := 7) hx hb hts hinX6 hown hK hP hu eu rfl 5 (by decide) (hts (.fieldLink RX6 23 "StorageCharge$Unit" "toldDays" "[I") (by decide +kernel)) (fun _ h9 => h9) rfl dX6_dayToldLast_1 ?_
  refine lv_aload_n hx hb dX6_dayToldLast_4 rfl (lv_at hl 0 rfl) ?_
  refine pv_get (ci := 8) (C := RX6) (T := TX6) (N := 7) hx hb hts hinX6 hown hK hP hu eu rfl 6 (by decide) (hts (.fieldLink RX6 26 "StorageCharge$Unit" "told" "I") (by decide +kernel)) (fun _ h9 => h9) rfl dX6_dayToldLast_5 ?_
  refine lv_iconst (v := 1) hx hb dX6_dayToldLast_8 (by decide) ?_
  refine lv_isub hx hb dX6_dayToldLast_9 ?_
  refine pv_iald hx hb hK hP hud 0 eud rfl (k := (told - 1)) (nI_p1 h1) (by omega) (by decide) dX6_dayToldLast_10 ?_
  exact W.iret (v := df (told - 1)) hx hb hr (fun t ht hW => ⟨df (told - 1), rfl, rfl, ht⟩) (fun q h => by cases h) dX6_dayToldLast_11

set_option maxHeartbeats 4000000 in
set_option maxRecDepth 100000 in
/-- Unit.daysThere -/
theorem c_X6_daysThere (l : Launch) (D : va_G) (y : Nat → ClassId) (Ls : List Nat) (ad : Nat → Nat) (G : Nat → va_E) (u : Nat) (ow fd ld ig : Int32) (told : Nat) (kf df : Nat → Int32) (hU : UnitAt y Ls ad G u ow fd ld ig told kf df) (fr to : Int32) : Met l yX6_daysThere wsX6_daysThere ({ frames := 1, cells := 0, slots := 0, locals := 15 }) (va_Pc [.ref (ad u), .int fr, .int to] (Wd D y (wl Ls ad G))) (vp_Si (fun r => r = mxI 0 (mnI to ld - mxI fr fd + 1))) 0 0 (fun _ => False) := by
  refine Met.ofW (cc := cX6_daysThere) (maxL := 3) (ret := (some .int)) (by decide) rfl ?_
  intro p e s m args below meth c s₁ B hml hv
  obtain ⟨rfl, hP, hK, hN⟩ := hv
  have hx := B.exec
  have hb := B.bytes
  have hr := B.returns
  have hts := atoms_spec (ws := wsX6_daysThere) B.pre
  have hown : s.vm.findClass RX6 = some m.cls := findClass_of_methodNamed B.named
  have hlocks := B.notSynchronized
  have hinX6 : ∀ w ∈ wsX60, w ∈ wsX6_daysThere := by decide +kernel
  obtain ⟨hu, huk, hud, eu, euk, eud, h1, h9⟩ := hU
  have hl := lv_entry ([.ref (ad u), .int fr, .int to]) (n := 3) (Nat.le_of_ble_eq_true rfl)
  rw [lg_entry_eq]
  generalize (lg_sl ([.ref (ad u), .int fr, .int to]) ++ List.replicate (3 - (lg_sl ([.ref (ad u), .int fr, .int to])).length) Slot.unset).toArray = ls at hl ⊢
  have hl : lv_has ls 3 [(0, .ref (ad u)), (1, .int fr), (2, .int to)] := hl
  refine lv_iconst (v := 0) hx hb dX6_daysThere_0 (by decide) ?_
  refine lv_iload_n hx hb dX6_daysThere_1 rfl (lv_at hl 2 rfl) ?_
  refine lv_aload_n hx hb dX6_daysThere_2 rfl (lv_at hl 0 rfl) ?_
  refine pv_get (ci := 8) (C := RX6) (T := TX6) (N := 7) hx hb hts hinX6 hown hK hP hu eu rfl 2 (by decide) (hts (.fieldLink RX6 9 "StorageCharge$Unit" "lastDay" "I") (by decide +kernel)) (fun _ h9 => h9) rfl dX6_daysThere_3 ?_
  refine va_mmin hx hb (hml.trans hl.1.symm) hown (hts (.methodLink RX6 39 Lib.Math.min.name) (by decide +kernel)) (hts (.static Lib.Math.min.name) (by decide +kernel)) (hts (.initialized "java/lang/Math") (by decide +kernel)) (hts (.code Lib.Math.min.name Lib.Math.min.code 2 (some .int)) (by decide +kernel)) (Nat.le_of_ble_eq_true rfl) (Nat.le_of_ble_eq_true rfl) (Nat.zero_le _) (Nat.zero_le _) dX6_daysThere_6 ?_
  refine lv_iload_n hx hb dX6_daysThere_9 rfl (lv_at hl 1 rfl) ?_
  refine lv_aload_n hx hb dX6_daysThere_10 rfl (lv_at hl 0 rfl) ?_
  refine pv_get (ci := 8) (C := RX6) (T := TX6) (N := 7) hx hb hts hinX6 hown hK hP hu eu rfl 1 (by decide) (hts (.fieldLink RX6 32 "StorageCharge$Unit" "firstDay" "I") (by decide +kernel)) (fun _ h9 => h9) rfl dX6_daysThere_11 ?_
  refine va_mmax hx hb (hml.trans hl.1.symm) hown (hts (.methodLink RX6 45 Lib.Math.max.name) (by decide +kernel)) (hts (.static Lib.Math.max.name) (by decide +kernel)) (hts (.initialized "java/lang/Math") (by decide +kernel)) (hts (.code Lib.Math.max.name Lib.Math.max.code 2 (some .int)) (by decide +kernel)) (Nat.le_of_ble_eq_true rfl) (Nat.le_of_ble_eq_true rfl) (Nat.zero_le _) (Nat.zero_le _) dX6_daysThere_14 ?_
  refine lv_isub hx hb dX6_daysThere_17 ?_
  refine lv_iconst (v := 1) hx hb dX6_daysThere_18 (by decide) ?_
  refine lv_iadd hx hb dX6_daysThere_19 ?_
  refine va_mmax hx hb (hml.trans hl.1.symm) hown (hts (.methodLink RX6 45 Lib.Math.max.name) (by decide +kernel)) (hts (.static Lib.Math.max.name) (by decide +kernel)) (hts (.initialized "java/lang/Math") (by decide +kernel)) (hts (.code Lib.Math.max.name Lib.Math.max.code 2 (some .int)) (by decide +kernel)) (Nat.le_of_ble_eq_true rfl) (Nat.le_of_ble_eq_true rfl) (Nat.zero_le _) (Nat.zero_le _) dX6_daysThere_20 ?_
  exact W.iret (v := (if 0 < (((if ld < to then ld else to) - (if fr < fd then fd else fr)) + 1) then (((if ld < to then ld else to) - (if fr < fd then fd else fr)) + 1) else 0)) hx hb hr (fun t ht hW => ⟨(if 0 < (((if ld < to then ld else to) - (if fr < fd then fd else fr)) + 1) then (((if ld < to then ld else to) - (if fr < fd then fd else fr)) + 1) else 0), rfl, rfl, ht⟩) (fun q h => by cases h) dX6_daysThere_23

set_option maxHeartbeats 4000000 in
set_option maxRecDepth 100000 in
/-- Unit.kindOn -/
theorem c_X6_kindOn (l : Launch) (D : va_G) (y : Nat → ClassId) (Ls : List Nat) (ad : Nat → Nat) (G : Nat → va_E) (u : Nat) (ow fd ld ig : Int32) (told : Nat) (kf df : Nat → Int32) (hU : UnitAt y Ls ad G u ow fd ld ig told kf df) (day : Int32) : Met l yX6_kindOn wsX6_kindOn ({ frames := 1, cells := 0, slots := 0, locals := 13 }) (va_Pc [.ref (ad u), .int day] (Wd D y (wl Ls ad G))) (vp_Si (fun r => r = kOn kf df day (told - 1))) 0 0 (fun _ => False) := by
  refine Met.ofW (cc := cX6_kindOn) (maxL := 4) (ret := (some .int)) (by decide) rfl ?_
  intro p e s m args below meth c s₁ B hml hv
  obtain ⟨rfl, hP, hK, hN⟩ := hv
  have hx := B.exec
  have hb := B.bytes
  have hr := B.returns
  have hts := atoms_spec (ws := wsX6_kindOn) B.pre
  have hown : s.vm.findClass RX6 = some m.cls := findClass_of_methodNamed B.named
  have hlocks := B.notSynchronized
  have hinX6 : ∀ w ∈ wsX60, w ∈ wsX6_kindOn := by decide +kernel
  obtain ⟨hu, huk, hud, eu, euk, eud, h1, h9⟩ := hU
  have loop9 : ∀ (n : Nat) (i : Nat) (k x : Int32), i + 1 ≤ told → told ≤ i + n → k = kOn kf df day i → x = nI (i + 1) → ∀ ls : Array Slot, lv_has ls 4 [(0, .ref (ad u)), (1, .int day), (2, .int k), (3, .int x)] → W p l e (headSpec wsX6_kindOn ({ frames := 1, cells := 0, slots := 0, locals := 13 })).room s m ([.ref (ad u), .int day] : List Value).toArray below meth c s.heap [] 0 0 (MQ below (vp_Si (fun r => r = kOn kf df day (told - 1))) ([.ref (ad u), .int day] : List Value).toArray s 0 0 (fun _ => False)) (F0 m 9 ls []) := by
    intro n
    induction n with
    | zero =>
      intro i k x hi hn; exact absurd hn (by omega)
    | succ n ih9 =>
      intro i k x hi hn ek ei ls hl
      refine lv_iload_n hx hb dX6_kindOn_9 rfl (lv_at hl 3 rfl) ?_
      refine lv_aload_n hx hb dX6_kindOn_10 rfl (lv_at hl 0 rfl) ?_
      refine pv_get (ci := 8) (C := RX6) (T := TX6) (N := 7) hx hb hts hinX6 hown hK hP hu eu rfl 6 (by decide) (hts (.fieldLink RX6 26 "StorageCharge$Unit" "told" "I") (by decide +kernel)) (fun _ h9 => h9) rfl dX6_kindOn_11 ?_
      refine lv_icmp_ge (tgt := 64) hx hb dX6_kindOn_14 (by decide) (fun c_14 => ?_) (fun c_14 => ?_)
      · refine lv_iload_n hx hb dX6_kindOn_64 rfl (lv_at hl 2 rfl) ?_
        exact W.iret (v := k) hx hb hr (fun t ht hW => ⟨k, rfl, (by have h8 := Nat.le_of_not_lt (fun h : i + 1 < told => absurd c_14 (by rw [ei]; exact nI_ge h (by omega))); rw [ek, show told - 1 = i from by omega]), ht⟩) (fun q h => by cases h) dX6_kindOn_65
      · have hlt : i + 1 < told := Nat.lt_of_not_le fun h => c_14 (by rw [ei]; exact nI_le h (by omega))
        refine lv_aload_n hx hb dX6_kindOn_17 rfl (lv_at hl 0 rfl) ?_
        refine pv_get (ci := 8) (C := RX6) (T := TX6) (N := 7) hx hb hts hinX6 hown hK hP hu eu rfl 5 (by decide) (hts (.fieldLink RX6 23 "StorageCharge$Unit" "toldDays" "[I") (by decide +kernel)) (fun _ h9 => h9) rfl dX6_kindOn_18 ?_
        refine lv_iload_n hx hb dX6_kindOn_21 rfl (lv_at hl 3 rfl) ?_
        refine pv_iald hx hb hK hP hud 0 eud rfl (k := (i + 1)) ei (by omega) (by decide) dX6_kindOn_22 ?_
        refine lv_iload_n hx hb dX6_kindOn_23 rfl (lv_at hl 1 rfl) ?_
        refine lv_icmp_ge (tgt := 37) hx hb dX6_kindOn_24 (by decide) (fun c_24 => ?_) (fun c_24 => ?_)
        · refine lv_aload_n hx hb dX6_kindOn_37 rfl (lv_at hl 0 rfl) ?_
          refine pv_get (ci := 8) (C := RX6) (T := TX6) (N := 7) hx hb hts hinX6 hown hK hP hu eu rfl 5 (by decide) (hts (.fieldLink RX6 23 "StorageCharge$Unit" "toldDays" "[I") (by decide +kernel)) (fun _ h9 => h9) rfl dX6_kindOn_38 ?_
          refine lv_iload_n hx hb dX6_kindOn_41 rfl (lv_at hl 3 rfl) ?_
          refine pv_iald hx hb hK hP hud 0 eud rfl (k := (i + 1)) ei (by omega) (by decide) dX6_kindOn_42 ?_
          refine lv_iload_n hx hb dX6_kindOn_43 rfl (lv_at hl 1 rfl) ?_
          refine lv_icmp_ne (tgt := 58) hx hb dX6_kindOn_44 (by decide) (fun c_44 => ?_) (fun c_44 => ?_)
          · obtain ⟨x_58, ex_58⟩ : ∃ y9 : Int32, y9 = x + 1 := ⟨_, rfl⟩
            refine lv_iinc (v := x_58) (lv' := [(3, .int x_58), (0, .ref (ad u)), (1, .int day), (2, .int k)]) hx hb dX6_kindOn_58 hl (k := 3) rfl (by rw [ex_58]; rfl) (by decide) rfl (fun ls hl => ?_)
            refine lv_goto (tgt := 9) hx hb dX6_kindOn_61 (by decide) ?_
            exact ih9 (i + 1) k x_58 (by omega) (by omega) (by rw [kOn, if_neg (Int32.not_lt.mpr c_24), if_neg c_44, ek]) (by rw [ex_58, ei]; exact nI_1 (i + 1)) ls (lv_sub hl [1, 2, 3, 0] rfl)
          · refine lv_iload_n hx hb dX6_kindOn_47 rfl (lv_at hl 2 rfl) ?_
            refine lv_aload_n hx hb dX6_kindOn_48 rfl (lv_at hl 0 rfl) ?_
            refine pv_get (ci := 8) (C := RX6) (T := TX6) (N := 7) hx hb hts hinX6 hown hK hP hu eu rfl 4 (by decide) (hts (.fieldLink RX6 19 "StorageCharge$Unit" "toldKinds" "[I") (by decide +kernel)) (fun _ h9 => h9) rfl dX6_kindOn_49 ?_
            refine lv_iload_n hx hb dX6_kindOn_52 rfl (lv_at hl 3 rfl) ?_
            refine pv_iald hx hb hK hP huk 0 euk rfl (k := (i + 1)) ei (by omega) (by decide) dX6_kindOn_53 ?_
            refine va_mmax hx hb (hml.trans hl.1.symm) hown (hts (.methodLink RX6 45 Lib.Math.max.name) (by decide +kernel)) (hts (.static Lib.Math.max.name) (by decide +kernel)) (hts (.initialized "java/lang/Math") (by decide +kernel)) (hts (.code Lib.Math.max.name Lib.Math.max.code 2 (some .int)) (by decide +kernel)) (Nat.le_of_ble_eq_true rfl) (Nat.le_of_ble_eq_true rfl) (Nat.zero_le _) (Nat.zero_le _) dX6_kindOn_54 ?_
            refine lv_topi (fun km ekm => ?_)
            refine lv_istore_n (lv' := [(2, .int km), (0, .ref (ad u)), (1, .int day), (3, .int x)]) hx hb dX6_kindOn_57 rfl hl (by decide) rfl (fun ls hl => ?_)
            obtain ⟨x_58, ex_58⟩ : ∃ y9 : Int32, y9 = x + 1 := ⟨_, rfl⟩
            refine lv_iinc (v := x_58) (lv' := [(3, .int x_58), (2, .int km), (0, .ref (ad u)), (1, .int day)]) hx hb dX6_kindOn_58 hl (k := 3) rfl (by rw [ex_58]; rfl) (by decide) rfl (fun ls hl => ?_)
            refine lv_goto (tgt := 9) hx hb dX6_kindOn_61 (by decide) ?_
            exact ih9 (i + 1) km x_58 (by omega) (by omega) (by rw [kOn, if_neg (Int32.not_lt.mpr c_24), if_pos c_44, ekm, ek]; rfl) (by rw [ex_58, ei]; exact nI_1 (i + 1)) ls (lv_sub hl [2, 3, 1, 0] rfl)
        · refine lv_aload_n hx hb dX6_kindOn_27 rfl (lv_at hl 0 rfl) ?_
          refine pv_get (ci := 8) (C := RX6) (T := TX6) (N := 7) hx hb hts hinX6 hown hK hP hu eu rfl 4 (by decide) (hts (.fieldLink RX6 19 "StorageCharge$Unit" "toldKinds" "[I") (by decide +kernel)) (fun _ h9 => h9) rfl dX6_kindOn_28 ?_
          refine lv_iload_n hx hb dX6_kindOn_31 rfl (lv_at hl 3 rfl) ?_
          refine pv_iald hx hb hK hP huk 0 euk rfl (k := (i + 1)) ei (by omega) (by decide) dX6_kindOn_32 ?_
          refine lv_topi (fun ka eka => ?_)
          refine lv_istore_n (lv' := [(2, .int ka), (0, .ref (ad u)), (1, .int day), (3, .int x)]) hx hb dX6_kindOn_33 rfl hl (by decide) rfl (fun ls hl => ?_)
          refine lv_goto (tgt := 58) hx hb dX6_kindOn_34 (by decide) ?_
          obtain ⟨x_58, ex_58⟩ : ∃ y9 : Int32, y9 = x + 1 := ⟨_, rfl⟩
          refine lv_iinc (v := x_58) (lv' := [(3, .int x_58), (2, .int ka), (0, .ref (ad u)), (1, .int day)]) hx hb dX6_kindOn_58 hl (k := 3) rfl (by rw [ex_58]; rfl) (by decide) rfl (fun ls hl => ?_)
          refine lv_goto (tgt := 9) hx hb dX6_kindOn_61 (by decide) ?_
          exact ih9 (i + 1) ka x_58 (by omega) (by omega) (by rw [kOn, if_pos (Int32.not_le.mp c_24), eka]) (by rw [ex_58, ei]; exact nI_1 (i + 1)) ls (lv_sub hl [2, 3, 1, 0] rfl)
  have hl := lv_entry ([.ref (ad u), .int day]) (n := 4) (Nat.le_of_ble_eq_true rfl)
  rw [lg_entry_eq]
  generalize (lg_sl ([.ref (ad u), .int day]) ++ List.replicate (4 - (lg_sl ([.ref (ad u), .int day])).length) Slot.unset).toArray = ls at hl ⊢
  have hl : lv_has ls 4 [(0, .ref (ad u)), (1, .int day)] := hl
  refine lv_aload_n hx hb dX6_kindOn_0 rfl (lv_at hl 0 rfl) ?_
  refine pv_get (ci := 8) (C := RX6) (T := TX6) (N := 7) hx hb hts hinX6 hown hK hP hu eu rfl 4 (by decide) (hts (.fieldLink RX6 19 "StorageCharge$Unit" "toldKinds" "[I") (by decide +kernel)) (fun _ h9 => h9) rfl dX6_kindOn_1 ?_
  refine lv_iconst (v := 0) hx hb dX6_kindOn_4 (by decide) ?_
  refine pv_iald hx hb hK hP huk 0 euk rfl (k := 0) (by decide) (by decide) (by decide) dX6_kindOn_5 ?_
  refine lv_topi (fun k0 ek0 => ?_)
  refine lv_istore_n (lv' := [(2, .int k0), (0, .ref (ad u)), (1, .int day)]) hx hb dX6_kindOn_6 rfl hl (by decide) rfl (fun ls hl => ?_)
  refine lv_iconst (v := 1) hx hb dX6_kindOn_7 (by decide) ?_
  refine lv_istore_n (lv' := [(3, .int 1), (2, .int k0), (0, .ref (ad u)), (1, .int day)]) hx hb dX6_kindOn_8 rfl hl (by decide) rfl (fun ls hl => ?_)
  exact loop9 told 0 k0 1 (by omega) (by omega) ek0 rfl ls (lv_sub hl [2, 3, 1, 0] rfl)
