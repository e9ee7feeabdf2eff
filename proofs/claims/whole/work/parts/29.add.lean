/-! ArrayList.add -/
/-- what add leaves: the list at j holds one more; its row is the old one, or a new one behind the tail -/
def AddR (y : Nat → ClassId) (Ls : List Nat) (ad : Nat → Nat) (G : Nat → va_E) (X : va_W) (j n : Nat) (el : Nat → Nat) (a : Nat) (u : va_W) : Prop :=
  ∃ (mc2 : Int32) (ea : Nat) (G2 : Nat → va_E) (X2 : va_W) (cap : Nat) (f2 : Nat → Option Nat), u = wl Ls ad G2 ++ X2 ∧ G2 j = .inr (1, [.int mc2, .ref ea, .int (nI (n + 1))]) ∧ (∀ k, k ≠ j → k ≠ j + 1 → G2 k = G k) ∧ (n + 1 ≤ cap ∧ cap < 2 ^ 31 ∧ (∀ i, i < n → f2 i = some (el i)) ∧ f2 n = some a) ∧
    ((X2 = X ∧ ea = ad (j + 1) ∧ j + 1 ∈ Ls ∧ G2 (j + 1) = .inl (y 3, cap, .inr (.inr (.inr (.inr f2))))) ∨ X2 = X ++ [(ea, .inl (y 3, cap, .inr (.inr (.inr (.inr f2)))))])

set_option maxHeartbeats 4000000 in
set_option maxRecDepth 100000 in
/-- ArrayList.add -/
theorem c_Jx4a65c_add_9ea2d_N (l : Launch) (hl0 : l.stackTraces = false) (D : va_G) (y : Nat → ClassId) (b0 df mi : Nat) (Ls : List Nat) (ad : Nat → Nat) (G : Nat → va_E) (X : va_W) (j : Nat) (mc : Int32) (hj : j ∈ Ls) (n n0 : Nat) (f : Nat → Option Nat) (ci : Nat) (rc : vw_C) (hci : vwCl[ci]? = some rc) (hca0 : Cond.castable rc.1 "java/lang/Object" ∈ castO) (ej : G j = .inr (1, [.int mc, .ref (ad (j + 1)), .int (nI n)])) (hr9 : j + 1 ∈ Ls) (er : G (j + 1) = .inl (y 3, n0, .inr (.inr (.inr (.inr f))))) (hnn : n < n0) (hm : n0 < 2 ^ 31) (a : Nat) (fs : List Value) (hX0e : X[0]? = some (a, .inr (ci, fs))) (el : Nat → Nat) (hfe : ∀ i, i < n → f i = some (el i)) : Met l yJx4a65c_add_9ea2d wsJx4a65c_add_9ea2d ({ frames := 6, cells := 1, slots := 1000, locals := 170 }) (va_Pc [.ref (ad j), .ref a] (WdL D y b0 df mi (wl Ls ad G ++ X))) (va_Qi (fun (r : Int32) (u : va_W) => r = 1 ∧ AddR y Ls ad G X j n el a u) (WB D b0) (fun q => b0 ≤ q)) 1 1000 (fun q => b0 ≤ q) := by
  refine Met.ofW (cc := cJx4a65c_add_9ea2d) (maxL := 2) (ret := (some .boolean)) (by decide) rfl ?_
  intro p e s m args below meth c s₁ B hml hv
  obtain ⟨rfl, ⟨⟨hP, hK, hN⟩, hD, hb0, hT⟩, hLP⟩ := hv
  have hx := B.exec
  have hb := B.bytes
  have hr := B.returns
  have hts := atoms_spec (ws := wsJx4a65c_add_9ea2d) B.pre
  have hown : s.vm.findClass RJx4a65c = some m.cls := findClass_of_methodNamed B.named
  have hlocks := B.notSynchronized
  have hS : va_S (fun q => b0 ≤ q) s.heap s.heap [] := va_S.rf
  have hinJx4a65c : ∀ w ∈ wsJx4a65c0, w ∈ wsJx4a65c_add_9ea2d := by decide +kernel
  have hA : ∀ q, s.heap.size ≤ q → (fun q => b0 ≤ q) q := fun q h => Nat.le_trans hb0 h
  have hl := lv_entry ([.ref (ad j), .ref a]) (n := 2) (Nat.le_of_ble_eq_true rfl)
  rw [lg_entry_eq]
  generalize (lg_sl ([.ref (ad j), .ref a]) ++ List.replicate (2 - (lg_sl ([.ref (ad j), .ref a])).length) Slot.unset).toArray = ls at hl ⊢
  have hl : lv_has ls 2 [(0, .ref (ad j)), (1, .ref a)] := hl
  refine lv_aload_n hx hb dJx4a65c_add_9ea2d_0 rfl (lv_at hl 0 rfl) ?_
  refine lv_dup hx hb dJx4a65c_add_9ea2d_1 rfl ?_
  refine pv_get (ci := 1) (C := RJx4a65c) (T := TJx4a65c) (N := 3) hx hb hts hinJx4a65c hown hK (va_Pl hP) hj ej rfl 0 (by decide) (hts (.fieldLink RJx4a65c 63 "java/util/ArrayList" "modCount" "I") (by decide +kernel)) (fun x9 h9 => u_same (hts (.sameField "java/util/ArrayList" "java/util/AbstractList" "modCount" "I") (by decide +kernel)) x9 h9) rfl dJx4a65c_add_9ea2d_2 ?_
  refine lv_iconst (v := 1) hx hb dJx4a65c_add_9ea2d_5 (by decide) ?_
  refine lv_iadd hx hb dJx4a65c_add_9ea2d_6 ?_
  refine px_put (ci := 1) (v := .int (mc + 1)) (ty := .int) (C := RJx4a65c) (T := TJx4a65c) (N := 3) hx hb hts hinJx4a65c tyJx4a65c tyJx4a65c_ok nmJx4a65c hown hK hP hD hS hj ej rfl 0 (by decide) (hts (.fieldLink RJx4a65c 63 "java/util/ArrayList" "modCount" "I") (by decide +kernel)) (fun x9 h9 => u_same (hts (.sameField "java/util/ArrayList" "java/util/AbstractList" "modCount" "I") (by decide +kernel)) x9 h9) rfl (by decide +kernel) rfl rfl (Nat.le_of_ble_eq_true rfl) dJx4a65c_add_9ea2d_7 (fun H locs hP hD hS => ?_)
  obtain ⟨G_7, eG_7⟩ : ∃ gg9 : Nat → va_E, gg9 = va_up G j (.inr (1, [.int (mc + 1), .ref (ad (j + 1)), .int (nI n)])) := ⟨_, rfl⟩
  have hP : va_P D vwCl (wl Ls ad G_7 ++ X) H := by rw [eG_7]; exact hP
  have hD : va_D (fun q => b0 ≤ q) (wl Ls ad G_7 ++ X) := by rw [eG_7]; exact hD
  have er : G_7 (j + 1) = .inl (y 3, n0, .inr (.inr (.inr (.inr f)))) := by rw [eG_7, va_up_ne _ _ (by omega)]; exact er
  have ej : G_7 j = .inr (1, [.int (mc + 1), .ref (ad (j + 1)), .int (nI n)]) := by rw [eG_7]; exact va_up_self _ _ _
  refine lv_aload_n hx hb dJx4a65c_add_9ea2d_10 rfl (lv_at hl 0 rfl) ?_
  refine lv_aload_n hx hb dJx4a65c_add_9ea2d_11 rfl (lv_at hl 1 rfl) ?_
  refine lv_aload_n hx hb dJx4a65c_add_9ea2d_12 rfl (lv_at hl 0 rfl) ?_
  refine pv_get (ci := 1) (C := RJx4a65c) (T := TJx4a65c) (N := 3) hx hb hts hinJx4a65c hown hK (va_Pl hP) hj ej rfl 1 (by decide) (hts (.fieldLink RJx4a65c 9 "java/util/ArrayList" "elementData" "[Ljava/lang/Object;") (by decide +kernel)) (fun _ h9 => h9) rfl dJx4a65c_add_9ea2d_13 ?_
  refine lv_aload_n hx hb dJx4a65c_add_9ea2d_16 rfl (lv_at hl 0 rfl) ?_
  refine pv_get (ci := 1) (C := RJx4a65c) (T := TJx4a65c) (N := 3) hx hb hts hinJx4a65c hown hK (va_Pl hP) hj ej rfl 2 (by decide) (hts (.fieldLink RJx4a65c 48 "java/util/ArrayList" "size" "I") (by decide +kernel)) (fun _ h9 => h9) rfl dJx4a65c_add_9ea2d_17 ?_
  refine va_callv (va_runV (As := [.ref a, .ref (ad (j + 1)), .int (nI n)]) (rest := []) ⟨hx, hb, hml, hown, hts⟩ (c_Jx4a65c_add_72be8_N l hl0 D y b0 df mi Ls ad G_7 X j (mc + 1) hj n n0 f ci rc hci hca0 ej hr9 er hnn hm a fs hX0e) (cwV 3 hts gJx4a65c_add_9ea2d_Jx4a65c_add_72be8 rfl rfl rfl (by decide +kernel) ⟨(Nat.le_of_ble_eq_true rfl), (Nat.le_of_ble_eq_true rfl)⟩) ⟨WdL_blind, Wd_recv hK (va_Pl hP) (ci := 1) rfl hj ej, WdL_at hP hK hN hD hS hb0 hT hLP⟩ rfl rfl hl.1 rfl (lv_room (Nat.le_of_ble_eq_true rfl)) dJx4a65c_add_9ea2d_20 ⟨(Nat.le_of_ble_eq_true rfl), (Nat.le_of_ble_eq_true rfl)⟩) hS (fun _ _ h => h) (fun _ h => h) (fun u20 t H locs ht hvm hw20 hB hz1 hk1 hS => ?_)
  obtain ⟨hP, hD⟩ := hB
  rw [ht] at hP
  refine lv_iconst (v := 1) hx hb dJx4a65c_add_9ea2d_23 (by decide) ?_
  refine W.widen (k := 1) (n := 1000) (Nat.le_of_ble_eq_true rfl) (Nat.le_of_ble_eq_true rfl) ?_
  exact W.zret (v := 1) hx hb hr (by first | rfl | decide | (simp [narrow]; done) | assumption) (fun t ht hW => ⟨⟨1, u20, rfl, ⟨rfl, mc + 1, ad (j + 1), _, X, n0, va_up f n (some a), hw20, va_up_self _ _ _, fun k h1 h2 => by rw [va_up_ne _ _ h1, va_up_ne _ _ h2, eG_7, va_up_ne _ _ h1], ⟨by omega, hm, fun i h => by rw [va_up_ne _ _ (by omega)]; exact hfe i h, va_up_self _ _ _⟩, Or.inl ⟨rfl, rfl, hr9, by rw [va_up_ne _ _ (by omega)]; exact va_up_self _ _ _⟩⟩, by rw [ht]; exact hP, hD⟩, hS.F ht⟩) hS.2.2 dJx4a65c_add_9ea2d_24

set_option maxHeartbeats 4000000 in
set_option maxRecDepth 100000 in
/-- ArrayList.add -/
theorem c_Jx4a65c_add_9ea2d_A (l : Launch) (hl0 : l.stackTraces = false) (D : va_G) (y : Nat → ClassId) (b0 df mi : Nat) (Ls : List Nat) (ad : Nat → Nat) (G : Nat → va_E) (X : va_W) (j : Nat) (mc : Int32) (hj : j ∈ Ls) (n0 : Nat) (f : Nat → Option Nat) (ci : Nat) (rc : vw_C) (hci : vwCl[ci]? = some rc) (hca0 : Cond.castable rc.1 "java/lang/Object" ∈ castO) (ej : G j = .inr (1, [.int mc, .ref (ad (j + 1)), .int (nI n0)])) (hr9 : j + 1 ∈ Ls) (er : G (j + 1) = .inl (y 3, n0, .inr (.inr (.inr (.inr f))))) (hn1 : 0 < n0) (hm : n0 ≤ 600) (hel : ∀ i, i < n0 → ∀ a, f i = some a → ∃ k fs, k ∈ Ls ∧ a = ad k ∧ G k = .inr (ci, fs)) (a : Nat) (fs : List Value) (hX0e : X[0]? = some (a, .inr (ci, fs))) (el : Nat → Nat) (hfe : ∀ i, i < n0 → f i = some (el i)) (hj9 : G j = .inr (1, [.int mc, .ref (ad (j + 1)), .int (nI n0)])) (hci9 : ¬ vwCl[1]? = some rc) : Met l yJx4a65c_add_9ea2d wsJx4a65c_add_9ea2d ({ frames := 6, cells := 1, slots := 1000, locals := 170 }) (va_Pc [.ref (ad j), .ref a] (WdL D y b0 df mi (wl Ls ad G ++ X))) (va_Qi (fun (r : Int32) (u : va_W) => r = 1 ∧ AddR y Ls ad G X j n0 el a u) (WB D b0) (fun q => b0 ≤ q)) 1 1000 (fun q => b0 ≤ q) := by
  refine Met.ofW (cc := cJx4a65c_add_9ea2d) (maxL := 2) (ret := (some .boolean)) (by decide) rfl ?_
  intro p e s m args below meth c s₁ B hml hv
  obtain ⟨rfl, ⟨⟨hP, hK, hN⟩, hD, hb0, hT⟩, hLP⟩ := hv
  have hx := B.exec
  have hb := B.bytes
  have hr := B.returns
  have hts := atoms_spec (ws := wsJx4a65c_add_9ea2d) B.pre
  have hown : s.vm.findClass RJx4a65c = some m.cls := findClass_of_methodNamed B.named
  have hlocks := B.notSynchronized
  have hS : va_S (fun q => b0 ≤ q) s.heap s.heap [] := va_S.rf
  have hinJx4a65c : ∀ w ∈ wsJx4a65c0, w ∈ wsJx4a65c_add_9ea2d := by decide +kernel
  have hA : ∀ q, s.heap.size ≤ q → (fun q => b0 ≤ q) q := fun q h => Nat.le_trans hb0 h
  have hl := lv_entry ([.ref (ad j), .ref a]) (n := 2) (Nat.le_of_ble_eq_true rfl)
  rw [lg_entry_eq]
  generalize (lg_sl ([.ref (ad j), .ref a]) ++ List.replicate (2 - (lg_sl ([.ref (ad j), .ref a])).length) Slot.unset).toArray = ls at hl ⊢
  have hl : lv_has ls 2 [(0, .ref (ad j)), (1, .ref a)] := hl
  refine lv_aload_n hx hb dJx4a65c_add_9ea2d_0 rfl (lv_at hl 0 rfl) ?_
  refine lv_dup hx hb dJx4a65c_add_9ea2d_1 rfl ?_
  refine pv_get (ci := 1) (C := RJx4a65c) (T := TJx4a65c) (N := 3) hx hb hts hinJx4a65c hown hK (va_Pl hP) hj ej rfl 0 (by decide) (hts (.fieldLink RJx4a65c 63 "java/util/ArrayList" "modCount" "I") (by decide +kernel)) (fun x9 h9 => u_same (hts (.sameField "java/util/ArrayList" "java/util/AbstractList" "modCount" "I") (by decide +kernel)) x9 h9) rfl dJx4a65c_add_9ea2d_2 ?_
  refine lv_iconst (v := 1) hx hb dJx4a65c_add_9ea2d_5 (by decide) ?_
  refine lv_iadd hx hb dJx4a65c_add_9ea2d_6 ?_
  refine px_put (ci := 1) (v := .int (mc + 1)) (ty := .int) (C := RJx4a65c) (T := TJx4a65c) (N := 3) hx hb hts hinJx4a65c tyJx4a65c tyJx4a65c_ok nmJx4a65c hown hK hP hD hS hj ej rfl 0 (by decide) (hts (.fieldLink RJx4a65c 63 "java/util/ArrayList" "modCount" "I") (by decide +kernel)) (fun x9 h9 => u_same (hts (.sameField "java/util/ArrayList" "java/util/AbstractList" "modCount" "I") (by decide +kernel)) x9 h9) rfl (by decide +kernel) rfl rfl (Nat.le_of_ble_eq_true rfl) dJx4a65c_add_9ea2d_7 (fun H locs hP hD hS => ?_)
  obtain ⟨G_7, eG_7⟩ : ∃ gg9 : Nat → va_E, gg9 = va_up G j (.inr (1, [.int (mc + 1), .ref (ad (j + 1)), .int (nI n0)])) := ⟨_, rfl⟩
  have hP : va_P D vwCl (wl Ls ad G_7 ++ X) H := by rw [eG_7]; exact hP
  have hD : va_D (fun q => b0 ≤ q) (wl Ls ad G_7 ++ X) := by rw [eG_7]; exact hD
  have er : G_7 (j + 1) = .inl (y 3, n0, .inr (.inr (.inr (.inr f)))) := by rw [eG_7, va_up_ne _ _ (by omega)]; exact er
  have ej : G_7 j = .inr (1, [.int (mc + 1), .ref (ad (j + 1)), .int (nI n0)]) := by rw [eG_7]; exact va_up_self _ _ _
  have hel7 : ∀ i, i < n0 → ∀ a, f i = some a → ∃ k fs, k ∈ Ls ∧ a = ad k ∧ G_7 k = .inr (ci, fs) := fun i h a9 h2 => by
    obtain ⟨k, fs9, m1, m2, m3⟩ := hel i h a9 h2
    exact ⟨k, fs9, m1, m2, by rw [eG_7, va_up_ne _ _ (fun e9 => by rw [e9, hj9] at m3; cases m3; exact absurd hci hci9)]; exact m3⟩
  refine lv_aload_n hx hb dJx4a65c_add_9ea2d_10 rfl (lv_at hl 0 rfl) ?_
  refine lv_aload_n hx hb dJx4a65c_add_9ea2d_11 rfl (lv_at hl 1 rfl) ?_
  refine lv_aload_n hx hb dJx4a65c_add_9ea2d_12 rfl (lv_at hl 0 rfl) ?_
  refine pv_get (ci := 1) (C := RJx4a65c) (T := TJx4a65c) (N := 3) hx hb hts hinJx4a65c hown hK (va_Pl hP) hj ej rfl 1 (by decide) (hts (.fieldLink RJx4a65c 9 "java/util/ArrayList" "elementData" "[Ljava/lang/Object;") (by decide +kernel)) (fun _ h9 => h9) rfl dJx4a65c_add_9ea2d_13 ?_
  refine lv_aload_n hx hb dJx4a65c_add_9ea2d_16 rfl (lv_at hl 0 rfl) ?_
  refine pv_get (ci := 1) (C := RJx4a65c) (T := TJx4a65c) (N := 3) hx hb hts hinJx4a65c hown hK (va_Pl hP) hj ej rfl 2 (by decide) (hts (.fieldLink RJx4a65c 48 "java/util/ArrayList" "size" "I") (by decide +kernel)) (fun _ h9 => h9) rfl dJx4a65c_add_9ea2d_17 ?_
  refine va_callv (va_runV (As := [.ref a, .ref (ad (j + 1)), .int (nI n0)]) (rest := []) ⟨hx, hb, hml, hown, hts⟩ (c_Jx4a65c_add_72be8_A l hl0 D y b0 df mi Ls ad G_7 X j (mc + 1) hj n0 f ci rc hci hca0 ej hr9 er hn1 hm hel7 a fs hX0e) (cwV 3 hts gJx4a65c_add_9ea2d_Jx4a65c_add_72be8 rfl rfl rfl (by decide +kernel) ⟨(Nat.le_of_ble_eq_true rfl), (Nat.le_of_ble_eq_true rfl)⟩) ⟨WdL_blind, Wd_recv hK (va_Pl hP) (ci := 1) rfl hj ej, WdL_at hP hK hN hD hS hb0 hT hLP⟩ rfl rfl hl.1 rfl (lv_room (Nat.le_of_ble_eq_true rfl)) dJx4a65c_add_9ea2d_20 ⟨(Nat.le_of_ble_eq_true rfl), (Nat.le_of_ble_eq_true rfl)⟩) hS (fun _ _ h => h) (fun _ h => h) (fun u20 t H locs ht hvm hw20 hB hz1 hk1 hS => ?_)
  obtain ⟨hP, hD⟩ := hB
  rw [ht] at hP
  obtain ⟨q9, hw20⟩ := hw20
  refine lv_iconst (v := 1) hx hb dJx4a65c_add_9ea2d_23 (by decide) ?_
  refine W.widen (k := 1) (n := 1000) (Nat.le_of_ble_eq_true rfl) (Nat.le_of_ble_eq_true rfl) ?_
  exact W.zret (v := 1) hx hb hr (by first | rfl | decide | (simp [narrow]; done) | assumption) (fun t ht hW => ⟨⟨1, u20, rfl, ⟨rfl, mc + 1, q9, _, _, (n0 + max 1 (n0 / 2)), va_up (va_cpy f (fun _ => none) 0 0 n0) n0 (some a), hw20, va_up_self _ _ _, fun k h1 h2 => by rw [va_up_ne _ _ h1, va_up_ne _ _ h1, eG_7, va_up_ne _ _ h1], ⟨by omega, by omega, fun i h => by rw [va_up_ne _ _ (by omega), pk_cpy_in (Nat.zero_le _) (by omega), Nat.zero_add, Nat.sub_zero]; exact hfe i h, va_up_self _ _ _⟩, Or.inr rfl⟩, by rw [ht]; exact hP, hD⟩, hS.F ht⟩) hS.2.2 dJx4a65c_add_9ea2d_24

set_option maxHeartbeats 4000000 in
set_option maxRecDepth 100000 in
/-- ArrayList.add -/
theorem c_Jx4a65c_add_9ea2d_B (l : Launch) (hl0 : l.stackTraces = false) (D : va_G) (y : Nat → ClassId) (b0 df mi : Nat) (Ls : List Nat) (ad : Nat → Nat) (G : Nat → va_E) (X : va_W) (j : Nat) (mc : Int32) (hj : j ∈ Ls) (ci : Nat) (rc : vw_C) (hci : vwCl[ci]? = some rc) (hca0 : Cond.castable rc.1 "java/lang/Object" ∈ castO) (ej : G j = .inr (1, [.int mc, .ref df, .int (nI 0)])) (a : Nat) (fs : List Value) (hX0e : X[0]? = some (a, .inr (ci, fs))) (el : Nat → Nat) : Met l yJx4a65c_add_9ea2d wsJx4a65c_add_9ea2d ({ frames := 6, cells := 1, slots := 1000, locals := 170 }) (va_Pc [.ref (ad j), .ref a] (WdL D y b0 df mi (wl Ls ad G ++ X))) (va_Qi (fun (r : Int32) (u : va_W) => r = 1 ∧ AddR y Ls ad G X j 0 el a u) (WB D b0) (fun q => b0 ≤ q)) 1 1000 (fun q => b0 ≤ q) := by
  refine Met.ofW (cc := cJx4a65c_add_9ea2d) (maxL := 2) (ret := (some .boolean)) (by decide) rfl ?_
  intro p e s m args below meth c s₁ B hml hv
  obtain ⟨rfl, ⟨⟨hP, hK, hN⟩, hD, hb0, hT⟩, hLP⟩ := hv
  have hx := B.exec
  have hb := B.bytes
  have hr := B.returns
  have hts := atoms_spec (ws := wsJx4a65c_add_9ea2d) B.pre
  have hown : s.vm.findClass RJx4a65c = some m.cls := findClass_of_methodNamed B.named
  have hlocks := B.notSynchronized
  have hS : va_S (fun q => b0 ≤ q) s.heap s.heap [] := va_S.rf
  have hinJx4a65c : ∀ w ∈ wsJx4a65c0, w ∈ wsJx4a65c_add_9ea2d := by decide +kernel
  have hA : ∀ q, s.heap.size ≤ q → (fun q => b0 ≤ q) q := fun q h => Nat.le_trans hb0 h
  have hl := lv_entry ([.ref (ad j), .ref a]) (n := 2) (Nat.le_of_ble_eq_true rfl)
  rw [lg_entry_eq]
  generalize (lg_sl ([.ref (ad j), .ref a]) ++ List.replicate (2 - (lg_sl ([.ref (ad j), .ref a])).length) Slot.unset).toArray = ls at hl ⊢
  have hl : lv_has ls 2 [(0, .ref (ad j)), (1, .ref a)] := hl
  refine lv_aload_n hx hb dJx4a65c_add_9ea2d_0 rfl (lv_at hl 0 rfl) ?_
  refine lv_dup hx hb dJx4a65c_add_9ea2d_1 rfl ?_
  refine pv_get (ci := 1) (C := RJx4a65c) (T := TJx4a65c) (N := 3) hx hb hts hinJx4a65c hown hK (va_Pl hP) hj ej rfl 0 (by decide) (hts (.fieldLink RJx4a65c 63 "java/util/ArrayList" "modCount" "I") (by decide +kernel)) (fun x9 h9 => u_same (hts (.sameField "java/util/ArrayList" "java/util/AbstractList" "modCount" "I") (by decide +kernel)) x9 h9) rfl dJx4a65c_add_9ea2d_2 ?_
  refine lv_iconst (v := 1) hx hb dJx4a65c_add_9ea2d_5 (by decide) ?_
  refine lv_iadd hx hb dJx4a65c_add_9ea2d_6 ?_
  refine px_put (ci := 1) (v := .int (mc + 1)) (ty := .int) (C := RJx4a65c) (T := TJx4a65c) (N := 3) hx hb hts hinJx4a65c tyJx4a65c tyJx4a65c_ok nmJx4a65c hown hK hP hD hS hj ej rfl 0 (by decide) (hts (.fieldLink RJx4a65c 63 "java/util/ArrayList" "modCount" "I") (by decide +kernel)) (fun x9 h9 => u_same (hts (.sameField "java/util/ArrayList" "java/util/AbstractList" "modCount" "I") (by decide +kernel)) x9 h9) rfl (by decide +kernel) rfl rfl (Nat.le_of_ble_eq_true rfl) dJx4a65c_add_9ea2d_7 (fun H locs hP hD hS => ?_)
  obtain ⟨G_7, eG_7⟩ : ∃ gg9 : Nat → va_E, gg9 = va_up G j (.inr (1, [.int (mc + 1), .ref df, .int (nI 0)])) := ⟨_, rfl⟩
  have hP : va_P D vwCl (wl Ls ad G_7 ++ X) H := by rw [eG_7]; exact hP
  have hD : va_D (fun q => b0 ≤ q) (wl Ls ad G_7 ++ X) := by rw [eG_7]; exact hD
  have ej : G_7 j = .inr (1, [.int (mc + 1), .ref df, .int (nI 0)]) := by rw [eG_7]; exact va_up_self _ _ _
  refine lv_aload_n hx hb dJx4a65c_add_9ea2d_10 rfl (lv_at hl 0 rfl) ?_
  refine lv_aload_n hx hb dJx4a65c_add_9ea2d_11 rfl (lv_at hl 1 rfl) ?_
  refine lv_aload_n hx hb dJx4a65c_add_9ea2d_12 rfl (lv_at hl 0 rfl) ?_
  refine pv_get (ci := 1) (C := RJx4a65c) (T := TJx4a65c) (N := 3) hx hb hts hinJx4a65c hown hK (va_Pl hP) hj ej rfl 1 (by decide) (hts (.fieldLink RJx4a65c 9 "java/util/ArrayList" "elementData" "[Ljava/lang/Object;") (by decide +kernel)) (fun _ h9 => h9) rfl dJx4a65c_add_9ea2d_13 ?_
  refine lv_aload_n hx hb dJx4a65c_add_9ea2d_16 rfl (lv_at hl 0 rfl) ?_
  refine pv_get (ci := 1) (C := RJx4a65c) (T := TJx4a65c) (N := 3) hx hb hts hinJx4a65c hown hK (va_Pl hP) hj ej rfl 2 (by decide) (hts (.fieldLink RJx4a65c 48 "java/util/ArrayList" "size" "I") (by decide +kernel)) (fun _ h9 => h9) rfl dJx4a65c_add_9ea2d_17 ?_
  refine va_callv (va_runV (As := [.ref a, .ref df, .int (nI 0)]) (rest := []) ⟨hx, hb, hml, hown, hts⟩ (c_Jx4a65c_add_72be8_B l hl0 D y b0 df mi Ls ad G_7 X j (mc + 1) hj ci rc hci hca0 ej a fs hX0e) (cwV 3 hts gJx4a65c_add_9ea2d_Jx4a65c_add_72be8 rfl rfl rfl (by decide +kernel) ⟨(Nat.le_of_ble_eq_true rfl), (Nat.le_of_ble_eq_true rfl)⟩) ⟨WdL_blind, Wd_recv hK (va_Pl hP) (ci := 1) rfl hj ej, WdL_at hP hK hN hD hS hb0 hT hLP⟩ rfl rfl hl.1 rfl (lv_room (Nat.le_of_ble_eq_true rfl)) dJx4a65c_add_9ea2d_20 ⟨(Nat.le_of_ble_eq_true rfl), (Nat.le_of_ble_eq_true rfl)⟩) hS (fun _ _ h => h) (fun _ h => h) (fun u20 t H locs ht hvm hw20 hB hz1 hk1 hS => ?_)
  obtain ⟨hP, hD⟩ := hB
  rw [ht] at hP
  obtain ⟨q9, hw20⟩ := hw20
  refine lv_iconst (v := 1) hx hb dJx4a65c_add_9ea2d_23 (by decide) ?_
  refine W.widen (k := 1) (n := 1000) (Nat.le_of_ble_eq_true rfl) (Nat.le_of_ble_eq_true rfl) ?_
  exact W.zret (v := 1) hx hb hr (by first | rfl | decide | (simp [narrow]; done) | assumption) (fun t ht hW => ⟨⟨1, u20, rfl, ⟨rfl, mc + 1, q9, _, _, 10, va_up (fun _ => none) 0 (some a), hw20, va_up_self _ _ _, fun k h1 h2 => by rw [va_up_ne _ _ h1, va_up_ne _ _ h1, eG_7, va_up_ne _ _ h1], ⟨by omega, by omega, fun i h => absurd h (Nat.not_lt_zero i), va_up_self _ _ _⟩, Or.inr rfl⟩, by rw [ht]; exact hP, hD⟩, hS.F ht⟩) hS.2.2 dJx4a65c_add_9ea2d_24

/-- ArrayList.add, of any of our lists -/
theorem c_Jx4a65c_add_9ea2d (l : Launch) (hl0 : l.stackTraces = false) (D : va_G) (y : Nat → ClassId) (b0 df mi : Nat) (Ls : List Nat) (ad : Nat → Nat) (G : Nat → va_E) (X : va_W) (j n : Nat) (el : Nat → Nat) (hL : ListAt y Ls ad G j n el) (hE : n = 0 → ∃ mc, G j = .inr (1, [.int mc, .ref df, .int (nI 0)])) (hn6 : n ≤ 600) (ci : Nat) (rc : vw_C) (hci : vwCl[ci]? = some rc) (hci9 : ¬ vwCl[1]? = some rc) (hca0 : Cond.castable rc.1 "java/lang/Object" ∈ castO)
    (hel : ∀ i, i < n → ∃ k fs, k ∈ Ls ∧ el i = ad k ∧ G k = .inr (ci, fs)) (a : Nat) (fs : List Value) (hX0e : X[0]? = some (a, .inr (ci, fs))) :
    Met l yJx4a65c_add_9ea2d wsJx4a65c_add_9ea2d ({ frames := 6, cells := 1, slots := 1000, locals := 170 }) (va_Pc [.ref (ad j), .ref a] (WdL D y b0 df mi (wl Ls ad G ++ X))) (va_Qi (fun (r : Int32) (u : va_W) => r = 1 ∧ AddR y Ls ad G X j n el a u) (WB D b0) (fun q => b0 ≤ q)) 1 1000 (fun q => b0 ≤ q) := by
  by_cases h0 : n = 0
  · subst h0
    obtain ⟨mc, ej⟩ := hE rfl
    exact c_Jx4a65c_add_9ea2d_B l hl0 D y b0 df mi Ls ad G X j mc hL.choose_spec.choose_spec.1 ci rc hci hca0 ej a fs hX0e el
  · obtain ⟨mc, ea, hj, ej, hn, hrow⟩ := hL
    obtain ⟨hr9, rfl, cap, f, er, hnc, hcap, hfe⟩ := hrow (by omega)
    by_cases hlt : n < cap
    · exact c_Jx4a65c_add_9ea2d_N l hl0 D y b0 df mi Ls ad G X j mc hj n cap f ci rc hci hca0 ej hr9 er hlt hcap a fs hX0e el hfe
    · obtain rfl : n = cap := by omega
      exact c_Jx4a65c_add_9ea2d_A l hl0 D y b0 df mi Ls ad G X j mc hj n f ci rc hci hca0 ej hr9 er (by omega) hn6 (fun i hi a9 h2 => by
        obtain ⟨k, fs9, m1, m2, m3⟩ := hel i hi
        exact ⟨k, fs9, m1, (Option.some.inj ((hfe i hi).symm.trans h2)).symm.trans m2, m3⟩) a fs hX0e el hfe ej hci9
