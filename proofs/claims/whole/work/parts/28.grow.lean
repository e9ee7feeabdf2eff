/-! lists that grow -/
theorem wx_l {a b : va_W} {i : Nat} {q : Nat × va_E} (h : a[i]? = some q) : (a ++ b)[i]? = some q := by rw [List.getElem?_append_left (List.getElem?_eq_some_iff.mp h).1]; exact h

set_option maxHeartbeats 4000000 in
set_option maxRecDepth 100000 in
/-- ArraysSupport.newLength -/
theorem c_J8_newLength_cabcc (l : Launch) (a b c0 : Nat) (h0 : a + max b c0 < 2 ^ 30) (h1 : 0 < a + max b c0) : Met l yJ8_newLength_cabcc wsJ8_newLength_cabcc ({ frames := 1, cells := 0, slots := 0, locals := 14 }) (va_Pc [.int (nI a), .int (nI b), .int (nI c0)] (fun _ => True)) (vp_Si (fun r => r = nI (a + max b c0))) 0 0 (fun _ => False) := by
  refine Met.ofW (cc := cJ8_newLength_cabcc) (maxL := 4) (ret := (some .int)) (by decide) rfl ?_
  intro p e s m args below meth c s₁ B hml hv
  obtain ⟨rfl, -⟩ := hv
  have hx := B.exec
  have hb := B.bytes
  have hr := B.returns
  have hts := atoms_spec (ws := wsJ8_newLength_cabcc) B.pre
  have hown : s.vm.findClass RJ8 = some m.cls := findClass_of_methodNamed B.named
  have hlocks := B.notSynchronized
  have hl := lv_entry ([.int (nI a), .int (nI b), .int (nI c0)]) (n := 4) (Nat.le_of_ble_eq_true rfl)
  rw [lg_entry_eq]
  generalize (lg_sl ([.int (nI a), .int (nI b), .int (nI c0)]) ++ List.replicate (4 - (lg_sl ([.int (nI a), .int (nI b), .int (nI c0)])).length) Slot.unset).toArray = ls at hl ⊢
  have hl : lv_has ls 4 [(0, .int (nI a)), (1, .int (nI b)), (2, .int (nI c0))] := hl
  refine lv_iload_n hx hb dJ8_newLength_cabcc_0 rfl (lv_at hl 0 rfl) ?_
  refine lv_iload_n hx hb dJ8_newLength_cabcc_1 rfl (lv_at hl 1 rfl) ?_
  refine lv_iload_n hx hb dJ8_newLength_cabcc_2 rfl (lv_at hl 2 rfl) ?_
  refine va_mmax hx hb (hml.trans hl.1.symm) hown (hts (.methodLink RJ8 194 Lib.Math.max.name) (by decide +kernel)) (hts (.static Lib.Math.max.name) (by decide +kernel)) (hts (.initialized "java/lang/Math") (by decide +kernel)) (hts (.code Lib.Math.max.name Lib.Math.max.code 2 (some .int)) (by decide +kernel)) (Nat.le_of_ble_eq_true rfl) (Nat.le_of_ble_eq_true rfl) (Nat.zero_le _) (Nat.zero_le _) dJ8_newLength_cabcc_3 ?_
  refine lv_iadd hx hb dJ8_newLength_cabcc_6 ?_
  refine lv_topi (fun z9 ez9 => ?_)
  obtain rfl : z9 = nI (a + max b c0) := ez9.trans (by rw [mx_nI (by omega) (by omega), nI_add])
  refine lv_istore_n (lv' := [(3, .int (nI (a + max b c0))), (0, .int (nI a)), (1, .int (nI b)), (2, .int (nI c0))]) hx hb dJ8_newLength_cabcc_7 rfl hl (by decide) rfl (fun ls hl => ?_)
  refine lv_iconst (v := 0) hx hb dJ8_newLength_cabcc_8 (by decide) ?_
  refine lv_iload_n hx hb dJ8_newLength_cabcc_9 rfl (lv_at hl 0 rfl) ?_
  refine lv_icmp_ge (tgt := 21) hx hb dJ8_newLength_cabcc_10 (by decide) (fun c_10 => ?_) (fun c_10 => ?_)
  · exact absurd c_10 (nI_nle h1 (by omega))
  · refine lv_iload_n hx hb dJ8_newLength_cabcc_13 rfl (lv_at hl 0 rfl) ?_
    refine lv_ldc (v := 2147483639) hx hb hown (hts (.constant RJ8 200 (2147483639)) (by decide +kernel)) dJ8_newLength_cabcc_14 ?_
    refine lv_icmp_gt (tgt := 21) hx hb dJ8_newLength_cabcc_16 (by decide) (fun c_16 => ?_) (fun c_16 => ?_)
    · exact absurd c_16 (by rw [show (2147483639 : Int32) = nI 2147483639 from rfl]; exact nI_nlt (by omega) (by omega))
    · refine lv_iload_n hx hb dJ8_newLength_cabcc_19 rfl (lv_at hl 0 rfl) ?_
      exact W.iret (v := nI (a + max b c0)) hx hb hr (fun t ht hW => ⟨nI (a + max b c0), rfl, rfl, ht⟩) (fun q h => by cases h) dJ8_newLength_cabcc_20

set_option maxHeartbeats 4000000 in
set_option maxRecDepth 100000 in
/-- Arrays.copyOf of three -/
theorem c_J7_copyOf_6403c (l : Launch) (hl0 : l.stackTraces = false) (D : va_G) (y : Nat → ClassId) (b0 df mi : Nat) (Ls : List Nat) (ad : Nat → Nat) (G : Nat → va_E) (X : va_W) (rw n0 m1 : Nat) (f : Nat → Option Nat) (ci : Nat) (rc : vw_C) (hci : vwCl[ci]? = some rc) (hca0 : Cond.castable rc.1 "java/lang/Object" ∈ castO) (hr9 : rw ∈ Ls) (er : G rw = .inl (y 3, n0, .inr (.inr (.inr (.inr f))))) (hn0 : n0 ≤ m1) (hm : m1 ≤ 1000) (hel : ∀ i, i < n0 → ∀ a, f i = some a → ∃ k fs, k ∈ Ls ∧ a = ad k ∧ G k = .inr (ci, fs)) : Met l yJ7_copyOf_6403c wsJ7_copyOf_6403c ({ frames := 1, cells := 1, slots := 1000, locals := 60 }) (va_Pc [.ref (ad rw), .int (nI m1), .ref mi] (WdL D y b0 df mi (wl Ls ad G ++ X))) (va_Qr (fun _ : va_W => True) (fun (u : va_W) (r : Nat) (t : State) => (u = wl Ls ad G ++ (X ++ [(r, .inl (y 3, m1, .inr (.inr (.inr (.inr (va_cpy f (fun _ => none) 0 0 n0))))))])) ∧ WB D b0 u t) (fun q => b0 ≤ q)) 1 1000 (fun q => b0 ≤ q) := by
  refine Met.ofW (cc := cJ7_copyOf_6403c) (maxL := 4) (ret := (some (.array (.object "java/lang/Object")))) (by decide) rfl ?_
  intro p e s m args below meth c s₁ B hml hv
  obtain ⟨rfl, ⟨⟨hP, hK, hN⟩, hD, hb0, hT⟩, hLP⟩ := hv
  have hx := B.exec
  have hb := B.bytes
  have hr := B.returns
  have hts := atoms_spec (ws := wsJ7_copyOf_6403c) B.pre
  have hown : s.vm.findClass RJ7 = some m.cls := findClass_of_methodNamed B.named
  have hlocks := B.notSynchronized
  have hS : va_S (fun q => b0 ≤ q) s.heap s.heap [] := va_S.rf
  have hA : ∀ q, s.heap.size ≤ q → (fun q => b0 ≤ q) q := fun q h => Nat.le_trans hb0 h
  have hl := lv_entry ([.ref (ad rw), .int (nI m1), .ref mi]) (n := 4) (Nat.le_of_ble_eq_true rfl)
  rw [lg_entry_eq]
  generalize (lg_sl ([.ref (ad rw), .int (nI m1), .ref mi]) ++ List.replicate (4 - (lg_sl ([.ref (ad rw), .int (nI m1), .ref mi])).length) Slot.unset).toArray = ls at hl ⊢
  have hl : lv_has ls 4 [(0, .ref (ad rw)), (1, .int (nI m1)), (2, .ref mi)] := hl
  refine lv_aload_n hx hb dJ7_copyOf_6403c_0 rfl (lv_at hl 2 rfl) ?_
  refine va_ldcM hx hb hown (hts (.classLink RJ7 110 "[Ljava/lang/Object;") (by decide +kernel)) hLP.2.2.2.2.1 dJ7_copyOf_6403c_1 ?_
  refine lv_acmp_ne (rx := some mi) (ry := some mi) (tgt := 13) hx hb dJ7_copyOf_6403c_3 (by decide) (fun c9 => absurd rfl c9) (fun _ => ?_)
  refine lv_iload_n hx hb dJ7_copyOf_6403c_6 rfl (lv_at hl 1 rfl) ?_
  refine sx_newo (y := y) hx hb hown (hts (.classLink RJ7 2 "java/lang/Object") (by decide +kernel)) hLP.2.2.1 hK hP hD hS hA m1 (nI_pos (by omega)) (nI_clamp (by omega)) (by omega) (Nat.le_of_ble_eq_true rfl) (by show 0 + m1 ≤ 1000; omega) dJ7_copyOf_6403c_7 (fun q_7 H hP hD hS => ?_)
  refine W.widen (k := 1) (n := 1000) (Nat.le_of_ble_eq_true rfl) (by show 0 + m1 ≤ 1000; omega) ?_
  have hP : va_P D vwCl (wl Ls ad G ++ (X ++ [(q_7, .inl (y 3, m1, .inr (.inr (.inr (.inr (fun _ => none))))))])) H := hP
  have hD : va_D (fun q => b0 ≤ q) (wl Ls ad G ++ (X ++ [(q_7, .inl (y 3, m1, .inr (.inr (.inr (.inr (fun _ => none))))))])) := hD
  refine lv_goto (tgt := 24) hx hb dJ7_copyOf_6403c_10 (by decide) ?_
  refine lv_astore_n (lv' := [(3, .ref q_7), (0, .ref (ad rw)), (1, .int (nI m1)), (2, .ref mi)]) hx hb dJ7_copyOf_6403c_24 rfl hl (by decide) rfl (fun ls hl => ?_)
  refine lv_aload_n hx hb dJ7_copyOf_6403c_25 rfl (lv_at hl 1 rfl) ?_
  refine lv_iconst (v := 0) hx hb dJ7_copyOf_6403c_26 (by decide) ?_
  refine lv_aload_n hx hb dJ7_copyOf_6403c_27 rfl (lv_at hl 0 rfl) ?_
  refine lv_iconst (v := 0) hx hb dJ7_copyOf_6403c_28 (by decide) ?_
  refine lv_aload_n hx hb dJ7_copyOf_6403c_29 rfl (lv_at hl 1 rfl) ?_
  refine pv_alen (n := n0) hx hb hK (va_Pl hP) hr9 3 er rfl rfl dJ7_copyOf_6403c_30 ?_
  refine lv_iload_n hx hb dJ7_copyOf_6403c_31 rfl (lv_at hl 2 rfl) ?_
  refine va_mmin hx hb (hml.trans hl.1.symm) hown (hts (.methodLink RJ7 304 Lib.Math.min.name) (by decide +kernel)) (hts (.static Lib.Math.min.name) (by decide +kernel)) (hts (.initialized "java/lang/Math") (by decide +kernel)) (hts (.code Lib.Math.min.name Lib.Math.min.code 2 (some .int)) (by decide +kernel)) (Nat.le_of_ble_eq_true rfl) (Nat.le_of_ble_eq_true rfl) (Nat.le_of_ble_eq_true rfl) (Nat.le_of_ble_eq_true rfl) dJ7_copyOf_6403c_32 ?_
  refine lv_topi (fun z9 ez9 => ?_)
  obtain rfl : z9 = nI n0 := ez9.trans ((mn_nI (by omega) (by omega)).trans (by rw [Nat.min_eq_left hn0]))
  refine sx_copy (y := y) hx hb (hml.trans hl.1.symm) hown (hts (.methodLink RJ7 150 arraycopyName) (by decide +kernel)) (hts (.native arraycopyName) (by decide +kernel)) (hts (.static arraycopyName) (by decide +kernel)) (hts (.initialized "java/lang/System") (by decide +kernel)) hK hP hD hS (i9 := X.length + 0) hr9 er (wx_at rfl) (Nat.le_refl n0) hn0 (by omega) hel hci (hLP.2.2.2.2.2 _ hca0) (Nat.le_of_ble_eq_true rfl) (Nat.le_of_ble_eq_true rfl) dJ7_copyOf_6403c_35 (fun H locs hP hD hS => ?_)
  rw [wx_set] at hP hD
  have hP : va_P D vwCl (wl Ls ad G ++ (X ++ [(q_7, .inl (y 3, m1, .inr (.inr (.inr (.inr (va_cpy f (fun _ => none) 0 0 n0))))))])) H := hP
  have hD : va_D (fun q => b0 ≤ q) (wl Ls ad G ++ (X ++ [(q_7, .inl (y 3, m1, .inr (.inr (.inr (.inr (va_cpy f (fun _ => none) 0 0 n0))))))])) := hD
  refine lv_aload_n hx hb dJ7_copyOf_6403c_38 rfl (lv_at hl 0 rfl) ?_
  refine W.widen (k := 1) (n := 1000) (Nat.le_of_ble_eq_true rfl) (Nat.le_of_ble_eq_true rfl) ?_
  exact W.aret (v := .ref q_7) hx hb hr (by first | exact Or.inl ⟨_, rfl⟩ | exact Or.inr ⟨_, rfl⟩) (Or.inr ⟨_, rfl⟩) (fun t ht hW => ⟨⟨wl Ls ad G ++ (X ++ [(q_7, .inl (y 3, m1, .inr (.inr (.inr (.inr (va_cpy f (fun _ => none) 0 0 n0))))))]), q_7, rfl, trivial, rfl, by rw [ht]; exact hP, hD⟩, hS.F ht⟩) hS.2.2 dJ7_copyOf_6403c_39

set_option maxHeartbeats 4000000 in
set_option maxRecDepth 100000 in
/-- Arrays.copyOf -/
theorem c_J7_copyOf_1904c (l : Launch) (hl0 : l.stackTraces = false) (D : va_G) (y : Nat → ClassId) (b0 df mi : Nat) (Ls : List Nat) (ad : Nat → Nat) (G : Nat → va_E) (X : va_W) (rw n0 m1 : Nat) (f : Nat → Option Nat) (ci : Nat) (rc : vw_C) (hci : vwCl[ci]? = some rc) (hca0 : Cond.castable rc.1 "java/lang/Object" ∈ castO) (hr9 : rw ∈ Ls) (er : G rw = .inl (y 3, n0, .inr (.inr (.inr (.inr f))))) (hn0 : n0 ≤ m1) (hm : m1 ≤ 1000) (hel : ∀ i, i < n0 → ∀ a, f i = some a → ∃ k fs, k ∈ Ls ∧ a = ad k ∧ G k = .inr (ci, fs)) : Met l yJ7_copyOf_1904c wsJ7_copyOf_1904c ({ frames := 2, cells := 1, slots := 1000, locals := 83 }) (va_Pc [.ref (ad rw), .int (nI m1)] (WdL D y b0 df mi (wl Ls ad G ++ X))) (va_Qr (fun _ : va_W => True) (fun (u : va_W) (r : Nat) (t : State) => (u = wl Ls ad G ++ (X ++ [(r, .inl (y 3, m1, .inr (.inr (.inr (.inr (va_cpy f (fun _ => none) 0 0 n0))))))])) ∧ WB D b0 u t) (fun q => b0 ≤ q)) 1 1000 (fun q => b0 ≤ q) := by
  refine Met.ofW (cc := cJ7_copyOf_1904c) (maxL := 2) (ret := (some (.array (.object "java/lang/Object")))) (by decide) rfl ?_
  intro p e s m args below meth c s₁ B hml hv
  obtain ⟨rfl, ⟨⟨hP, hK, hN⟩, hD, hb0, hT⟩, hLP⟩ := hv
  have hx := B.exec
  have hb := B.bytes
  have hr := B.returns
  have hts := atoms_spec (ws := wsJ7_copyOf_1904c) B.pre
  have hown : s.vm.findClass RJ7 = some m.cls := findClass_of_methodNamed B.named
  have hlocks := B.notSynchronized
  have hS : va_S (fun q => b0 ≤ q) s.heap s.heap [] := va_S.rf
  have hA : ∀ q, s.heap.size ≤ q → (fun q => b0 ≤ q) q := fun q h => Nat.le_trans hb0 h
  have hl := lv_entry ([.ref (ad rw), .int (nI m1)]) (n := 2) (Nat.le_of_ble_eq_true rfl)
  rw [lg_entry_eq]
  generalize (lg_sl ([.ref (ad rw), .int (nI m1)]) ++ List.replicate (2 - (lg_sl ([.ref (ad rw), .int (nI m1)])).length) Slot.unset).toArray = ls at hl ⊢
  have hl : lv_has ls 2 [(0, .ref (ad rw)), (1, .int (nI m1))] := hl
  refine lv_aload_n hx hb dJ7_copyOf_1904c_0 rfl (lv_at hl 0 rfl) ?_
  refine lv_iload_n hx hb dJ7_copyOf_1904c_1 rfl (lv_at hl 1 rfl) ?_
  refine lv_aload_n hx hb dJ7_copyOf_1904c_2 rfl (lv_at hl 0 rfl) ?_
  refine va_getC (C := "[Ljava/lang/Object;") (mi := mi) hx hb (hml.trans hl.1.symm) hown (hts (.methodLink RJ7 86 ⟨"java/lang/Object", "getClass", "()Ljava/lang/Class;"⟩) (by decide +kernel)) (va_Dc.use hLP.2.2.2.1) (hts (.selects "[Ljava/lang/Object;" ⟨"java/lang/Object", "getClass", "()Ljava/lang/Class;"⟩ ⟨"java/lang/Object", "getClass", "()Ljava/lang/Class;"⟩) (by decide +kernel)) (hts (.instanceMethod ⟨"java/lang/Object", "getClass", "()Ljava/lang/Class;"⟩) (by decide +kernel)) (hts (.native ⟨"java/lang/Object", "getClass", "()Ljava/lang/Class;"⟩) (by decide +kernel)) hLP.2.2.2.2.1 (by obtain ⟨q0, -, hq⟩ := wl_getx (ad := ad) (G := G) (X := X) hr9; exact arr_recv hK hP (by rw [hq, er])) (Nat.le_of_ble_eq_true rfl) (Nat.le_of_ble_eq_true rfl) dJ7_copyOf_1904c_3 ?_
  refine va_callr (va_runS (As := [.ref (ad rw), .int (nI m1), .ref mi]) (rest := []) ⟨hx, hb, hml, hown, hts⟩ (c_J7_copyOf_6403c l hl0 D y b0 df mi Ls ad G X rw n0 m1 f ci rc hci hca0 hr9 er hn0 hm hel) (va_cwS 3 hts gJ7_copyOf_1904c_J7_copyOf_6403c rfl rfl rfl (by decide +kernel) ⟨(Nat.le_of_ble_eq_true rfl), (Nat.le_of_ble_eq_true rfl)⟩) ⟨WdL_blind, WdL_at hP hK hN hD hS hb0 hT hLP⟩ rfl rfl hl.1 rfl (lv_room (Nat.le_of_ble_eq_true rfl)) dJ7_copyOf_1904c_6 ⟨(Nat.le_of_ble_eq_true rfl), (Nat.le_of_ble_eq_true rfl)⟩) hS (fun _ _ h => h) (fun _ h => h) (fun u6 r_6 t H locs ht hvm hw6 hB hz1 hk1 hS => ?_)
  obtain ⟨hw6, hP, hD⟩ := hB
  rw [ht] at hP
  subst hw6
  refine W.widen (k := 1) (n := 1000) (Nat.le_of_ble_eq_true rfl) (Nat.le_of_ble_eq_true rfl) ?_
  exact W.aret (v := .ref r_6) hx hb hr (by first | exact Or.inl ⟨_, rfl⟩ | exact Or.inr ⟨_, rfl⟩) (Or.inr ⟨_, rfl⟩) (fun t ht hW => ⟨⟨wl Ls ad G ++ (X ++ [(r_6, .inl (y 3, m1, .inr (.inr (.inr (.inr (va_cpy f (fun _ => none) 0 0 n0))))))]), r_6, rfl, trivial, rfl, by rw [ht]; exact hP, hD⟩, hS.F ht⟩) hS.2.2 dJ7_copyOf_1904c_9

set_option maxHeartbeats 4000000 in
set_option maxRecDepth 100000 in
/-- ArrayList.grow of a full row -/
theorem c_Jx4a65c_grow_92f84_A (l : Launch) (hl0 : l.stackTraces = false) (D : va_G) (y : Nat → ClassId) (b0 df mi : Nat) (Ls : List Nat) (ad : Nat → Nat) (G : Nat → va_E) (X : va_W) (j : Nat) (mc : Int32) (hj : j ∈ Ls) (n0 : Nat) (f : Nat → Option Nat) (ci : Nat) (rc : vw_C) (hci : vwCl[ci]? = some rc) (hca0 : Cond.castable rc.1 "java/lang/Object" ∈ castO) (ej : G j = .inr (1, [.int mc, .ref (ad (j + 1)), .int (nI n0)])) (hr9 : j + 1 ∈ Ls) (er : G (j + 1) = .inl (y 3, n0, .inr (.inr (.inr (.inr f))))) (hn1 : 0 < n0) (hm : n0 ≤ 600) (hel : ∀ i, i < n0 → ∀ a, f i = some a → ∃ k fs, k ∈ Ls ∧ a = ad k ∧ G k = .inr (ci, fs)) : Met l yJx4a65c_grow_92f84 wsJx4a65c_grow_92f84 ({ frames := 3, cells := 1, slots := 1000, locals := 104 }) (va_Pc [.ref (ad j), .int (nI (n0 + 1))] (WdL D y b0 df mi (wl Ls ad G ++ X))) (va_Qr (fun _ : va_W => True) (fun (u : va_W) (r : Nat) (t : State) => (u = wl Ls ad (va_up G j (.inr (1, [.int mc, .ref r, .int (nI n0)]))) ++ (X ++ [(r, .inl (y 3, (n0 + max 1 (n0 / 2)), .inr (.inr (.inr (.inr (va_cpy f (fun _ => none) 0 0 n0))))))])) ∧ WB D b0 u t) (fun q => b0 ≤ q)) 1 1000 (fun q => b0 ≤ q) := by
  refine Met.ofW (cc := cJx4a65c_grow_92f84) (maxL := 4) (ret := (some (.array (.object "java/lang/Object")))) (by decide) rfl ?_
  intro p e s m args below meth c s₁ B hml hv
  obtain ⟨rfl, ⟨⟨hP, hK, hN⟩, hD, hb0, hT⟩, hLP⟩ := hv
  have hx := B.exec
  have hb := B.bytes
  have hr := B.returns
  have hts := atoms_spec (ws := wsJx4a65c_grow_92f84) B.pre
  have hown : s.vm.findClass RJx4a65c = some m.cls := findClass_of_methodNamed B.named
  have hlocks := B.notSynchronized
  have hS : va_S (fun q => b0 ≤ q) s.heap s.heap [] := va_S.rf
  have hinJx4a65c : ∀ w ∈ wsJx4a65c0, w ∈ wsJx4a65c_grow_92f84 := by decide +kernel
  have hA : ∀ q, s.heap.size ≤ q → (fun q => b0 ≤ q) q := fun q h => Nat.le_trans hb0 h
  have hl := lv_entry ([.ref (ad j), .int (nI (n0 + 1))]) (n := 4) (Nat.le_of_ble_eq_true rfl)
  rw [lg_entry_eq]
  generalize (lg_sl ([.ref (ad j), .int (nI (n0 + 1))]) ++ List.replicate (4 - (lg_sl ([.ref (ad j), .int (nI (n0 + 1))])).length) Slot.unset).toArray = ls at hl ⊢
  have hl : lv_has ls 4 [(0, .ref (ad j)), (1, .int (nI (n0 + 1)))] := hl
  refine lv_aload_n hx hb dJx4a65c_grow_92f84_0 rfl (lv_at hl 0 rfl) ?_
  refine pv_get (ci := 1) (C := RJx4a65c) (T := TJx4a65c) (N := 3) hx hb hts hinJx4a65c hown hK (va_Pl hP) hj ej rfl 1 (by decide) (hts (.fieldLink RJx4a65c 9 "java/util/ArrayList" "elementData" "[Ljava/lang/Object;") (by decide +kernel)) (fun _ h9 => h9) rfl dJx4a65c_grow_92f84_1 ?_
  refine pv_alen (n := n0) hx hb hK (va_Pl hP) hr9 3 er rfl rfl dJx4a65c_grow_92f84_4 ?_
  refine lv_istore_n (lv' := [(2, .int (nI n0)), (0, .ref (ad j)), (1, .int (nI (n0 + 1)))]) hx hb dJx4a65c_grow_92f84_5 rfl hl (by decide) rfl (fun ls hl => ?_)
  refine lv_iload_n hx hb dJx4a65c_grow_92f84_6 rfl (lv_at hl 0 rfl) ?_
  refine lv_if_gt (tgt := 20) hx hb dJx4a65c_grow_92f84_7 (by decide) (fun c_7 => ?_) (fun c_7 => ?_)
  · refine lv_iload_n hx hb dJx4a65c_grow_92f84_20 rfl (lv_at hl 0 rfl) ?_
    refine lv_iload_n hx hb dJx4a65c_grow_92f84_21 rfl (lv_at hl 2 rfl) ?_
    refine lv_iload_n hx hb dJx4a65c_grow_92f84_22 rfl (lv_at hl 0 rfl) ?_
    refine lv_isub hx hb dJx4a65c_grow_92f84_23 ?_
    refine lv_topi (fun z9 ez9 => ?_)
    obtain rfl : z9 = nI 1 := ez9.trans ((pk_sub (by omega)).trans (by congr 1; omega))
    refine lv_iload_n hx hb dJx4a65c_grow_92f84_24 rfl (lv_at hl 0 rfl) ?_
    refine lv_iconst (v := 1) hx hb dJx4a65c_grow_92f84_25 (by decide) ?_
    refine lv_ishr hx hb dJx4a65c_grow_92f84_26 ?_
    refine lv_topi (fun z9 ez9 => ?_)
    obtain rfl : z9 = nI (n0 / 2) := ez9.trans (pk_shrN (by omega) _ 1 (by decide))
    refine vp_callSi (va_Run.run (va_runS (As := [.int (nI n0), .int (nI 1), .int (nI (n0 / 2))]) (rest := []) ⟨hx, hb, hml, hown, hts⟩ (c_J8_newLength_cabcc l n0 1 (n0 / 2) (by omega) (by omega)) (va_cwS 3 hts gJx4a65c_grow_92f84_J8_newLength_cabcc rfl rfl rfl (by decide +kernel) ⟨Nat.le_of_ble_eq_true rfl, Nat.le_of_ble_eq_true rfl⟩) ⟨fun _ _ _ _ q => q, fun U hU hW => ⟨rfl, trivial⟩⟩ rfl rfl hl.1 rfl (lv_room (Nat.le_of_ble_eq_true rfl)) dJx4a65c_grow_92f84_27 ⟨(Nat.le_of_ble_eq_true rfl), (Nat.le_of_ble_eq_true rfl)⟩)) (fun r_27 hr_27 => ?_)
    subst hr_27
    refine lv_istore_n (lv' := [(3, .int (nI (n0 + max 1 (n0 / 2)))), (2, .int (nI n0)), (0, .ref (ad j)), (1, .int (nI (n0 + 1)))]) hx hb dJx4a65c_grow_92f84_30 rfl hl (by decide) rfl (fun ls hl => ?_)
    refine lv_aload_n hx hb dJx4a65c_grow_92f84_31 rfl (lv_at hl 2 rfl) ?_
    refine lv_aload_n hx hb dJx4a65c_grow_92f84_32 rfl (lv_at hl 2 rfl) ?_
    refine pv_get (ci := 1) (C := RJx4a65c) (T := TJx4a65c) (N := 3) hx hb hts hinJx4a65c hown hK (va_Pl hP) hj ej rfl 1 (by decide) (hts (.fieldLink RJx4a65c 9 "java/util/ArrayList" "elementData" "[Ljava/lang/Object;") (by decide +kernel)) (fun _ h9 => h9) rfl dJx4a65c_grow_92f84_33 ?_
    refine lv_iload_n hx hb dJx4a65c_grow_92f84_36 rfl (lv_at hl 0 rfl) ?_
    refine va_callr (va_runS (As := [.ref (ad (j + 1)), .int (nI (n0 + max 1 (n0 / 2)))]) (rest := [.ref (ad j)]) ⟨hx, hb, hml, hown, hts⟩ (c_J7_copyOf_1904c l hl0 D y b0 df mi Ls ad G X (j + 1) n0 (n0 + max 1 (n0 / 2)) f ci rc hci hca0 hr9 er (by omega) (by omega) hel) (va_cwS 2 hts gJx4a65c_grow_92f84_J7_copyOf_1904c rfl rfl rfl (by decide +kernel) ⟨(Nat.le_of_ble_eq_true rfl), (Nat.le_of_ble_eq_true rfl)⟩) ⟨WdL_blind, WdL_at hP hK hN hD hS hb0 hT hLP⟩ rfl rfl hl.1 rfl (lv_room (Nat.le_of_ble_eq_true rfl)) dJx4a65c_grow_92f84_37 ⟨(Nat.le_of_ble_eq_true rfl), (Nat.le_of_ble_eq_true rfl)⟩) hS (fun _ _ h => h) (fun _ h => h) (fun u37 r_37 t H locs ht hvm hw37 hB hz1 hk1 hS => ?_)
    obtain ⟨hw37, hP, hD⟩ := hB
    rw [ht] at hP
    subst hw37
    refine lv_dup_x1 hx hb dJx4a65c_grow_92f84_40 rfl rfl ?_
    refine px_put (ci := 1) (v := .ref r_37) (ty := .array (.object "java/lang/Object")) (C := RJx4a65c) (T := TJx4a65c) (N := 3) hx hb hts hinJx4a65c tyJx4a65c tyJx4a65c_ok nmJx4a65c hown hK hP hD hS hj ej rfl 1 (by decide) (hts (.fieldLink RJx4a65c 9 "java/util/ArrayList" "elementData" "[Ljava/lang/Object;") (by decide +kernel)) (fun _ h9 => h9) rfl (by decide +kernel) rfl rfl (Nat.le_of_ble_eq_true rfl) dJx4a65c_grow_92f84_41 (fun H locs hP hD hS => ?_)
    obtain ⟨G_41, eG_41⟩ : ∃ gg9 : Nat → va_E, gg9 = va_up G j (.inr (1, [.int mc, .ref r_37, .int (nI n0)])) := ⟨_, rfl⟩
    have hP : va_P D vwCl (wl Ls ad G_41 ++ (X ++ [(r_37, .inl (y 3, (n0 + max 1 (n0 / 2)), .inr (.inr (.inr (.inr (va_cpy f (fun _ => none) 0 0 n0))))))])) H := by rw [eG_41]; exact hP
    have hD : va_D (fun q => b0 ≤ q) (wl Ls ad G_41 ++ (X ++ [(r_37, .inl (y 3, (n0 + max 1 (n0 / 2)), .inr (.inr (.inr (.inr (va_cpy f (fun _ => none) 0 0 n0))))))])) := by rw [eG_41]; exact hD
    have er : G_41 (j + 1) = .inl (y 3, n0, .inr (.inr (.inr (.inr f)))) := by rw [eG_41, va_up_ne _ _ (by omega)]; exact er
    have ej : G_41 j = .inr (1, [.int mc, .ref r_37, .int (nI n0)]) := by rw [eG_41]; exact va_up_self _ _ _
    refine W.widen (k := 1) (n := 1000) (Nat.le_of_ble_eq_true rfl) (Nat.le_of_ble_eq_true rfl) ?_
    exact W.aret (v := .ref r_37) hx hb hr (by first | exact Or.inl ⟨_, rfl⟩ | exact Or.inr ⟨_, rfl⟩) (Or.inr ⟨_, rfl⟩) (fun t ht hW => ⟨⟨wl Ls ad G_41 ++ (X ++ [(r_37, .inl (y 3, (n0 + max 1 (n0 / 2)), .inr (.inr (.inr (.inr (va_cpy f (fun _ => none) 0 0 n0))))))]), r_37, rfl, trivial, by rw [eG_41], by rw [ht]; exact hP, hD⟩, hS.F ht⟩) hS.2.2 dJx4a65c_grow_92f84_44
  · exact absurd (nI_lt (a := 0) hn1 (by omega)) c_7

set_option maxHeartbeats 4000000 in
set_option maxRecDepth 100000 in
/-- ArrayList.grow of the empty row -/
theorem c_Jx4a65c_grow_92f84_B (l : Launch) (hl0 : l.stackTraces = false) (D : va_G) (y : Nat → ClassId) (b0 df mi : Nat) (Ls : List Nat) (ad : Nat → Nat) (G : Nat → va_E) (X : va_W) (j : Nat) (mc : Int32) (hj : j ∈ Ls) (ej : G j = .inr (1, [.int mc, .ref df, .int (nI 0)])) : Met l yJx4a65c_grow_92f84 wsJx4a65c_grow_92f84 ({ frames := 1, cells := 1, slots := 1000, locals := 14 }) (va_Pc [.ref (ad j), .int (nI 1)] (WdL D y b0 df mi (wl Ls ad G ++ X))) (va_Qr (fun _ : va_W => True) (fun (u : va_W) (r : Nat) (t : State) => (u = wl Ls ad (va_up G j (.inr (1, [.int mc, .ref r, .int (nI 0)]))) ++ (X ++ [(r, .inl (y 3, 10, .inr (.inr (.inr (.inr (fun _ => none))))))])) ∧ WB D b0 u t) (fun q => b0 ≤ q)) 1 1000 (fun q => b0 ≤ q) := by
  refine Met.ofW (cc := cJx4a65c_grow_92f84) (maxL := 4) (ret := (some (.array (.object "java/lang/Object")))) (by decide) rfl ?_
  intro p e s m args below meth c s₁ B hml hv
  obtain ⟨rfl, ⟨⟨hP, hK, hN⟩, hD, hb0, hT⟩, hLP⟩ := hv
  have hx := B.exec
  have hb := B.bytes
  have hr := B.returns
  have hts := atoms_spec (ws := wsJx4a65c_grow_92f84) B.pre
  have hown : s.vm.findClass RJx4a65c = some m.cls := findClass_of_methodNamed B.named
  have hlocks := B.notSynchronized
  have hS : va_S (fun q => b0 ≤ q) s.heap s.heap [] := va_S.rf
  have hinJx4a65c : ∀ w ∈ wsJx4a65c0, w ∈ wsJx4a65c_grow_92f84 := by decide +kernel
  have hA : ∀ q, s.heap.size ≤ q → (fun q => b0 ≤ q) q := fun q h => Nat.le_trans hb0 h
  have hl := lv_entry ([.ref (ad j), .int (nI 1)]) (n := 4) (Nat.le_of_ble_eq_true rfl)
  rw [lg_entry_eq]
  generalize (lg_sl ([.ref (ad j), .int (nI 1)]) ++ List.replicate (4 - (lg_sl ([.ref (ad j), .int (nI 1)])).length) Slot.unset).toArray = ls at hl ⊢
  have hl : lv_has ls 4 [(0, .ref (ad j)), (1, .int (nI 1))] := hl
  refine lv_aload_n hx hb dJx4a65c_grow_92f84_0 rfl (lv_at hl 0 rfl) ?_
  refine pv_get (ci := 1) (C := RJx4a65c) (T := TJx4a65c) (N := 3) hx hb hts hinJx4a65c hown hK (va_Pl hP) hj ej rfl 1 (by decide) (hts (.fieldLink RJx4a65c 9 "java/util/ArrayList" "elementData" "[Ljava/lang/Object;") (by decide +kernel)) (fun _ h9 => h9) rfl dJx4a65c_grow_92f84_1 ?_
  refine va_tlen (v := nI 0) hx hb hLP.2.1 hS rfl dJx4a65c_grow_92f84_4 ?_
  refine lv_istore_n (lv' := [(2, .int (nI 0)), (0, .ref (ad j)), (1, .int (nI 1))]) hx hb dJx4a65c_grow_92f84_5 rfl hl (by decide) rfl (fun ls hl => ?_)
  refine lv_iload_n hx hb dJx4a65c_grow_92f84_6 rfl (lv_at hl 0 rfl) ?_
  refine lv_if_gt (tgt := 20) hx hb dJx4a65c_grow_92f84_7 (by decide) (fun c_7 => ?_) (fun c_7 => ?_)
  · exact absurd c_7 (by decide)
  · refine lv_aload_n hx hb dJx4a65c_grow_92f84_10 rfl (lv_at hl 1 rfl) ?_
    refine pv_get (ci := 1) (C := RJx4a65c) (T := TJx4a65c) (N := 3) hx hb hts hinJx4a65c hown hK (va_Pl hP) hj ej rfl 1 (by decide) (hts (.fieldLink RJx4a65c 9 "java/util/ArrayList" "elementData" "[Ljava/lang/Object;") (by decide +kernel)) (fun _ h9 => h9) rfl dJx4a65c_grow_92f84_11 ?_
    refine va_gets hx hb hLP.1 hS hown (hts (.fieldLink RJx4a65c 39 "java/util/ArrayList" "DEFAULTCAPACITY_EMPTY_ELEMENTDATA" "[Ljava/lang/Object;") (by decide +kernel)) (fun _ h9 => h9) dJx4a65c_grow_92f84_14 ?_
    refine lv_acmp_eq (rx := some df) (ry := some df) (tgt := 45) hx hb dJx4a65c_grow_92f84_17 (by decide) (fun _ => ?_) (fun c9 => absurd rfl c9)
    refine lv_aload_n hx hb dJx4a65c_grow_92f84_45 rfl (lv_at hl 1 rfl) ?_
    refine lv_bipush (v := 10) hx hb dJx4a65c_grow_92f84_46 (by decide) ?_
    refine lv_iload_n hx hb dJx4a65c_grow_92f84_48 rfl (lv_at hl 2 rfl) ?_
    refine va_mmax hx hb (hml.trans hl.1.symm) hown (hts (.methodLink RJx4a65c 79 Lib.Math.max.name) (by decide +kernel)) (hts (.static Lib.Math.max.name) (by decide +kernel)) (hts (.initialized "java/lang/Math") (by decide +kernel)) (hts (.code Lib.Math.max.name Lib.Math.max.code 2 (some .int)) (by decide +kernel)) (Nat.le_of_ble_eq_true rfl) (Nat.le_of_ble_eq_true rfl) (Nat.le_of_ble_eq_true rfl) (Nat.le_of_ble_eq_true rfl) dJx4a65c_grow_92f84_49 ?_
    refine lv_topi (fun z9 ez9 => ?_)
    obtain rfl : z9 = nI 10 := ez9.trans (by decide)
    refine sx_newo (y := y) hx hb hown (hts (.classLink RJx4a65c 7 "java/lang/Object") (by decide +kernel)) hLP.2.2.1 hK hP hD hS hA 10 (nI_pos (by omega)) (nI_clamp (by omega)) (by omega) (Nat.le_of_ble_eq_true rfl) (by show 0 + 10 ≤ 1000; omega) dJx4a65c_grow_92f84_52 (fun q_52 H hP hD hS => ?_)
    refine W.widen (k := 1) (n := 1000) (Nat.le_of_ble_eq_true rfl) (by show 0 + 10 ≤ 1000; omega) ?_
    have hP : va_P D vwCl (wl Ls ad G ++ (X ++ [(q_52, .inl (y 3, 10, .inr (.inr (.inr (.inr (fun _ => none))))))])) H := hP
    have hD : va_D (fun q => b0 ≤ q) (wl Ls ad G ++ (X ++ [(q_52, .inl (y 3, 10, .inr (.inr (.inr (.inr (fun _ => none))))))])) := hD
    refine lv_dup_x1 hx hb dJx4a65c_grow_92f84_55 rfl rfl ?_
    refine px_put (ci := 1) (v := .ref q_52) (ty := .array (.object "java/lang/Object")) (C := RJx4a65c) (T := TJx4a65c) (N := 3) hx hb hts hinJx4a65c tyJx4a65c tyJx4a65c_ok nmJx4a65c hown hK hP hD hS hj ej rfl 1 (by decide) (hts (.fieldLink RJx4a65c 9 "java/util/ArrayList" "elementData" "[Ljava/lang/Object;") (by decide +kernel)) (fun _ h9 => h9) rfl (by decide +kernel) rfl rfl (Nat.le_of_ble_eq_true rfl) dJx4a65c_grow_92f84_56 (fun H locs hP hD hS => ?_)
    obtain ⟨G_56, eG_56⟩ : ∃ gg9 : Nat → va_E, gg9 = va_up G j (.inr (1, [.int mc, .ref q_52, .int (nI 0)])) := ⟨_, rfl⟩
    have hP : va_P D vwCl (wl Ls ad G_56 ++ (X ++ [(q_52, .inl (y 3, 10, .inr (.inr (.inr (.inr (fun _ => none))))))])) H := by rw [eG_56]; exact hP
    have hD : va_D (fun q => b0 ≤ q) (wl Ls ad G_56 ++ (X ++ [(q_52, .inl (y 3, 10, .inr (.inr (.inr (.inr (fun _ => none))))))])) := by rw [eG_56]; exact hD
    have ej : G_56 j = .inr (1, [.int mc, .ref q_52, .int (nI 0)]) := by rw [eG_56]; exact va_up_self _ _ _
    refine W.widen (k := 1) (n := 1000) (Nat.le_of_ble_eq_true rfl) (Nat.le_of_ble_eq_true rfl) ?_
    exact W.aret (v := .ref q_52) hx hb hr (by first | exact Or.inl ⟨_, rfl⟩ | exact Or.inr ⟨_, rfl⟩) (Or.inr ⟨_, rfl⟩) (fun t ht hW => ⟨⟨wl Ls ad G_56 ++ (X ++ [(q_52, .inl (y 3, 10, .inr (.inr (.inr (.inr (fun _ => none))))))]), q_52, rfl, trivial, by rw [eG_56], by rw [ht]; exact hP, hD⟩, hS.F ht⟩) hS.2.2 dJx4a65c_grow_92f84_59

set_option maxHeartbeats 4000000 in
set_option maxRecDepth 100000 in
/-- ArrayList.grow() -/
theorem c_Jx4a65c_grow_d5877_A (l : Launch) (hl0 : l.stackTraces = false) (D : va_G) (y : Nat → ClassId) (b0 df mi : Nat) (Ls : List Nat) (ad : Nat → Nat) (G : Nat → va_E) (X : va_W) (j : Nat) (mc : Int32) (hj : j ∈ Ls) (n0 : Nat) (f : Nat → Option Nat) (ci : Nat) (rc : vw_C) (hci : vwCl[ci]? = some rc) (hca0 : Cond.castable rc.1 "java/lang/Object" ∈ castO) (ej : G j = .inr (1, [.int mc, .ref (ad (j + 1)), .int (nI n0)])) (hr9 : j + 1 ∈ Ls) (er : G (j + 1) = .inl (y 3, n0, .inr (.inr (.inr (.inr f))))) (hn1 : 0 < n0) (hm : n0 ≤ 600) (hel : ∀ i, i < n0 → ∀ a, f i = some a → ∃ k fs, k ∈ Ls ∧ a = ad k ∧ G k = .inr (ci, fs)) : Met l yJx4a65c_grow_d5877 wsJx4a65c_grow_d5877 ({ frames := 4, cells := 1, slots := 1000, locals := 127 }) (va_Pc [.ref (ad j)] (WdL D y b0 df mi (wl Ls ad G ++ X))) (va_Qr (fun _ : va_W => True) (fun (u : va_W) (r : Nat) (t : State) => (u = wl Ls ad (va_up G j (.inr (1, [.int mc, .ref r, .int (nI n0)]))) ++ (X ++ [(r, .inl (y 3, (n0 + max 1 (n0 / 2)), .inr (.inr (.inr (.inr (va_cpy f (fun _ => none) 0 0 n0))))))])) ∧ WB D b0 u t) (fun q => b0 ≤ q)) 1 1000 (fun q => b0 ≤ q) := by
  refine Met.ofW (cc := cJx4a65c_grow_d5877) (maxL := 1) (ret := (some (.array (.object "java/lang/Object")))) (by decide) rfl ?_
  intro p e s m args below meth c s₁ B hml hv
  obtain ⟨rfl, ⟨⟨hP, hK, hN⟩, hD, hb0, hT⟩, hLP⟩ := hv
  have hx := B.exec
  have hb := B.bytes
  have hr := B.returns
  have hts := atoms_spec (ws := wsJx4a65c_grow_d5877) B.pre
  have hown : s.vm.findClass RJx4a65c = some m.cls := findClass_of_methodNamed B.named
  have hlocks := B.notSynchronized
  have hS : va_S (fun q => b0 ≤ q) s.heap s.heap [] := va_S.rf
  have hinJx4a65c : ∀ w ∈ wsJx4a65c0, w ∈ wsJx4a65c_grow_d5877 := by decide +kernel
  have hA : ∀ q, s.heap.size ≤ q → (fun q => b0 ≤ q) q := fun q h => Nat.le_trans hb0 h
  have hl := lv_entry ([.ref (ad j)]) (n := 1) (Nat.le_of_ble_eq_true rfl)
  rw [lg_entry_eq]
  generalize (lg_sl ([.ref (ad j)]) ++ List.replicate (1 - (lg_sl ([.ref (ad j)])).length) Slot.unset).toArray = ls at hl ⊢
  have hl : lv_has ls 1 [(0, .ref (ad j))] := hl
  refine lv_aload_n hx hb dJx4a65c_grow_d5877_0 rfl (lv_at hl 0 rfl) ?_
  refine lv_aload_n hx hb dJx4a65c_grow_d5877_1 rfl (lv_at hl 0 rfl) ?_
  refine pv_get (ci := 1) (C := RJx4a65c) (T := TJx4a65c) (N := 3) hx hb hts hinJx4a65c hown hK (va_Pl hP) hj ej rfl 2 (by decide) (hts (.fieldLink RJx4a65c 48 "java/util/ArrayList" "size" "I") (by decide +kernel)) (fun _ h9 => h9) rfl dJx4a65c_grow_d5877_2 ?_
  refine lv_iconst (v := 1) hx hb dJx4a65c_grow_d5877_5 (by decide) ?_
  refine lv_iadd hx hb dJx4a65c_grow_d5877_6 ?_
  refine lv_topi (fun z9 ez9 => ?_)
  obtain rfl : z9 = nI (n0 + 1) := ez9.trans (nI_1 n0)
  refine va_callr (va_runV (As := [.int (nI (n0 + 1))]) (rest := []) ⟨hx, hb, hml, hown, hts⟩ (c_Jx4a65c_grow_92f84_A l hl0 D y b0 df mi Ls ad G X j mc hj n0 f ci rc hci hca0 ej hr9 er hn1 hm hel) (cwV 1 hts gJx4a65c_grow_d5877_Jx4a65c_grow_92f84 rfl rfl rfl (by decide +kernel) ⟨(Nat.le_of_ble_eq_true rfl), (Nat.le_of_ble_eq_true rfl)⟩) ⟨WdL_blind, Wd_recv hK (va_Pl hP) (ci := 1) rfl hj ej, WdL_at hP hK hN hD hS hb0 hT hLP⟩ rfl rfl hl.1 rfl (lv_room (Nat.le_of_ble_eq_true rfl)) dJx4a65c_grow_d5877_7 ⟨(Nat.le_of_ble_eq_true rfl), (Nat.le_of_ble_eq_true rfl)⟩) hS (fun _ _ h => h) (fun _ h => h) (fun u7 r_7 t H locs ht hvm hw7 hB hz1 hk1 hS => ?_)
  obtain ⟨hw7, hP, hD⟩ := hB
  rw [ht] at hP
  subst hw7
  refine W.widen (k := 1) (n := 1000) (Nat.le_of_ble_eq_true rfl) (Nat.le_of_ble_eq_true rfl) ?_
  exact W.aret (v := .ref r_7) hx hb hr (by first | exact Or.inl ⟨_, rfl⟩ | exact Or.inr ⟨_, rfl⟩) (Or.inr ⟨_, rfl⟩) (fun t ht hW => ⟨⟨wl Ls ad (va_up G j (.inr (1, [.int mc, .ref r_7, .int (nI n0)]))) ++ (X ++ [(r_7, .inl (y 3, (n0 + max 1 (n0 / 2)), .inr (.inr (.inr (.inr (va_cpy f (fun _ => none) 0 0 n0))))))]), r_7, rfl, trivial, rfl, by rw [ht]; exact hP, hD⟩, hS.F ht⟩) hS.2.2 dJx4a65c_grow_d5877_10

set_option maxHeartbeats 4000000 in
set_option maxRecDepth 100000 in
/-- ArrayList.grow() -/
theorem c_Jx4a65c_grow_d5877_B (l : Launch) (hl0 : l.stackTraces = false) (D : va_G) (y : Nat → ClassId) (b0 df mi : Nat) (Ls : List Nat) (ad : Nat → Nat) (G : Nat → va_E) (X : va_W) (j : Nat) (mc : Int32) (hj : j ∈ Ls) (ej : G j = .inr (1, [.int mc, .ref df, .int (nI 0)])) : Met l yJx4a65c_grow_d5877 wsJx4a65c_grow_d5877 ({ frames := 2, cells := 1, slots := 1000, locals := 37 }) (va_Pc [.ref (ad j)] (WdL D y b0 df mi (wl Ls ad G ++ X))) (va_Qr (fun _ : va_W => True) (fun (u : va_W) (r : Nat) (t : State) => (u = wl Ls ad (va_up G j (.inr (1, [.int mc, .ref r, .int (nI 0)]))) ++ (X ++ [(r, .inl (y 3, 10, .inr (.inr (.inr (.inr (fun _ => none))))))])) ∧ WB D b0 u t) (fun q => b0 ≤ q)) 1 1000 (fun q => b0 ≤ q) := by
  refine Met.ofW (cc := cJx4a65c_grow_d5877) (maxL := 1) (ret := (some (.array (.object "java/lang/Object")))) (by decide) rfl ?_
  intro p e s m args below meth c s₁ B hml hv
  obtain ⟨rfl, ⟨⟨hP, hK, hN⟩, hD, hb0, hT⟩, hLP⟩ := hv
  have hx := B.exec
  have hb := B.bytes
  have hr := B.returns
  have hts := atoms_spec (ws := wsJx4a65c_grow_d5877) B.pre
  have hown : s.vm.findClass RJx4a65c = some m.cls := findClass_of_methodNamed B.named
  have hlocks := B.notSynchronized
  have hS : va_S (fun q => b0 ≤ q) s.heap s.heap [] := va_S.rf
  have hinJx4a65c : ∀ w ∈ wsJx4a65c0, w ∈ wsJx4a65c_grow_d5877 := by decide +kernel
  have hA : ∀ q, s.heap.size ≤ q → (fun q => b0 ≤ q) q := fun q h => Nat.le_trans hb0 h
  have hl := lv_entry ([.ref (ad j)]) (n := 1) (Nat.le_of_ble_eq_true rfl)
  rw [lg_entry_eq]
  generalize (lg_sl ([.ref (ad j)]) ++ List.replicate (1 - (lg_sl ([.ref (ad j)])).length) Slot.unset).toArray = ls at hl ⊢
  have hl : lv_has ls 1 [(0, .ref (ad j))] := hl
  refine lv_aload_n hx hb dJx4a65c_grow_d5877_0 rfl (lv_at hl 0 rfl) ?_
  refine lv_aload_n hx hb dJx4a65c_grow_d5877_1 rfl (lv_at hl 0 rfl) ?_
  refine pv_get (ci := 1) (C := RJx4a65c) (T := TJx4a65c) (N := 3) hx hb hts hinJx4a65c hown hK (va_Pl hP) hj ej rfl 2 (by decide) (hts (.fieldLink RJx4a65c 48 "java/util/ArrayList" "size" "I") (by decide +kernel)) (fun _ h9 => h9) rfl dJx4a65c_grow_d5877_2 ?_
  refine lv_iconst (v := 1) hx hb dJx4a65c_grow_d5877_5 (by decide) ?_
  refine lv_iadd hx hb dJx4a65c_grow_d5877_6 ?_
  refine lv_topi (fun z9 ez9 => ?_)
  obtain rfl : z9 = nI 1 := ez9.trans (by decide)
  refine va_callr (va_runV (As := [.int (nI 1)]) (rest := []) ⟨hx, hb, hml, hown, hts⟩ (c_Jx4a65c_grow_92f84_B l hl0 D y b0 df mi Ls ad G X j mc hj ej) (cwV 1 hts gJx4a65c_grow_d5877_Jx4a65c_grow_92f84 rfl rfl rfl (by decide +kernel) ⟨(Nat.le_of_ble_eq_true rfl), (Nat.le_of_ble_eq_true rfl)⟩) ⟨WdL_blind, Wd_recv hK (va_Pl hP) (ci := 1) rfl hj ej, WdL_at hP hK hN hD hS hb0 hT hLP⟩ rfl rfl hl.1 rfl (lv_room (Nat.le_of_ble_eq_true rfl)) dJx4a65c_grow_d5877_7 ⟨(Nat.le_of_ble_eq_true rfl), (Nat.le_of_ble_eq_true rfl)⟩) hS (fun _ _ h => h) (fun _ h => h) (fun u7 r_7 t H locs ht hvm hw7 hB hz1 hk1 hS => ?_)
  obtain ⟨hw7, hP, hD⟩ := hB
  rw [ht] at hP
  subst hw7
  refine W.widen (k := 1) (n := 1000) (Nat.le_of_ble_eq_true rfl) (Nat.le_of_ble_eq_true rfl) ?_
  exact W.aret (v := .ref r_7) hx hb hr (by first | exact Or.inl ⟨_, rfl⟩ | exact Or.inr ⟨_, rfl⟩) (Or.inr ⟨_, rfl⟩) (fun t ht hW => ⟨⟨wl Ls ad (va_up G j (.inr (1, [.int mc, .ref r_7, .int (nI 0)]))) ++ (X ++ [(r_7, .inl (y 3, 10, .inr (.inr (.inr (.inr (fun _ => none))))))]), r_7, rfl, trivial, rfl, by rw [ht]; exact hP, hD⟩, hS.F ht⟩) hS.2.2 dJx4a65c_grow_d5877_10

set_option maxHeartbeats 4000000 in
set_option maxRecDepth 100000 in
/-- ArrayList.add(e, row, n) with room -/
theorem c_Jx4a65c_add_72be8_N (l : Launch) (hl0 : l.stackTraces = false) (D : va_G) (y : Nat → ClassId) (b0 df mi : Nat) (Ls : List Nat) (ad : Nat → Nat) (G : Nat → va_E) (X : va_W) (j : Nat) (mc : Int32) (hj : j ∈ Ls) (n n0 : Nat) (f : Nat → Option Nat) (ci : Nat) (rc : vw_C) (hci : vwCl[ci]? = some rc) (hca0 : Cond.castable rc.1 "java/lang/Object" ∈ castO) (ej : G j = .inr (1, [.int mc, .ref (ad (j + 1)), .int (nI n)])) (hr9 : j + 1 ∈ Ls) (er : G (j + 1) = .inl (y 3, n0, .inr (.inr (.inr (.inr f))))) (hnn : n < n0) (hm : n0 < 2 ^ 31) (a : Nat) (fs : List Value) (hX0e : X[0]? = some (a, .inr (ci, fs))) : Met l yJx4a65c_add_72be8 wsJx4a65c_add_72be8 ({ frames := 0, cells := 0, slots := 0, locals := 0 }) (va_Pc [.ref (ad j), .ref a, .ref (ad (j + 1)), .int (nI n)] (WdL D y b0 df mi (wl Ls ad G ++ X))) (va_Qv (fun (u : va_W) => u = wl Ls ad (va_up (va_up G (j + 1) (.inl (y 3, n0, .inr (.inr (.inr (.inr (va_up f n (some a)))))))) j (.inr (1, [.int mc, .ref (ad (j + 1)), .int (nI (n + 1))]))) ++ X) (WB D b0) (fun q => b0 ≤ q)) 0 0 (fun q => b0 ≤ q) := by
  refine Met.ofW (cc := cJx4a65c_add_72be8) (maxL := 4) (ret := none) (by decide) rfl ?_
  intro p e s m args below meth c s₁ B hml hv
  obtain ⟨rfl, ⟨⟨hP, hK, hN⟩, hD, hb0, hT⟩, hLP⟩ := hv
  have hx := B.exec
  have hb := B.bytes
  have hr := B.returns
  have hts := atoms_spec (ws := wsJx4a65c_add_72be8) B.pre
  have hown : s.vm.findClass RJx4a65c = some m.cls := findClass_of_methodNamed B.named
  have hlocks := B.notSynchronized
  have hS : va_S (fun q => b0 ≤ q) s.heap s.heap [] := va_S.rf
  have hinJx4a65c : ∀ w ∈ wsJx4a65c0, w ∈ wsJx4a65c_add_72be8 := by decide +kernel
  have hA : ∀ q, s.heap.size ≤ q → (fun q => b0 ≤ q) q := fun q h => Nat.le_trans hb0 h
  have hl := lv_entry ([.ref (ad j), .ref a, .ref (ad (j + 1)), .int (nI n)]) (n := 4) (Nat.le_of_ble_eq_true rfl)
  rw [lg_entry_eq]
  generalize (lg_sl ([.ref (ad j), .ref a, .ref (ad (j + 1)), .int (nI n)]) ++ List.replicate (4 - (lg_sl ([.ref (ad j), .ref a, .ref (ad (j + 1)), .int (nI n)])).length) Slot.unset).toArray = ls at hl ⊢
  have hl : lv_has ls 4 [(0, .ref (ad j)), (1, .ref a), (2, .ref (ad (j + 1))), (3, .int (nI n))] := hl
  refine lv_iload_n hx hb dJx4a65c_add_72be8_0 rfl (lv_at hl 3 rfl) ?_
  refine lv_aload_n hx hb dJx4a65c_add_72be8_1 rfl (lv_at hl 2 rfl) ?_
  refine pv_alen (n := n0) hx hb hK (va_Pl hP) hr9 3 er rfl rfl dJx4a65c_add_72be8_2 ?_
  refine lv_icmp_ne (tgt := 11) hx hb dJx4a65c_add_72be8_3 (by decide) (fun c_3 => ?_) (fun c_3 => ?_)
  · refine lv_aload_n hx hb dJx4a65c_add_72be8_11 rfl (lv_at hl 2 rfl) ?_
    refine lv_iload_n hx hb dJx4a65c_add_72be8_12 rfl (lv_at hl 3 rfl) ?_
    refine lv_aload_n hx hb dJx4a65c_add_72be8_13 rfl (lv_at hl 1 rfl) ?_
    have hca := hLP.2.2.2.2.2 _ hca0
    refine px_aast (ix := 0) hx hb hK hP hD hS hr9 er hX0e hci hca (k := n) rfl hnn (by omega) dJx4a65c_add_72be8_14 (fun H locs hP hD hS => ?_)
    obtain ⟨G_14, eG_14⟩ : ∃ gg9 : Nat → va_E, gg9 = va_up G (j + 1) (.inl (y 3, n0, .inr (.inr (.inr (.inr (va_up f n (some a))))))) := ⟨_, rfl⟩
    have hP : va_P D vwCl (wl Ls ad G_14 ++ X) H := by rw [eG_14]; exact hP
    have hD : va_D (fun q => b0 ≤ q) (wl Ls ad G_14 ++ X) := by rw [eG_14]; exact hD
    have ej : G_14 j = .inr (1, [.int mc, .ref (ad (j + 1)), .int (nI n)]) := by rw [eG_14, va_up_ne _ _ (by omega)]; exact ej
    have er : G_14 (j + 1) = .inl (y 3, n0, .inr (.inr (.inr (.inr (va_up f n (some a)))))) := by rw [eG_14]; exact va_up_self _ _ _
    refine lv_aload_n hx hb dJx4a65c_add_72be8_15 rfl (lv_at hl 0 rfl) ?_
    refine lv_iload_n hx hb dJx4a65c_add_72be8_16 rfl (lv_at hl 3 rfl) ?_
    refine lv_iconst (v := 1) hx hb dJx4a65c_add_72be8_17 (by decide) ?_
    refine lv_iadd hx hb dJx4a65c_add_72be8_18 ?_
    refine lv_topi (fun z9 ez9 => ?_)
    obtain rfl : z9 = nI (n + 1) := ez9.trans (nI_1 n)
    refine px_put (ci := 1) (v := .int (nI (n + 1))) (ty := .int) (C := RJx4a65c) (T := TJx4a65c) (N := 3) hx hb hts hinJx4a65c tyJx4a65c tyJx4a65c_ok nmJx4a65c hown hK hP hD hS hj ej rfl 2 (by decide) (hts (.fieldLink RJx4a65c 48 "java/util/ArrayList" "size" "I") (by decide +kernel)) (fun _ h9 => h9) rfl (by decide +kernel) rfl rfl (Nat.le_of_ble_eq_true rfl) dJx4a65c_add_72be8_19 (fun H locs hP hD hS => ?_)
    obtain ⟨G_19, eG_19⟩ : ∃ gg9 : Nat → va_E, gg9 = va_up G_14 j (.inr (1, [.int mc, .ref (ad (j + 1)), .int (nI (n + 1))])) := ⟨_, rfl⟩
    have hP : va_P D vwCl (wl Ls ad G_19 ++ X) H := by rw [eG_19]; exact hP
    have hD : va_D (fun q => b0 ≤ q) (wl Ls ad G_19 ++ X) := by rw [eG_19]; exact hD
    have er : G_19 (j + 1) = .inl (y 3, n0, .inr (.inr (.inr (.inr (va_up f n (some a)))))) := by rw [eG_19, va_up_ne _ _ (by omega)]; exact er
    have ej : G_19 j = .inr (1, [.int mc, .ref (ad (j + 1)), .int (nI (n + 1))]) := by rw [eG_19]; exact va_up_self _ _ _
    refine W.widen (k := 0) (n := 0) (Nat.le_of_ble_eq_true rfl) (Nat.le_of_ble_eq_true rfl) ?_
    exact W.vret hx hb hr (fun t ht hW => ⟨⟨wl Ls ad G_19 ++ X, rfl, by rw [eG_19, eG_14], by rw [ht]; exact hP, hD⟩, hS.F ht⟩) hS.2.2 dJx4a65c_add_72be8_22
  · exact absurd ((nI_eq (by omega) (by omega)).mp c_3) (by omega)

set_option maxHeartbeats 4000000 in
set_option maxRecDepth 100000 in
/-- ArrayList.add(e, row, n) of a full row -/
theorem c_Jx4a65c_add_72be8_A (l : Launch) (hl0 : l.stackTraces = false) (D : va_G) (y : Nat → ClassId) (b0 df mi : Nat) (Ls : List Nat) (ad : Nat → Nat) (G : Nat → va_E) (X : va_W) (j : Nat) (mc : Int32) (hj : j ∈ Ls) (n0 : Nat) (f : Nat → Option Nat) (ci : Nat) (rc : vw_C) (hci : vwCl[ci]? = some rc) (hca0 : Cond.castable rc.1 "java/lang/Object" ∈ castO) (ej : G j = .inr (1, [.int mc, .ref (ad (j + 1)), .int (nI n0)])) (hr9 : j + 1 ∈ Ls) (er : G (j + 1) = .inl (y 3, n0, .inr (.inr (.inr (.inr f))))) (hn1 : 0 < n0) (hm : n0 ≤ 600) (hel : ∀ i, i < n0 → ∀ a, f i = some a → ∃ k fs, k ∈ Ls ∧ a = ad k ∧ G k = .inr (ci, fs)) (a : Nat) (fs : List Value) (hX0e : X[0]? = some (a, .inr (ci, fs))) : Met l yJx4a65c_add_72be8 wsJx4a65c_add_72be8 ({ frames := 5, cells := 1, slots := 1000, locals := 147 }) (va_Pc [.ref (ad j), .ref a, .ref (ad (j + 1)), .int (nI n0)] (WdL D y b0 df mi (wl Ls ad G ++ X))) (va_Qv (fun (u : va_W) => ∃ q, u = wl Ls ad (va_up (va_up G j (.inr (1, [.int mc, .ref q, .int (nI n0)]))) j (.inr (1, [.int mc, .ref q, .int (nI (n0 + 1))]))) ++ (X ++ [(q, .inl (y 3, (n0 + max 1 (n0 / 2)), .inr (.inr (.inr (.inr (va_up (va_cpy f (fun _ => none) 0 0 n0) n0 (some a)))))))])) (WB D b0) (fun q => b0 ≤ q)) 1 1000 (fun q => b0 ≤ q) := by
  refine Met.ofW (cc := cJx4a65c_add_72be8) (maxL := 4) (ret := none) (by decide) rfl ?_
  intro p e s m args below meth c s₁ B hml hv
  obtain ⟨rfl, ⟨⟨hP, hK, hN⟩, hD, hb0, hT⟩, hLP⟩ := hv
  have hx := B.exec
  have hb := B.bytes
  have hr := B.returns
  have hts := atoms_spec (ws := wsJx4a65c_add_72be8) B.pre
  have hown : s.vm.findClass RJx4a65c = some m.cls := findClass_of_methodNamed B.named
  have hlocks := B.notSynchronized
  have hS : va_S (fun q => b0 ≤ q) s.heap s.heap [] := va_S.rf
  have hinJx4a65c : ∀ w ∈ wsJx4a65c0, w ∈ wsJx4a65c_add_72be8 := by decide +kernel
  have hA : ∀ q, s.heap.size ≤ q → (fun q => b0 ≤ q) q := fun q h => Nat.le_trans hb0 h
  have hl := lv_entry ([.ref (ad j), .ref a, .ref (ad (j + 1)), .int (nI n0)]) (n := 4) (Nat.le_of_ble_eq_true rfl)
  rw [lg_entry_eq]
  generalize (lg_sl ([.ref (ad j), .ref a, .ref (ad (j + 1)), .int (nI n0)]) ++ List.replicate (4 - (lg_sl ([.ref (ad j), .ref a, .ref (ad (j + 1)), .int (nI n0)])).length) Slot.unset).toArray = ls at hl ⊢
  have hl : lv_has ls 4 [(0, .ref (ad j)), (1, .ref a), (2, .ref (ad (j + 1))), (3, .int (nI n0))] := hl
  refine lv_iload_n hx hb dJx4a65c_add_72be8_0 rfl (lv_at hl 3 rfl) ?_
  refine lv_aload_n hx hb dJx4a65c_add_72be8_1 rfl (lv_at hl 2 rfl) ?_
  refine pv_alen (n := n0) hx hb hK (va_Pl hP) hr9 3 er rfl rfl dJx4a65c_add_72be8_2 ?_
  refine lv_icmp_ne (tgt := 11) hx hb dJx4a65c_add_72be8_3 (by decide) (fun c_3 => ?_) (fun c_3 => ?_)
  · exact absurd rfl c_3
  · refine lv_aload_n hx hb dJx4a65c_add_72be8_6 rfl (lv_at hl 0 rfl) ?_
    refine va_callr (va_runV (As := []) (rest := []) ⟨hx, hb, hml, hown, hts⟩ (c_Jx4a65c_grow_d5877_A l hl0 D y b0 df mi Ls ad G X j mc hj n0 f ci rc hci hca0 ej hr9 er hn1 hm hel) (cwV 0 hts gJx4a65c_add_72be8_Jx4a65c_grow_d5877 rfl rfl rfl (by decide +kernel) ⟨(Nat.le_of_ble_eq_true rfl), (Nat.le_of_ble_eq_true rfl)⟩) ⟨WdL_blind, Wd_recv hK (va_Pl hP) (ci := 1) rfl hj ej, WdL_at hP hK hN hD hS hb0 hT hLP⟩ rfl rfl hl.1 rfl (lv_room (Nat.le_of_ble_eq_true rfl)) dJx4a65c_add_72be8_7 ⟨(Nat.le_of_ble_eq_true rfl), (Nat.le_of_ble_eq_true rfl)⟩) hS (fun _ _ h => h) (fun _ h => h) (fun u7 r_7 t H locs ht hvm hw7 hB hz1 hk1 hS => ?_)
    obtain ⟨hw7, hP, hD⟩ := hB
    rw [ht] at hP
    subst hw7
    obtain ⟨G7, eG7⟩ : ∃ gg9 : Nat → va_E, gg9 = va_up G j (.inr (1, [.int mc, .ref r_7, .int (nI n0)])) := ⟨_, rfl⟩
    have hP : va_P D vwCl (wl Ls ad G7 ++ (X ++ [(r_7, .inl (y 3, (n0 + max 1 (n0 / 2)), .inr (.inr (.inr (.inr (va_cpy f (fun _ => none) 0 0 n0))))))])) H := by rw [eG7]; exact hP
    have hD : va_D (fun q => b0 ≤ q) (wl Ls ad G7 ++ (X ++ [(r_7, .inl (y 3, (n0 + max 1 (n0 / 2)), .inr (.inr (.inr (.inr (va_cpy f (fun _ => none) 0 0 n0))))))])) := by rw [eG7]; exact hD
    have ej : G7 j = .inr (1, [.int mc, .ref r_7, .int (nI n0)]) := by rw [eG7]; exact va_up_self _ _ _
    refine lv_astore_n (lv' := [(2, .ref r_7), (0, .ref (ad j)), (1, .ref a), (3, .int (nI n0))]) hx hb dJx4a65c_add_72be8_10 rfl hl (by decide) rfl (fun ls hl => ?_)
    refine lv_aload_n hx hb dJx4a65c_add_72be8_11 rfl (lv_at hl 0 rfl) ?_
    refine lv_iload_n hx hb dJx4a65c_add_72be8_12 rfl (lv_at hl 3 rfl) ?_
    refine lv_aload_n hx hb dJx4a65c_add_72be8_13 rfl (lv_at hl 2 rfl) ?_
    have hca := hLP.2.2.2.2.2 _ hca0
    have hX0e := wx_l (b := [(r_7, .inl (y 3, (n0 + max 1 (n0 / 2)), .inr (.inr (.inr (.inr (va_cpy f (fun _ => none) 0 0 n0))))))]) hX0e
    refine sx_aast (ix := 0) hx hb hK hP hD hS (X.length + 0) (wx_at rfl) hX0e hci hca (k := n0) rfl (by omega) (by omega) dJx4a65c_add_72be8_14 (fun H locs hP hD hS => ?_)
    rw [wx_set] at hP hD
    have hP : va_P D vwCl (wl Ls ad G7 ++ (X ++ [(r_7, .inl (y 3, (n0 + max 1 (n0 / 2)), .inr (.inr (.inr (.inr (va_up (va_cpy f (fun _ => none) 0 0 n0) n0 (some a)))))))])) H := hP
    have hD : va_D (fun q => b0 ≤ q) (wl Ls ad G7 ++ (X ++ [(r_7, .inl (y 3, (n0 + max 1 (n0 / 2)), .inr (.inr (.inr (.inr (va_up (va_cpy f (fun _ => none) 0 0 n0) n0 (some a)))))))])) := hD
    refine lv_aload_n hx hb dJx4a65c_add_72be8_15 rfl (lv_at hl 1 rfl) ?_
    refine lv_iload_n hx hb dJx4a65c_add_72be8_16 rfl (lv_at hl 3 rfl) ?_
    refine lv_iconst (v := 1) hx hb dJx4a65c_add_72be8_17 (by decide) ?_
    refine lv_iadd hx hb dJx4a65c_add_72be8_18 ?_
    refine lv_topi (fun z9 ez9 => ?_)
    obtain rfl : z9 = nI (n0 + 1) := ez9.trans (nI_1 n0)
    refine px_put (ci := 1) (v := .int (nI (n0 + 1))) (ty := .int) (C := RJx4a65c) (T := TJx4a65c) (N := 3) hx hb hts hinJx4a65c tyJx4a65c tyJx4a65c_ok nmJx4a65c hown hK hP hD hS hj ej rfl 2 (by decide) (hts (.fieldLink RJx4a65c 48 "java/util/ArrayList" "size" "I") (by decide +kernel)) (fun _ h9 => h9) rfl (by decide +kernel) rfl rfl (Nat.le_of_ble_eq_true rfl) dJx4a65c_add_72be8_19 (fun H locs hP hD hS => ?_)
    obtain ⟨G_19, eG_19⟩ : ∃ gg9 : Nat → va_E, gg9 = va_up G7 j (.inr (1, [.int mc, .ref r_7, .int (nI (n0 + 1))])) := ⟨_, rfl⟩
    have hP : va_P D vwCl (wl Ls ad G_19 ++ (X ++ [(r_7, .inl (y 3, (n0 + max 1 (n0 / 2)), .inr (.inr (.inr (.inr (va_up (va_cpy f (fun _ => none) 0 0 n0) n0 (some a)))))))])) H := by rw [eG_19]; exact hP
    have hD : va_D (fun q => b0 ≤ q) (wl Ls ad G_19 ++ (X ++ [(r_7, .inl (y 3, (n0 + max 1 (n0 / 2)), .inr (.inr (.inr (.inr (va_up (va_cpy f (fun _ => none) 0 0 n0) n0 (some a)))))))])) := by rw [eG_19]; exact hD
    have ej : G_19 j = .inr (1, [.int mc, .ref r_7, .int (nI (n0 + 1))]) := by rw [eG_19]; exact va_up_self _ _ _
    refine W.widen (k := 1) (n := 1000) (Nat.le_of_ble_eq_true rfl) (Nat.le_of_ble_eq_true rfl) ?_
    exact W.vret hx hb hr (fun t ht hW => ⟨⟨wl Ls ad G_19 ++ (X ++ [(r_7, .inl (y 3, (n0 + max 1 (n0 / 2)), .inr (.inr (.inr (.inr (va_up (va_cpy f (fun _ => none) 0 0 n0) n0 (some a)))))))]), rfl, ⟨r_7, by rw [eG_19, eG7]⟩, by rw [ht]; exact hP, hD⟩, hS.F ht⟩) hS.2.2 dJx4a65c_add_72be8_22

set_option maxHeartbeats 4000000 in
set_option maxRecDepth 100000 in
/-- ArrayList.add(e, row, n) of a full row -/
theorem c_Jx4a65c_add_72be8_B (l : Launch) (hl0 : l.stackTraces = false) (D : va_G) (y : Nat → ClassId) (b0 df mi : Nat) (Ls : List Nat) (ad : Nat → Nat) (G : Nat → va_E) (X : va_W) (j : Nat) (mc : Int32) (hj : j ∈ Ls) (ci : Nat) (rc : vw_C) (hci : vwCl[ci]? = some rc) (hca0 : Cond.castable rc.1 "java/lang/Object" ∈ castO) (ej : G j = .inr (1, [.int mc, .ref df, .int (nI 0)])) (a : Nat) (fs : List Value) (hX0e : X[0]? = some (a, .inr (ci, fs))) : Met l yJx4a65c_add_72be8 wsJx4a65c_add_72be8 ({ frames := 3, cells := 1, slots := 1000, locals := 57 }) (va_Pc [.ref (ad j), .ref a, .ref df, .int (nI 0)] (WdL D y b0 df mi (wl Ls ad G ++ X))) (va_Qv (fun (u : va_W) => ∃ q, u = wl Ls ad (va_up (va_up G j (.inr (1, [.int mc, .ref q, .int (nI 0)]))) j (.inr (1, [.int mc, .ref q, .int (nI (0 + 1))]))) ++ (X ++ [(q, .inl (y 3, 10, .inr (.inr (.inr (.inr (va_up (fun _ => none) 0 (some a)))))))])) (WB D b0) (fun q => b0 ≤ q)) 1 1000 (fun q => b0 ≤ q) := by
  refine Met.ofW (cc := cJx4a65c_add_72be8) (maxL := 4) (ret := none) (by decide) rfl ?_
  intro p e s m args below meth c s₁ B hml hv
  obtain ⟨rfl, ⟨⟨hP, hK, hN⟩, hD, hb0, hT⟩, hLP⟩ := hv
  have hx := B.exec
  have hb := B.bytes
  have hr := B.returns
  have hts := atoms_spec (ws := wsJx4a65c_add_72be8) B.pre
  have hown : s.vm.findClass RJx4a65c = some m.cls := findClass_of_methodNamed B.named
  have hlocks := B.notSynchronized
  have hS : va_S (fun q => b0 ≤ q) s.heap s.heap [] := va_S.rf
  have hinJx4a65c : ∀ w ∈ wsJx4a65c0, w ∈ wsJx4a65c_add_72be8 := by decide +kernel
  have hA : ∀ q, s.heap.size ≤ q → (fun q => b0 ≤ q) q := fun q h => Nat.le_trans hb0 h
  have hl := lv_entry ([.ref (ad j), .ref a, .ref df, .int (nI 0)]) (n := 4) (Nat.le_of_ble_eq_true rfl)
  rw [lg_entry_eq]
  generalize (lg_sl ([.ref (ad j), .ref a, .ref df, .int (nI 0)]) ++ List.replicate (4 - (lg_sl ([.ref (ad j), .ref a, .ref df, .int (nI 0)])).length) Slot.unset).toArray = ls at hl ⊢
  have hl : lv_has ls 4 [(0, .ref (ad j)), (1, .ref a), (2, .ref df), (3, .int (nI 0))] := hl
  refine lv_iload_n hx hb dJx4a65c_add_72be8_0 rfl (lv_at hl 3 rfl) ?_
  refine lv_aload_n hx hb dJx4a65c_add_72be8_1 rfl (lv_at hl 2 rfl) ?_
  refine va_tlen (v := nI 0) hx hb hLP.2.1 hS rfl dJx4a65c_add_72be8_2 ?_
  refine lv_icmp_ne (tgt := 11) hx hb dJx4a65c_add_72be8_3 (by decide) (fun c_3 => ?_) (fun c_3 => ?_)
  · exact absurd rfl c_3
  · refine lv_aload_n hx hb dJx4a65c_add_72be8_6 rfl (lv_at hl 0 rfl) ?_
    refine va_callr (va_runV (As := []) (rest := []) ⟨hx, hb, hml, hown, hts⟩ (c_Jx4a65c_grow_d5877_B l hl0 D y b0 df mi Ls ad G X j mc hj ej) (cwV 0 hts gJx4a65c_add_72be8_Jx4a65c_grow_d5877 rfl rfl rfl (by decide +kernel) ⟨(Nat.le_of_ble_eq_true rfl), (Nat.le_of_ble_eq_true rfl)⟩) ⟨WdL_blind, Wd_recv hK (va_Pl hP) (ci := 1) rfl hj ej, WdL_at hP hK hN hD hS hb0 hT hLP⟩ rfl rfl hl.1 rfl (lv_room (Nat.le_of_ble_eq_true rfl)) dJx4a65c_add_72be8_7 ⟨(Nat.le_of_ble_eq_true rfl), (Nat.le_of_ble_eq_true rfl)⟩) hS (fun _ _ h => h) (fun _ h => h) (fun u7 r_7 t H locs ht hvm hw7 hB hz1 hk1 hS => ?_)
    obtain ⟨hw7, hP, hD⟩ := hB
    rw [ht] at hP
    subst hw7
    obtain ⟨G7, eG7⟩ : ∃ gg9 : Nat → va_E, gg9 = va_up G j (.inr (1, [.int mc, .ref r_7, .int (nI 0)])) := ⟨_, rfl⟩
    have hP : va_P D vwCl (wl Ls ad G7 ++ (X ++ [(r_7, .inl (y 3, 10, .inr (.inr (.inr (.inr (fun _ => none))))))])) H := by rw [eG7]; exact hP
    have hD : va_D (fun q => b0 ≤ q) (wl Ls ad G7 ++ (X ++ [(r_7, .inl (y 3, 10, .inr (.inr (.inr (.inr (fun _ => none))))))])) := by rw [eG7]; exact hD
    have ej : G7 j = .inr (1, [.int mc, .ref r_7, .int (nI 0)]) := by rw [eG7]; exact va_up_self _ _ _
    refine lv_astore_n (lv' := [(2, .ref r_7), (0, .ref (ad j)), (1, .ref a), (3, .int (nI 0))]) hx hb dJx4a65c_add_72be8_10 rfl hl (by decide) rfl (fun ls hl => ?_)
    refine lv_aload_n hx hb dJx4a65c_add_72be8_11 rfl (lv_at hl 0 rfl) ?_
    refine lv_iload_n hx hb dJx4a65c_add_72be8_12 rfl (lv_at hl 3 rfl) ?_
    refine lv_aload_n hx hb dJx4a65c_add_72be8_13 rfl (lv_at hl 2 rfl) ?_
    have hca := hLP.2.2.2.2.2 _ hca0
    have hX0e := wx_l (b := [(r_7, .inl (y 3, 10, .inr (.inr (.inr (.inr (fun _ => none))))))]) hX0e
    refine sx_aast (ix := 0) hx hb hK hP hD hS (X.length + 0) (wx_at rfl) hX0e hci hca (k := 0) rfl (by omega) (by omega) dJx4a65c_add_72be8_14 (fun H locs hP hD hS => ?_)
    rw [wx_set] at hP hD
    have hP : va_P D vwCl (wl Ls ad G7 ++ (X ++ [(r_7, .inl (y 3, 10, .inr (.inr (.inr (.inr (va_up (fun _ => none) 0 (some a)))))))])) H := hP
    have hD : va_D (fun q => b0 ≤ q) (wl Ls ad G7 ++ (X ++ [(r_7, .inl (y 3, 10, .inr (.inr (.inr (.inr (va_up (fun _ => none) 0 (some a)))))))])) := hD
    refine lv_aload_n hx hb dJx4a65c_add_72be8_15 rfl (lv_at hl 1 rfl) ?_
    refine lv_iload_n hx hb dJx4a65c_add_72be8_16 rfl (lv_at hl 3 rfl) ?_
    refine lv_iconst (v := 1) hx hb dJx4a65c_add_72be8_17 (by decide) ?_
    refine lv_iadd hx hb dJx4a65c_add_72be8_18 ?_
    refine lv_topi (fun z9 ez9 => ?_)
    obtain rfl : z9 = nI (0 + 1) := ez9.trans (nI_1 0)
    refine px_put (ci := 1) (v := .int (nI (0 + 1))) (ty := .int) (C := RJx4a65c) (T := TJx4a65c) (N := 3) hx hb hts hinJx4a65c tyJx4a65c tyJx4a65c_ok nmJx4a65c hown hK hP hD hS hj ej rfl 2 (by decide) (hts (.fieldLink RJx4a65c 48 "java/util/ArrayList" "size" "I") (by decide +kernel)) (fun _ h9 => h9) rfl (by decide +kernel) rfl rfl (Nat.le_of_ble_eq_true rfl) dJx4a65c_add_72be8_19 (fun H locs hP hD hS => ?_)
    obtain ⟨G_19, eG_19⟩ : ∃ gg9 : Nat → va_E, gg9 = va_up G7 j (.inr (1, [.int mc, .ref r_7, .int (nI (0 + 1))])) := ⟨_, rfl⟩
    have hP : va_P D vwCl (wl Ls ad G_19 ++ (X ++ [(r_7, .inl (y 3, 10, .inr (.inr (.inr (.inr (va_up (fun _ => none) 0 (some a)))))))])) H := by rw [eG_19]; exact hP
    have hD : va_D (fun q => b0 ≤ q) (wl Ls ad G_19 ++ (X ++ [(r_7, .inl (y 3, 10, .inr (.inr (.inr (.inr (va_up (fun _ => none) 0 (some a)))))))])) := by rw [eG_19]; exact hD
    have ej : G_19 j = .inr (1, [.int mc, .ref r_7, .int (nI (0 + 1))]) := by rw [eG_19]; exact va_up_self _ _ _
    refine W.widen (k := 1) (n := 1000) (Nat.le_of_ble_eq_true rfl) (Nat.le_of_ble_eq_true rfl) ?_
    exact W.vret hx hb hr (fun t ht hW => ⟨⟨wl Ls ad G_19 ++ (X ++ [(r_7, .inl (y 3, 10, .inr (.inr (.inr (.inr (va_up (fun _ => none) 0 (some a)))))))]), rfl, ⟨r_7, by rw [eG_19, eG7]⟩, by rw [ht]; exact hP, hD⟩, hS.F ht⟩) hS.2.2 dJx4a65c_add_72be8_22
