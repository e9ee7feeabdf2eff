/-! what grows: unit, move, bill, correct -/
theorem rel_add {A : Nat → Prop} {D : va_G} {cl : List vw_C} {H : Heap} {y : Nat → ClassId} {Ls : List Nat} {ad : Nat → Nat} {G : Nat → va_E} {X : va_W} {j n a : Nat} {el : Nat → Nat} {u : va_W} (hP : va_P D cl u H) (hD : va_D A u) (hR : AddR y Ls ad G X j n el a u) {Ls1 : List Nat} {ad1 : Nat → Nat} (G1 : (Nat → va_E) → Nat → va_E) (P1 : Nat → Prop)
    (hpush : ∀ G2, wl Ls ad G2 ++ X = wl Ls1 ad1 (G1 G2)) (hx1 : ∀ G2, Ext Ls ad G2 Ls1 ad1 (G1 G2) P1) (hj1 : ¬ P1 j) (hj2 : ¬ P1 (j + 1)) (hjL : j ∈ Ls) (hn : n + 1 < 1000) (el3 : (Nat → Nat) → Nat → Nat) (hel : ∀ ad3 : Nat → Nat, (∀ k, k ≠ j + 1 → ad3 k = ad1 k) → (∀ i, i < n → el3 ad3 i = el i) ∧ el3 ad3 n = a) :
    ∃ (Ls3 : List Nat) (ad3 : Nat → Nat) (G3 : Nat → va_E), va_P D cl (wl Ls3 ad3 G3) H ∧ va_D A (wl Ls3 ad3 G3) ∧ Ext Ls ad G Ls3 ad3 G3 (fun k => k = j ∨ k = j + 1 ∨ P1 k) ∧ ListAt y Ls3 ad3 G3 j (n + 1) (el3 ad3) ∧ (∀ k, k ∈ Ls1 → k ∈ Ls3) ∧ (∀ k, k ≠ j + 1 → ad3 k = ad1 k) ∧ ∃ G2, ∀ k, k ≠ j + 1 → G3 k = G1 G2 k := by
  obtain ⟨mc2, ea, G2, X2, cap, f2, rfl, ej, hfr, ⟨hc1, hc2, hf1, hf2⟩, hor⟩ := hR
  have hx := hx1 G2
  have hor2 : (wl Ls ad G2 ++ X2 = wl Ls1 ad1 (G1 G2) ∧ ea = ad (j + 1) ∧ j + 1 ∈ Ls ∧ G1 G2 (j + 1) = .inl (y 3, cap, .inr (.inr (.inr (.inr f2))))) ∨ wl Ls ad G2 ++ X2 = wl Ls1 ad1 (G1 G2) ++ [(ea, .inl (y 3, cap, .inr (.inr (.inr (.inr f2)))))] := by
    rcases hor with ⟨h1, h2, h3, h4⟩ | h1
    · exact Or.inl ⟨by rw [h1]; exact hpush G2, h2, h3, (hx.2.2 _ hj2).2.trans h4⟩
    · exact Or.inr (by rw [h1, ← List.append_assoc, hpush G2])
  obtain ⟨Ls3, ad3, G3, hP3, hD3, hx3, m3, a3, g3⟩ := rel_list hP hD (hx.1 (j + 1)) (fun _ => (hx.2.2 _ hj2).1) hor2
  have had : ∀ k, k ≠ j + 1 → ad3 k = ad1 k := fun k h => (hx3.2.2 k h).1
  have hG : ∀ k, k ≠ j + 1 → G3 k = G1 G2 k := fun k h => (hx3.2.2 k h).2
  have he := hel ad3 had
  refine ⟨Ls3, ad3, G3, hP3, hD3, ⟨fun k h => hx3.1 k (hx.1 k h), fun k h => ?_, fun k h => ?_⟩, ⟨mc2, ea, hx3.1 j (hx.1 j hjL), ?_, hn, fun _ => ⟨m3, a3.symm, cap, f2, g3, hc1, hc2, fun i hi => ?_⟩⟩, hx3.1, had, G2, hG⟩
  · rcases hx3.2.1 k h with h | h
    · exact (hx.2.1 k h).elim Or.inl (fun h => Or.inr (Or.inr (Or.inr h)))
    · exact Or.inr (Or.inr (Or.inl h))
  · have h1 : k ≠ j := fun e => h (Or.inl e)
    have h2 : k ≠ j + 1 := fun e => h (Or.inr (Or.inl e))
    have h3 : ¬ P1 k := fun e => h (Or.inr (Or.inr e))
    exact ⟨(had k h2).trans (hx.2.2 k h3).1, (hG k h2).trans ((hx.2.2 k h3).2.trans (hfr k h1 h2))⟩
  · exact (hG j (by omega)).trans ((hx.2.2 j hj1).2.trans ej)
  · by_cases h : i < n
    · rw [hf1 i h, he.1 i h]
    · obtain rfl : i = n := by omega
      rw [hf2, he.2]
/-- an element of one cell -/
theorem rel_one {A : Nat → Prop} {D : va_G} {cl : List vw_C} {H : Heap} {y : Nat → ClassId} {Ls : List Nat} {ad : Nat → Nat} {G : Nat → va_E} {j n q b : Nat} {ee : va_E} {u : va_W} (hP : va_P D cl u H) (hD : va_D A u) (hR : AddR y Ls ad G [(q, ee)] j n (fun i => ad (b + i)) q u) (hb : j + 1 < b) (hf : b + n ∉ Ls) (hjL : j ∈ Ls) (hn : n + 1 < 1000) :
    ∃ (Ls3 : List Nat) (ad3 : Nat → Nat) (G3 : Nat → va_E), va_P D cl (wl Ls3 ad3 G3) H ∧ va_D A (wl Ls3 ad3 G3) ∧ Ext Ls ad G Ls3 ad3 G3 (fun k => k = j ∨ k = j + 1 ∨ k = b + n) ∧ ListAt y Ls3 ad3 G3 j (n + 1) (fun i => ad3 (b + i)) ∧ (ad3 j = ad j ∧ b + n ∈ Ls3) ∧ G3 (b + n) = ee := by
  obtain ⟨Ls3, ad3, G3, h1, h2, h3, h4, h5, h6, G2, h7⟩ := rel_add hP hD hR (fun G2 => va_up G2 (b + n) ee) (fun k => k = b + n) (fun G2 => wl_push hf) (fun G2 => Ext.push) (by omega) (by omega) hjL hn (fun ad3 i => ad3 (b + i)) (fun ad3 h => ⟨fun i hi => by rw [h _ (by omega), va_up_ne _ _ (by omega)], by rw [h _ (by omega), va_up_self]⟩)
  exact ⟨Ls3, ad3, G3, h1, h2, h3, h4, ⟨by rw [h6 _ (by omega), va_up_ne _ _ (by omega)], h5 _ (List.mem_append_right _ (List.mem_singleton.mpr rfl))⟩, (h7 _ (by omega)).trans (va_up_self _ _ _)⟩
/-- a unit: three cells -/
theorem rel_unit {A : Nat → Prop} {D : va_G} {cl : List vw_C} {H : Heap} {y : Nat → ClassId} {Ls : List Nat} {ad : Nat → Nat} {G : Nat → va_E} {n q q1 q2 x : Nat} {o kd da : Int32} {u : va_W} (hP : va_P D cl u H) (hD : va_D A u) (hR : AddR y Ls ad G [(q, .inr (8, [.int o, .int da, .int 3599, .int 0, .ref q1, .ref q2, .int 1])), (q1, .inl (y 0, 9, .inl (upd (fun _ => 0) 0 kd))), (q2, .inl (y 0, 9, .inl (upd (fun _ => 0) 0 da)))] 3 n (fun i => ad (1000 + 3 * i)) q u) (hx : x = 1000 + 3 * n) (hf : ∀ k, x ≤ k → k ≤ x + 2 → k ∉ Ls) (hjL : 3 ∈ Ls) (hn : n + 1 < 1000) :
    ∃ (Ls3 : List Nat) (ad3 : Nat → Nat) (G3 : Nat → va_E), va_P D cl (wl Ls3 ad3 G3) H ∧ va_D A (wl Ls3 ad3 G3) ∧ Ext Ls ad G Ls3 ad3 G3 (fun k => k = 3 ∨ k = 4 ∨ (x ≤ k ∧ k ≤ x + 2)) ∧ ListAt y Ls3 ad3 G3 3 (n + 1) (fun i => ad3 (1000 + 3 * i)) ∧ ad3 3 = ad 3 ∧ UnitAt y Ls3 ad3 G3 x o da 3599 0 1 (upd (fun _ => 0) 0 kd) (upd (fun _ => 0) 0 da) := by
  have n1 : x + 1 ∉ Ls ++ [x] := fun h => (List.mem_append.mp h).elim (hf (x + 1) (by omega) (by omega)) (fun h => absurd (List.mem_singleton.mp h) (by omega))
  have n2 : x + 2 ∉ Ls ++ [x] ++ [x + 1] := fun h => (List.mem_append.mp h).elim (fun h => (List.mem_append.mp h).elim (hf (x + 2) (by omega) (by omega)) (fun h => absurd (List.mem_singleton.mp h) (by omega))) (fun h => absurd (List.mem_singleton.mp h) (by omega))
  have hpush : ∀ G2 : Nat → va_E, wl Ls ad G2 ++ [(q, .inr (8, [.int o, .int da, .int 3599, .int 0, .ref q1, .ref q2, .int 1])), (q1, .inl (y 0, 9, .inl (upd (fun _ => 0) 0 kd))), (q2, .inl (y 0, 9, .inl (upd (fun _ => 0) 0 da)))] = wl (Ls ++ [x] ++ [x + 1] ++ [x + 2]) (va_up (va_up (va_up ad x q) (x + 1) q1) (x + 2) q2) (va_up (va_up (va_up G2 x (.inr (8, [.int o, .int da, .int 3599, .int 0, .ref q1, .ref q2, .int 1]))) (x + 1) (.inl (y 0, 9, .inl (upd (fun _ => 0) 0 kd)))) (x + 2) (.inl (y 0, 9, .inl (upd (fun _ => 0) 0 da)))) := fun G2 => by
    rw [← wl_push n2, ← wl_push n1, ← wl_push (hf x (by omega) (by omega)), List.append_assoc, List.append_assoc]; rfl
  have hext : ∀ G2 : Nat → va_E, Ext Ls ad G2 (Ls ++ [x] ++ [x + 1] ++ [x + 2]) (va_up (va_up (va_up ad x q) (x + 1) q1) (x + 2) q2) (va_up (va_up (va_up G2 x (.inr (8, [.int o, .int da, .int 3599, .int 0, .ref q1, .ref q2, .int 1]))) (x + 1) (.inl (y 0, 9, .inl (upd (fun _ => 0) 0 kd)))) (x + 2) (.inl (y 0, 9, .inl (upd (fun _ => 0) 0 da)))) (fun k => x ≤ k ∧ k ≤ x + 2) := fun G2 =>
    Ext.tr (Ext.tr Ext.push Ext.push (R := fun k => x ≤ k ∧ k ≤ x + 2) (fun k h => by omega) (fun k h => by omega)) Ext.push (fun k h => h) (fun k h => by omega)
  obtain ⟨Ls3, ad3, G3, h1, h2, h3, h4, h5, h6, G2, h7⟩ := rel_add hP hD hR _ (fun k => x ≤ k ∧ k ≤ x + 2) hpush hext (by omega) (by omega) hjL hn (fun ad3 i => ad3 (1000 + 3 * i)) (fun ad3 h => ⟨fun i hi => by
      show ad3 (1000 + 3 * i) = ad (1000 + 3 * i)
      rw [h _ (by omega), va_up_ne _ _ (by omega), va_up_ne _ _ (by omega), va_up_ne _ _ (by omega)], by
      show ad3 (1000 + 3 * n) = q
      rw [h _ (by omega), va_up_ne _ _ (by omega), va_up_ne _ _ (by omega), ← hx, va_up_self]⟩)
  refine ⟨Ls3, ad3, G3, h1, h2, h3, h4, by rw [h6 _ (by omega), va_up_ne _ _ (by omega), va_up_ne _ _ (by omega), va_up_ne _ _ (by omega)], h5 _ (by simp), h5 _ (by simp), h5 _ (by simp), ?_, ?_, ?_, by decide, by decide⟩
  · rw [h7 _ (by omega), va_up_ne _ _ (by omega), va_up_ne _ _ (by omega), va_up_self, h6 _ (by omega), h6 _ (by omega), va_up_ne _ _ (by omega), va_up_self, va_up_self]; rfl
  · rw [h7 _ (by omega), va_up_ne _ _ (by omega), va_up_self]
  · rw [h7 _ (by omega), va_up_self]
theorem ci9 {ci : Nat} {rc : vw_C} (h : vwCl[ci]? = some rc) (hne : (vwCl[1]?).map Prod.fst ≠ (vwCl[ci]?).map Prod.fst) : ¬ vwCl[1]? = some rc := fun e => hne (by rw [e, h])

set_option maxHeartbeats 4000000 in
set_option maxRecDepth 100000 in
/-- ArrayList.size, by the object alone -/
theorem c_Jx4a65c_size_8abf5_0 (l : Launch) (D : va_G) (y : Nat → ClassId) (Ls : List Nat) (ad : Nat → Nat) (G : Nat → va_E) (j : Nat) (mc : Int32) (ea n : Nat) (hj : j ∈ Ls) (ej : G j = .inr (1, [.int mc, .ref ea, .int (nI n)])) : Met l yJx4a65c_size_8abf5 wsJx4a65c_size_8abf5 ({ frames := 0, cells := 0, slots := 0, locals := 0 }) (va_Pc [.ref (ad j)] (Wd D y (wl Ls ad G))) (vp_Si (fun r => r = nI n)) 0 0 (fun _ => False) := by
  refine Met.ofW (cc := cJx4a65c_size_8abf5) (maxL := 1) (ret := (some .int)) (by decide) rfl ?_
  intro p e s m args below meth c s₁ B hml hv
  obtain ⟨rfl, hP, hK, hN⟩ := hv
  have hx := B.exec
  have hb := B.bytes
  have hr := B.returns
  have hts := atoms_spec (ws := wsJx4a65c_size_8abf5) B.pre
  have hown : s.vm.findClass RJx4a65c = some m.cls := findClass_of_methodNamed B.named
  have hlocks := B.notSynchronized
  have hinJx4a65c : ∀ w ∈ wsJx4a65c0, w ∈ wsJx4a65c_size_8abf5 := by decide +kernel
  have hl := lv_entry ([.ref (ad j)]) (n := 1) (Nat.le_of_ble_eq_true rfl)
  rw [lg_entry_eq]
  generalize (lg_sl ([.ref (ad j)]) ++ List.replicate (1 - (lg_sl ([.ref (ad j)])).length) Slot.unset).toArray = ls at hl ⊢
  have hl : lv_has ls 1 [(0, .ref (ad j))] := hl
  refine lv_aload_n hx hb dJx4a65c_size_8abf5_0 rfl (lv_at hl 0 rfl) ?_
  refine pv_get (ci := 1) (C := RJx4a65c) (T := TJx4a65c) (N := 3) hx hb hts hinJx4a65c hown hK hP hj ej rfl 2 (by decide) (hts (.fieldLink RJx4a65c 48 "java/util/ArrayList" "size" "I") (by decide +kernel)) (fun _ h9 => h9) rfl dJx4a65c_size_8abf5_1 ?_
  exact W.iret (v := nI n) hx hb hr (fun t ht hW => ⟨nI n, rfl, rfl, ht⟩) (fun q h => by cases h) dJx4a65c_size_8abf5_4

set_option maxHeartbeats 4000000 in
set_option maxRecDepth 100000 in
/-- unit -/
theorem c_X7_unit (l : Launch) (hl0 : l.stackTraces = false) (D : va_G) (y : Nat → ClassId) (b0 df mi : Nat) (Ls : List Nat) (ad : Nat → Nat) (G : Nat → va_E) (ch dr : Nat) (hX : XAt Ls ad G ch dr) (nu : Nat) (uo : Nat → Int32) (uf ul : Nat → Nat) (ug : Nat → Int32) (ut : Nat → Nat) (uk ud : Nat → Nat → Int32) (hUs : UnitsAt y Ls ad G nu uo uf ul ug ut uk ud) (hE3 : nu = 0 → ∃ mc, G 3 = .inr (1, [.int mc, .ref df, .int (nI 0)])) (hfresh : ∀ k, k ∈ Ls → 1000 ≤ k → k < 2000 → k < 1000 + 3 * nu) (o kd da : Int32) : vx_Met l yX7_unit wsX7_unit ({ frames := 7, cells := 7, slots := 1043, locals := 191 }) (va_Pc [.ref (ad 0), .int o, .int kd, .int da] (WdL D y b0 df mi (wl Ls ad G))) (va_Qi (fun (r : Int32) (u : va_W) => (inR o 7 ∧ inR kd 4 ∧ inR da 3599) ∧ nu < 24 ∧ r = nI nu ∧ ∃ (Ls3 : List Nat) (ad3 : Nat → Nat) (G3 : Nat → va_E), u = wl Ls3 ad3 G3 ∧ Ext Ls ad G Ls3 ad3 G3 (fun k => k = 3 ∨ k = 4 ∨ (1000 + 3 * nu ≤ k ∧ k ≤ 1000 + 3 * nu + 2)) ∧ ListAt y Ls3 ad3 G3 3 (nu + 1) (fun i => ad3 (1000 + 3 * i)) ∧ ad3 3 = ad 3 ∧ UnitAt y Ls3 ad3 G3 (1000 + 3 * nu) o da 3599 0 1 (upd (fun _ => 0) 0 kd) (upd (fun _ => 0) 0 da)) (WB D b0) (fun q => b0 ≤ q)) (XX D b0 (wl Ls ad G) (fun k => (k = 0 ∧ ¬ (inR o 7 ∧ inR kd 4 ∧ inR da 3599)) ∨ (k = 1 ∧ (inR o 7 ∧ inR kd 4 ∧ inR da 3599) ∧ 24 ≤ nu))) 7 1043 (fun q => b0 ≤ q) := by
  refine vx_ofW (cc := cX7_unit) (maxL := 4) (ret := (some .int)) (by decide) rfl ?_
  intro p e s m args below meth c s₁ B hml hno hv
  obtain ⟨rfl, ⟨⟨hP, hK, hN⟩, hD, hb0, hT⟩, hLP⟩ := hv
  have hx := B.exec
  have hb := B.bytes
  have hr := B.returns
  have hts := atoms_spec (ws := wsX7_unit) B.pre
  have hown : s.vm.findClass RX7 = some m.cls := findClass_of_methodNamed B.named
  have hlocks := B.notSynchronized
  have hS : va_S (fun q => b0 ≤ q) s.heap s.heap [] := va_S.rf
  have hinX6 : ∀ w ∈ wsX60, w ∈ wsX7_unit := by decide +kernel
  have hinX7 : ∀ w ∈ wsX70, w ∈ wsX7_unit := by decide +kernel
  have hA : ∀ q, s.heap.size ≤ q → (fun q => b0 ≤ q) q := fun q h => Nat.le_trans hb0 h
  obtain ⟨hX0, eX0⟩ := id hX
  obtain ⟨mc3, ea3, hj3, ej3, hn3, -⟩ := id hUs.1
  have hl := lv_entry ([.ref (ad 0), .int o, .int kd, .int da]) (n := 4) (Nat.le_of_ble_eq_true rfl)
  rw [lg_entry_eq]
  generalize (lg_sl ([.ref (ad 0), .int o, .int kd, .int da]) ++ List.replicate (4 - (lg_sl ([.ref (ad 0), .int o, .int kd, .int da])).length) Slot.unset).toArray = ls at hl ⊢
  have hl : lv_has ls 4 [(0, .ref (ad 0)), (1, .int o), (2, .int kd), (3, .int da)] := hl
  refine lv_iload_n hx hb dX7_unit_0 rfl (lv_at hl 1 rfl) ?_
  refine vx_callv (vx_runS (As := [.int o]) (rest := []) ⟨hx, hb, hml, hown, hts⟩ (c_X7_checkOwner l hl0 D y b0 (wl Ls ad G) o) (va_cwS 1 hts gX7_unit_X7_checkOwner rfl rfl rfl (by decide +kernel) ⟨(Nat.le_of_ble_eq_true rfl), (Nat.le_of_ble_eq_true rfl)⟩) ⟨WdM_blind, WdM_at hP hK hN hD hS hb0 hT⟩ rfl rfl hl.1 rfl (lv_room (Nat.le_of_ble_eq_true rfl)) dX7_unit_1 ⟨(Nat.le_of_ble_eq_true rfl), (Nat.le_of_ble_eq_true rfl)⟩) hS (fun _ _ h => h) (fun _ h => h) (fun _ _ h => h) (fun E9 ce9 q9 k9 t9 H9 locs9 ht9 hvm9 hp9 hB9 hz9 hk9 hS9 hce9 hcv9 hcl9 => pv_out (Or.inl ⟨hp9.1, fun h => hp9.2 h.1⟩) hB9 ht9 hS9 hno hlocks hce9 hcv9 hcl9 (Nat.le_of_ble_eq_true rfl) (Nat.le_of_ble_eq_true rfl)) (fun u1 t H locs ht hvm hw1 hB hz1 hk1 hS => ?_)
  obtain ⟨hP, hD⟩ := hB
  rw [ht] at hP
  obtain ⟨hw1, rfl⟩ := hw1
  refine lv_iload_n hx hb dX7_unit_4 rfl (lv_at hl 2 rfl) ?_
  refine vx_callv (vx_runS (As := [.int kd]) (rest := []) ⟨hx, hb, hml, hown, hts⟩ (c_X7_checkKind l hl0 D y b0 (wl Ls ad G) kd) (va_cwS 1 hts gX7_unit_X7_checkKind rfl rfl rfl (by decide +kernel) ⟨(Nat.le_of_ble_eq_true rfl), (Nat.le_of_ble_eq_true rfl)⟩) ⟨WdM_blind, WdM_at hP hK hN hD hS hb0 hT⟩ rfl rfl hl.1 rfl (lv_room (Nat.le_of_ble_eq_true rfl)) dX7_unit_5 ⟨(Nat.le_of_ble_eq_true rfl), (Nat.le_of_ble_eq_true rfl)⟩) hS (fun _ _ h => h) (fun _ h => h) (fun _ _ h => h) (fun E9 ce9 q9 k9 t9 H9 locs9 ht9 hvm9 hp9 hB9 hz9 hk9 hS9 hce9 hcv9 hcl9 => pv_out (Or.inl ⟨hp9.1, fun h => hp9.2 h.2.1⟩) hB9 ht9 hS9 hno hlocks hce9 hcv9 hcl9 (Nat.le_of_ble_eq_true rfl) (Nat.le_of_ble_eq_true rfl)) (fun u5 t H locs ht hvm hw5 hB hz1 hk1 hS => ?_)
  obtain ⟨hP, hD⟩ := hB
  rw [ht] at hP
  obtain ⟨hw5, rfl⟩ := hw5
  refine lv_iload_n hx hb dX7_unit_8 rfl (lv_at hl 3 rfl) ?_
  refine vx_callv (vx_runS (As := [.int da]) (rest := []) ⟨hx, hb, hml, hown, hts⟩ (c_X7_checkDay l hl0 D y b0 (wl Ls ad G) da) (va_cwS 1 hts gX7_unit_X7_checkDay rfl rfl rfl (by decide +kernel) ⟨(Nat.le_of_ble_eq_true rfl), (Nat.le_of_ble_eq_true rfl)⟩) ⟨WdM_blind, WdM_at hP hK hN hD hS hb0 hT⟩ rfl rfl hl.1 rfl (lv_room (Nat.le_of_ble_eq_true rfl)) dX7_unit_9 ⟨(Nat.le_of_ble_eq_true rfl), (Nat.le_of_ble_eq_true rfl)⟩) hS (fun _ _ h => h) (fun _ h => h) (fun _ _ h => h) (fun E9 ce9 q9 k9 t9 H9 locs9 ht9 hvm9 hp9 hB9 hz9 hk9 hS9 hce9 hcv9 hcl9 => pv_out (Or.inl ⟨hp9.1, fun h => hp9.2 h.2.2⟩) hB9 ht9 hS9 hno hlocks hce9 hcv9 hcl9 (Nat.le_of_ble_eq_true rfl) (Nat.le_of_ble_eq_true rfl)) (fun u9 t H locs ht hvm hw9 hB hz1 hk1 hS => ?_)
  obtain ⟨hP, hD⟩ := hB
  rw [ht] at hP
  obtain ⟨hw9, rfl⟩ := hw9
  refine lv_aload_n hx hb dX7_unit_12 rfl (lv_at hl 0 rfl) ?_
  refine pv_get (ci := 9) (C := RX7) (T := TX7) (N := 7) hx hb hts hinX7 hown hK hP hX0 eX0 rfl 3 (by decide) (hts (.fieldLink RX7 29 "StorageCharge" "units" "Ljava/util/ArrayList;") (by decide +kernel)) (fun _ h9 => h9) rfl dX7_unit_13 ?_
  refine vp_callSi (va_Run.run (va_runV (As := []) (rest := []) ⟨hx, hb, hml, hown, hts⟩ (c_Jx4a65c_size_8abf5 l D y Ls ad G 3 nu (fun i => ad (1000 + 3 * i)) hUs.1) (cwV 0 hts gX7_unit_Jx4a65c_size_8abf5 rfl rfl rfl (by decide +kernel) ⟨Nat.le_of_ble_eq_true rfl, Nat.le_of_ble_eq_true rfl⟩) ⟨Wd_blind, Wd_recv hK hP (ci := 1) rfl hj3 ej3, Wd_at hP hK hN⟩ rfl rfl hl.1 rfl (lv_room (Nat.le_of_ble_eq_true rfl)) dX7_unit_16 ⟨(Nat.le_of_ble_eq_true rfl), (Nat.le_of_ble_eq_true rfl)⟩)) (fun r_16 hr_16 => ?_)
  refine lv_bipush (v := 24) hx hb dX7_unit_19 (by decide) ?_
  refine lv_icmp_lt (tgt := 34) hx hb dX7_unit_21 (by decide) (fun c_21 => ?_) (fun c_21 => ?_)
  · have hlt9 : nu < 24 := Nat.lt_of_not_le fun h => absurd c_21 (by rw [hr_16]; exact nI_nlt (a := nu) (b := 24) h (by omega))
    refine lv_aload_n hx hb dX7_unit_34 rfl (lv_at hl 0 rfl) ?_
    refine pv_get (ci := 9) (C := RX7) (T := TX7) (N := 7) hx hb hts hinX7 hown hK hP hX0 eX0 rfl 3 (by decide) (hts (.fieldLink RX7 29 "StorageCharge" "units" "Ljava/util/ArrayList;") (by decide +kernel)) (fun _ h9 => h9) rfl dX7_unit_35 ?_
    have hP : va_P D vwCl (wl Ls ad G ++ []) H := by rw [List.append_nil]; exact hP
    have hD : va_D (fun q => b0 ≤ q) (wl Ls ad G ++ []) := by rw [List.append_nil]; exact hD
    refine sx_new (ci := 8) (fs := [.int 0, .int 0, .int 0, .int 0, .null, .null, .int 0]) (C := RX6) (T := TX6) (N := 7) hx hb hts hinX6 tyX6 tyX6_ok hown (hts (.classLink RX7 100 "StorageCharge$Unit") (by decide +kernel)) (hts (.instantiable RX6 7) (by decide +kernel)) (hts (.initialized RX6) (by decide +kernel)) hK hP hD hS hA rfl (fun j hj => by rcases (show j = 0 ∨ j = 1 ∨ j = 2 ∨ j = 3 ∨ j = 4 ∨ j = 5 ∨ j = 6 by omega) with rfl | rfl | rfl | rfl | rfl | rfl | rfl <;> rfl) (Nat.le_of_ble_eq_true rfl) (Nat.le_of_ble_eq_true rfl) dX7_unit_38 (fun q_38 H hP hD hS => ?_)
    have hP : va_P D vwCl (wl Ls ad G ++ [(q_38, .inr (8, [.int 0, .int 0, .int 0, .int 0, .null, .null, .int 0]))]) H := hP
    have hD : va_D (fun q => b0 ≤ q) (wl Ls ad G ++ [(q_38, .inr (8, [.int 0, .int 0, .int 0, .int 0, .null, .null, .int 0]))]) := hD
    refine lv_dup hx hb dX7_unit_41 rfl ?_
    refine lv_iload_n hx hb dX7_unit_42 rfl (lv_at hl 1 rfl) ?_
    refine lv_iload_n hx hb dX7_unit_43 rfl (lv_at hl 2 rfl) ?_
    refine lv_iload_n hx hb dX7_unit_44 rfl (lv_at hl 3 rfl) ?_
    refine va_callv (va_runI (As := [.int o, .int kd, .int da]) (rest := [.ref q_38, .ref (ad 3)]) ⟨hx, hb, hml, hown, hts⟩ (c_X6_init l hl0 D y b0 (wl Ls ad G) q_38 o kd da) (cwI 3 hts gX7_unit_X6_init rfl rfl rfl (hts (.initialized RX6) (by decide +kernel)) (hts (.methodLink RX7 102 yX6_init) (by decide +kernel)) (hts (.instanceMethod yX6_init) (by decide +kernel)) rfl (by decide +kernel) ⟨(Nat.le_of_ble_eq_true rfl), (Nat.le_of_ble_eq_true rfl)⟩) ⟨WdM_blind, WdM_at hP hK hN hD hS hb0 hT⟩ rfl rfl hl.1 rfl (lv_room (Nat.le_of_ble_eq_true rfl)) dX7_unit_45 ⟨(Nat.le_of_ble_eq_true rfl), (Nat.le_of_ble_eq_true rfl)⟩) hS (fun _ _ h => h) (fun _ h => h) (fun u45 t H locs ht hvm hw45 hB hz1 hk1 hS => ?_)
    obtain ⟨hP, hD⟩ := hB
    rw [ht] at hP
    obtain ⟨q1, q2, hw45⟩ := hw45
    subst hw45
    refine va_calli (va_runV (As := [.ref q_38]) (rest := []) ⟨hx, hb, hml, hown, hts⟩ (c_Jx4a65c_add_9ea2d l hl0 D y b0 df mi Ls ad G [(q_38, .inr (8, [.int o, .int da, .int 3599, .int 0, .ref q1, .ref q2, .int 1])), (q1, .inl (y 0, 9, .inl (upd (fun _ => 0) 0 kd))), (q2, .inl (y 0, 9, .inl (upd (fun _ => 0) 0 da)))] 3 nu (fun i => ad (1000 + 3 * i)) hUs.1 hE3 (by omega) 8 _ rfl (ci9 (ci := 8) rfl (by decide +kernel)) (by decide +kernel) (fun i hi => ⟨1000 + 3 * i, _, (hUs.2 i hi).1.1, rfl, (hUs.2 i hi).1.2.2.2.1⟩) q_38 _ rfl) (cwV 1 hts gX7_unit_Jx4a65c_add_9ea2d rfl rfl rfl (by decide +kernel) ⟨(Nat.le_of_ble_eq_true rfl), (Nat.le_of_ble_eq_true rfl)⟩) ⟨WdL_blind, Wd_recv hK (va_Pl hP) (ci := 1) rfl hj3 ej3, WdL_at hP hK hN hD hS hb0 hT hLP⟩ rfl rfl hl.1 rfl (lv_room (Nat.le_of_ble_eq_true rfl)) dX7_unit_48 ⟨(Nat.le_of_ble_eq_true rfl), (Nat.le_of_ble_eq_true rfl)⟩) hS (fun _ _ h => h) (fun _ h => h) (fun r_48 u48 t H locs ht hvm hw48 hB hz1 hk1 hS => ?_)
    obtain ⟨hP, hD⟩ := hB
    rw [ht] at hP
    obtain ⟨-, hR2⟩ := hw48
    obtain ⟨mc2, ea2, G2, X2, cap2, f2, rfl, ej2, hfr2, -⟩ := id hR2
    have eX0 := (hfr2 0 (by decide) (by decide)).trans eX0
    refine lv_pop hx hb dX7_unit_51 rfl ?_
    refine lv_aload_n hx hb dX7_unit_52 rfl (lv_at hl 0 rfl) ?_
    refine pv_get (ci := 9) (C := RX7) (T := TX7) (N := 7) hx hb hts hinX7 hown hK (va_Pl hP) hX0 eX0 rfl 3 (by decide) (hts (.fieldLink RX7 29 "StorageCharge" "units" "Ljava/util/ArrayList;") (by decide +kernel)) (fun _ h9 => h9) rfl dX7_unit_53 ?_
    refine vp_callSi (va_Run.run (va_runV (As := []) (rest := []) ⟨hx, hb, hml, hown, hts⟩ (c_Jx4a65c_size_8abf5_0 l D y Ls ad G2 3 mc2 ea2 (nu + 1) hj3 ej2) (cwV 0 hts gX7_unit_Jx4a65c_size_8abf5 rfl rfl rfl (by decide +kernel) ⟨Nat.le_of_ble_eq_true rfl, Nat.le_of_ble_eq_true rfl⟩) ⟨Wd_blind, Wd_recv hK (va_Pl hP) (ci := 1) rfl hj3 ej2, Wd_at (va_Pl hP) hK hN⟩ rfl rfl hl.1 rfl (lv_room (Nat.le_of_ble_eq_true rfl)) dX7_unit_56 ⟨(Nat.le_of_ble_eq_true rfl), (Nat.le_of_ble_eq_true rfl)⟩)) (fun r_56 hr_56 => ?_)
    refine lv_iconst (v := 1) hx hb dX7_unit_59 (by decide) ?_
    refine lv_isub hx hb dX7_unit_60 ?_
    obtain ⟨Ls3, ad3, G3, hP, hD, hx3, hL3, ha3, hU3⟩ := rel_unit hP hD hR2 rfl (fun k h1 h2 h3 => absurd (hfresh k h3 (by omega) (by omega)) (by omega)) hj3 (by omega)
    refine W.widen (k := 7) (n := 1043) (Nat.le_of_ble_eq_true rfl) (Nat.le_of_ble_eq_true rfl) ?_
    exact vx_ret (W.iret (v := (r_56 - 1)) hx hb hr (fun t ht hW => ⟨⟨(r_56 - 1), wl Ls3 ad3 G3, rfl, ⟨⟨hw1, hw5, hw9⟩, hlt9, by rw [hr_56]; exact nI_pred nu, Ls3, ad3, G3, rfl, hx3, hL3, ha3, hU3⟩, by rw [ht]; exact hP, hD⟩, hS.F ht⟩) hS.2.2 dX7_unit_61)
  · have hge9 : 24 ≤ nu := Nat.le_of_not_lt fun h => c_21 (by rw [hr_16]; exact nI_lt h (by decide))
    exact pv_thr (text := "no room for a unit") hx hb hl0 1 (Or.inr ⟨rfl, ⟨hw1, hw5, hw9⟩, hge9⟩) hts hown (by decide +kernel) (by decide +kernel) (by decide +kernel) (by decide +kernel) (by decide +kernel) thr_b1 (by decide +kernel) hT hP hS (hl.1.trans hml.symm) dX7_unit_24 dX7_unit_27 dX7_unit_28 dX7_unit_30 dX7_unit_33 hno (Nat.le_of_ble_eq_true rfl) (Nat.le_of_ble_eq_true rfl) (Nat.le_of_ble_eq_true rfl) (Nat.le_of_ble_eq_true rfl) hlocks (Nat.le_of_ble_eq_true rfl) (Nat.le_of_ble_eq_true rfl)

theorem XAt_fr {Ls Ls3 : List Nat} {ad ad3 : Nat → Nat} {G G3 : Nat → va_E} {ch dr : Nat} (h0 : 0 ∈ Ls3) (e0 : G3 0 = G 0) (h1 : ad3 1 = ad 1) (h3 : ad3 3 = ad 3) (h5 : ad3 5 = ad 5) (h7 : ad3 7 = ad 7) (h30 : ad3 30 = ad 30) (hc : ad3 ch = ad ch) (hd : ad3 dr = ad dr) (hX : XAt Ls ad G ch dr) : XAt Ls3 ad3 G3 ch dr :=
  ⟨h0, by rw [e0, hX.2, h1, h3, h5, h7, h30, hc, hd]⟩
theorem upd_ne {f : Nat → Int32} {n i : Nat} {v : Int32} (h : i ≠ n) : upd f n v i = f i := if_neg h
theorem upd_self {f : Nat → Int32} {n : Nat} {v : Int32} : upd f n v n = v := if_pos rfl
theorem MovesAt_push {y : Nat → ClassId} {Ls Ls3 : List Nat} {ad ad3 : Nat → Nat} {G G3 : Nat → va_E} {nm : Nat} {mo mk md mp : Nat → Int32} {o kd da pc0 : Int32} (hx : Ext Ls ad G Ls3 ad3 G3 (fun k => k = 5 ∨ k = 5 + 1 ∨ k = 2000 + nm)) (hMs : MovesAt y Ls ad G nm mo mk md mp) (hn : nm < 600) (hL : ListAt y Ls3 ad3 G3 5 (nm + 1) (fun i => ad3 (2000 + i))) (hm : 2000 + nm ∈ Ls3) (e : G3 (2000 + nm) = .inr (5, [.int o, .int kd, .int da, .int pc0])) :
    MovesAt y Ls3 ad3 G3 (nm + 1) (upd mo nm o) (upd mk nm kd) (upd md nm da) (upd mp nm pc0) := by
  refine ⟨hL, fun i hi => ?_⟩
  by_cases h : i = nm
  · subst h; rw [upd_self, upd_self, upd_self, upd_self]; exact ⟨hm, e⟩
  · rw [upd_ne h, upd_ne h, upd_ne h, upd_ne h]; exact ⟨hx.1 _ (hMs.2 i (by omega)).1, ((hx.2.2 _ (by omega)).2).trans (hMs.2 i (by omega)).2⟩
theorem BillsAt_push {y : Nat → ClassId} {Ls Ls3 : List Nat} {ad ad3 : Nat → Nat} {G G3 : Nat → va_E} {nl : Nat} {bo bm bc bi : Nat → Int32} {o mo0 ce z0 : Int32} (hx : Ext Ls ad G Ls3 ad3 G3 (fun k => k = 8 ∨ k = 8 + 1 ∨ k = 3000 + nl)) (hBs : BillsAt y Ls ad G nl bo bm bc bi) (hL : ListAt y Ls3 ad3 G3 8 (nl + 1) (fun i => ad3 (3000 + i))) (hm : 3000 + nl ∈ Ls3) (e : G3 (3000 + nl) = .inr (2, [.int o, .int mo0, .int ce, .int z0])) (h8 : ad3 8 = ad 8) :
    BillsAt y Ls3 ad3 G3 (nl + 1) (upd bo nl o) (upd bm nl mo0) (upd bc nl ce) (upd bi nl z0) := by
  refine ⟨⟨hx.1 _ hBs.1.1, by rw [(hx.2.2 7 (by omega)).2, hBs.1.2, h8]⟩, hL, fun i hi => ?_⟩
  by_cases h : i = nl
  · subst h; rw [upd_self, upd_self, upd_self, upd_self]; exact ⟨hm, e⟩
  · rw [upd_ne h, upd_ne h, upd_ne h, upd_ne h]; exact ⟨hx.1 _ (hBs.2.2 i (by omega)).1, ((hx.2.2 _ (by omega)).2).trans (hBs.2.2 i (by omega)).2⟩

set_option maxHeartbeats 4000000 in
set_option maxRecDepth 100000 in
/-- move -/
theorem c_X7_move (l : Launch) (hl0 : l.stackTraces = false) (D : va_G) (y : Nat → ClassId) (b0 df mi : Nat) (Ls : List Nat) (ad : Nat → Nat) (G : Nat → va_E) (ch dr : Nat) (hX : XAt Ls ad G ch dr) (nm : Nat) (hch : ¬ (ch = 5 ∨ ch = 5 + 1 ∨ ch = 2000 + nm)) (hdr : ¬ (dr = 5 ∨ dr = 5 + 1 ∨ dr = 2000 + nm)) (mo mk md mp : Nat → Int32) (hMs : MovesAt y Ls ad G nm mo mk md mp) (hE5 : nm = 0 → ∃ mc, G 5 = .inr (1, [.int mc, .ref df, .int (nI 0)])) (hfresh : ∀ k, k ∈ Ls → 2000 ≤ k → k < 3000 → k < 2000 + nm) (o kd da pc0 : Int32) : vx_Met l yX7_move wsX7_move ({ frames := 7, cells := 5, slots := 1022, locals := 191 }) (va_Pc [.ref (ad 0), .int o, .int kd, .int da, .int pc0] (WdL D y b0 df mi (wl Ls ad G))) (va_Qi (fun (r : Int32) (u : va_W) => (inR o 7 ∧ inR kd 4 ∧ inR da 3599 ∧ (1 ≤ pc0 ∧ pc0 ≤ 100)) ∧ nm < 60 ∧ r = nI (cnt (upd mo nm o) o (nm + 1)) ∧ ∃ (Ls3 : List Nat) (ad3 : Nat → Nat) (G3 : Nat → va_E), u = wl Ls3 ad3 G3 ∧ Ext Ls ad G Ls3 ad3 G3 (fun k => k = 5 ∨ k = 5 + 1 ∨ k = 2000 + nm) ∧ ad3 5 = ad 5 ∧ MovesAt y Ls3 ad3 G3 (nm + 1) (upd mo nm o) (upd mk nm kd) (upd md nm da) (upd mp nm pc0)) (WB D b0) (fun q => b0 ≤ q)) (XX D b0 (wl Ls ad G) (fun k => (k = 0 ∧ ¬ (inR o 7 ∧ inR kd 4 ∧ inR da 3599 ∧ (1 ≤ pc0 ∧ pc0 ≤ 100))) ∨ (k = 1 ∧ (inR o 7 ∧ inR kd 4 ∧ inR da 3599 ∧ (1 ≤ pc0 ∧ pc0 ≤ 100)) ∧ 60 ≤ nm))) 5 1022 (fun q => b0 ≤ q) := by
  refine vx_ofW (cc := cX7_move) (maxL := 5) (ret := (some .int)) (by decide) rfl ?_
  intro p e s m args below meth c s₁ B hml hno hv
  obtain ⟨rfl, ⟨⟨hP, hK, hN⟩, hD, hb0, hT⟩, hLP⟩ := hv
  have hx := B.exec
  have hb := B.bytes
  have hr := B.returns
  have hts := atoms_spec (ws := wsX7_move) B.pre
  have hown : s.vm.findClass RX7 = some m.cls := findClass_of_methodNamed B.named
  have hlocks := B.notSynchronized
  have hS : va_S (fun q => b0 ≤ q) s.heap s.heap [] := va_S.rf
  have hinX3 : ∀ w ∈ wsX30, w ∈ wsX7_move := by decide +kernel
  have hinX7 : ∀ w ∈ wsX70, w ∈ wsX7_move := by decide +kernel
  have hA : ∀ q, s.heap.size ≤ q → (fun q => b0 ≤ q) q := fun q h => Nat.le_trans hb0 h
  obtain ⟨hX0, eX0⟩ := id hX
  obtain ⟨mc5, ea5, hj5, ej5, hn5, -⟩ := id hMs.1
  have hl := lv_entry ([.ref (ad 0), .int o, .int kd, .int da, .int pc0]) (n := 5) (Nat.le_of_ble_eq_true rfl)
  rw [lg_entry_eq]
  generalize (lg_sl ([.ref (ad 0), .int o, .int kd, .int da, .int pc0]) ++ List.replicate (5 - (lg_sl ([.ref (ad 0), .int o, .int kd, .int da, .int pc0])).length) Slot.unset).toArray = ls at hl ⊢
  have hl : lv_has ls 5 [(0, .ref (ad 0)), (1, .int o), (2, .int kd), (3, .int da), (4, .int pc0)] := hl
  refine lv_iload_n hx hb dX7_move_0 rfl (lv_at hl 1 rfl) ?_
  refine vx_callv (vx_runS (As := [.int o]) (rest := []) ⟨hx, hb, hml, hown, hts⟩ (c_X7_checkOwner l hl0 D y b0 (wl Ls ad G) o) (va_cwS 1 hts gX7_move_X7_checkOwner rfl rfl rfl (by decide +kernel) ⟨(Nat.le_of_ble_eq_true rfl), (Nat.le_of_ble_eq_true rfl)⟩) ⟨WdM_blind, WdM_at hP hK hN hD hS hb0 hT⟩ rfl rfl hl.1 rfl (lv_room (Nat.le_of_ble_eq_true rfl)) dX7_move_1 ⟨(Nat.le_of_ble_eq_true rfl), (Nat.le_of_ble_eq_true rfl)⟩) hS (fun _ _ h => h) (fun _ h => h) (fun _ _ h => h) (fun E9 ce9 q9 k9 t9 H9 locs9 ht9 hvm9 hp9 hB9 hz9 hk9 hS9 hce9 hcv9 hcl9 => pv_out (Or.inl ⟨hp9.1, fun h => hp9.2 h.1⟩) hB9 ht9 hS9 hno hlocks hce9 hcv9 hcl9 (Nat.le_of_ble_eq_true rfl) (Nat.le_of_ble_eq_true rfl)) (fun u1 t H locs ht hvm hw1 hB hz1 hk1 hS => ?_)
  obtain ⟨hP, hD⟩ := hB
  rw [ht] at hP
  obtain ⟨hw1, rfl⟩ := hw1
  refine lv_iload_n hx hb dX7_move_4 rfl (lv_at hl 2 rfl) ?_
  refine vx_callv (vx_runS (As := [.int kd]) (rest := []) ⟨hx, hb, hml, hown, hts⟩ (c_X7_checkKind l hl0 D y b0 (wl Ls ad G) kd) (va_cwS 1 hts gX7_move_X7_checkKind rfl rfl rfl (by decide +kernel) ⟨(Nat.le_of_ble_eq_true rfl), (Nat.le_of_ble_eq_true rfl)⟩) ⟨WdM_blind, WdM_at hP hK hN hD hS hb0 hT⟩ rfl rfl hl.1 rfl (lv_room (Nat.le_of_ble_eq_true rfl)) dX7_move_5 ⟨(Nat.le_of_ble_eq_true rfl), (Nat.le_of_ble_eq_true rfl)⟩) hS (fun _ _ h => h) (fun _ h => h) (fun _ _ h => h) (fun E9 ce9 q9 k9 t9 H9 locs9 ht9 hvm9 hp9 hB9 hz9 hk9 hS9 hce9 hcv9 hcl9 => pv_out (Or.inl ⟨hp9.1, fun h => hp9.2 h.2.1⟩) hB9 ht9 hS9 hno hlocks hce9 hcv9 hcl9 (Nat.le_of_ble_eq_true rfl) (Nat.le_of_ble_eq_true rfl)) (fun u5 t H locs ht hvm hw5 hB hz1 hk1 hS => ?_)
  obtain ⟨hP, hD⟩ := hB
  rw [ht] at hP
  obtain ⟨hw5, rfl⟩ := hw5
  refine lv_iload_n hx hb dX7_move_8 rfl (lv_at hl 3 rfl) ?_
  refine vx_callv (vx_runS (As := [.int da]) (rest := []) ⟨hx, hb, hml, hown, hts⟩ (c_X7_checkDay l hl0 D y b0 (wl Ls ad G) da) (va_cwS 1 hts gX7_move_X7_checkDay rfl rfl rfl (by decide +kernel) ⟨(Nat.le_of_ble_eq_true rfl), (Nat.le_of_ble_eq_true rfl)⟩) ⟨WdM_blind, WdM_at hP hK hN hD hS hb0 hT⟩ rfl rfl hl.1 rfl (lv_room (Nat.le_of_ble_eq_true rfl)) dX7_move_9 ⟨(Nat.le_of_ble_eq_true rfl), (Nat.le_of_ble_eq_true rfl)⟩) hS (fun _ _ h => h) (fun _ h => h) (fun _ _ h => h) (fun E9 ce9 q9 k9 t9 H9 locs9 ht9 hvm9 hp9 hB9 hz9 hk9 hS9 hce9 hcv9 hcl9 => pv_out (Or.inl ⟨hp9.1, fun h => hp9.2 h.2.2.1⟩) hB9 ht9 hS9 hno hlocks hce9 hcv9 hcl9 (Nat.le_of_ble_eq_true rfl) (Nat.le_of_ble_eq_true rfl)) (fun u9 t H locs ht hvm hw9 hB hz1 hk1 hS => ?_)
  obtain ⟨hP, hD⟩ := hB
  rw [ht] at hP
  obtain ⟨hw9, rfl⟩ := hw9
  refine lv_iload hx hb dX7_move_12 (lv_at hl 4 rfl) ?_
  refine lv_iconst (v := 1) hx hb dX7_move_14 (by decide) ?_
  refine lv_bipush (v := 100) hx hb dX7_move_15 (by decide) ?_
  refine vp_callSi (va_Run.run (va_runS (As := [.int pc0, .int 1, .int 100]) (rest := []) ⟨hx, hb, hml, hown, hts⟩ (c_X7_isWithin l pc0 1 100) (va_cwS 3 hts gX7_move_X7_isWithin rfl rfl rfl (by decide +kernel) ⟨Nat.le_of_ble_eq_true rfl, Nat.le_of_ble_eq_true rfl⟩) ⟨fun _ _ _ _ q => q, fun U hU hW => ⟨rfl, trivial⟩⟩ rfl rfl hl.1 rfl (lv_room (Nat.le_of_ble_eq_true rfl)) dX7_move_17 ⟨(Nat.le_of_ble_eq_true rfl), (Nat.le_of_ble_eq_true rfl)⟩)) (fun r_17 hr_17 => ?_)
  refine lv_if_ne (tgt := 33) hx hb dX7_move_20 (by decide) (fun c_20 => ?_) (fun c_20 => ?_)
  · have hp4 : 1 ≤ pc0 ∧ pc0 ≤ 100 := Decidable.byContradiction fun h => c_20 (by rw [hr_17]; exact wI_eq0.mpr h)
    refine lv_aload_n hx hb dX7_move_33 rfl (lv_at hl 0 rfl) ?_
    refine pv_get (ci := 9) (C := RX7) (T := TX7) (N := 7) hx hb hts hinX7 hown hK hP hX0 eX0 rfl 4 (by decide) (hts (.fieldLink RX7 33 "StorageCharge" "moves" "Ljava/util/ArrayList;") (by decide +kernel)) (fun _ h9 => h9) rfl dX7_move_34 ?_
    refine vp_callSi (va_Run.run (va_runV (As := []) (rest := []) ⟨hx, hb, hml, hown, hts⟩ (c_Jx4a65c_size_8abf5 l D y Ls ad G 5 nm (fun i => ad (2000 + i)) hMs.1) (cwV 0 hts gX7_move_Jx4a65c_size_8abf5 rfl rfl rfl (by decide +kernel) ⟨Nat.le_of_ble_eq_true rfl, Nat.le_of_ble_eq_true rfl⟩) ⟨Wd_blind, Wd_recv hK hP (ci := 1) rfl hj5 ej5, Wd_at hP hK hN⟩ rfl rfl hl.1 rfl (lv_room (Nat.le_of_ble_eq_true rfl)) dX7_move_37 ⟨(Nat.le_of_ble_eq_true rfl), (Nat.le_of_ble_eq_true rfl)⟩)) (fun r_37 hr_37 => ?_)
    refine lv_bipush (v := 60) hx hb dX7_move_40 (by decide) ?_
    refine lv_icmp_lt (tgt := 55) hx hb dX7_move_42 (by decide) (fun c_42 => ?_) (fun c_42 => ?_)
    · have hlt9 : nm < 60 := Nat.lt_of_not_le fun h => absurd c_42 (by rw [hr_37]; exact nI_nlt (a := nm) (b := 60) h (by omega))
      refine lv_aload_n hx hb dX7_move_55 rfl (lv_at hl 0 rfl) ?_
      refine pv_get (ci := 9) (C := RX7) (T := TX7) (N := 7) hx hb hts hinX7 hown hK hP hX0 eX0 rfl 4 (by decide) (hts (.fieldLink RX7 33 "StorageCharge" "moves" "Ljava/util/ArrayList;") (by decide +kernel)) (fun _ h9 => h9) rfl dX7_move_56 ?_
      have hP : va_P D vwCl (wl Ls ad G ++ []) H := by rw [List.append_nil]; exact hP
      have hD : va_D (fun q => b0 ≤ q) (wl Ls ad G ++ []) := by rw [List.append_nil]; exact hD
      refine sx_new (ci := 5) (fs := [.int 0, .int 0, .int 0, .int 0]) (C := RX3) (T := TX3) (N := 4) hx hb hts hinX3 tyX3 tyX3_ok hown (hts (.classLink RX7 140 "StorageCharge$Move") (by decide +kernel)) (hts (.instantiable RX3 4) (by decide +kernel)) (hts (.initialized RX3) (by decide +kernel)) hK hP hD hS hA rfl (fun j hj => by rcases (show j = 0 ∨ j = 1 ∨ j = 2 ∨ j = 3 by omega) with rfl | rfl | rfl | rfl <;> rfl) (Nat.le_of_ble_eq_true rfl) (Nat.le_of_ble_eq_true rfl) dX7_move_59 (fun q_59 H hP hD hS => ?_)
      have hP : va_P D vwCl (wl Ls ad G ++ [(q_59, .inr (5, [.int 0, .int 0, .int 0, .int 0]))]) H := hP
      have hD : va_D (fun q => b0 ≤ q) (wl Ls ad G ++ [(q_59, .inr (5, [.int 0, .int 0, .int 0, .int 0]))]) := hD
      refine lv_dup hx hb dX7_move_62 rfl ?_
      refine lv_iload_n hx hb dX7_move_63 rfl (lv_at hl 1 rfl) ?_
      refine lv_iload_n hx hb dX7_move_64 rfl (lv_at hl 2 rfl) ?_
      refine lv_iload_n hx hb dX7_move_65 rfl (lv_at hl 3 rfl) ?_
      refine lv_iload hx hb dX7_move_66 (lv_at hl 4 rfl) ?_
      refine va_callv (va_runI (As := [.int o, .int kd, .int da, .int pc0]) (rest := [.ref q_59, .ref (ad 5)]) ⟨hx, hb, hml, hown, hts⟩ (c_X3_init l hl0 D y b0 (wl Ls ad G) q_59 o kd da pc0) (cwI 4 hts gX7_move_X3_init rfl rfl rfl (hts (.initialized RX3) (by decide +kernel)) (hts (.methodLink RX7 142 yX3_init) (by decide +kernel)) (hts (.instanceMethod yX3_init) (by decide +kernel)) rfl (by decide +kernel) ⟨(Nat.le_of_ble_eq_true rfl), (Nat.le_of_ble_eq_true rfl)⟩) ⟨WdM_blind, WdM_at hP hK hN hD hS hb0 hT⟩ rfl rfl hl.1 rfl (lv_room (Nat.le_of_ble_eq_true rfl)) dX7_move_68 ⟨(Nat.le_of_ble_eq_true rfl), (Nat.le_of_ble_eq_true rfl)⟩) hS (fun _ _ h => h) (fun _ h => h) (fun u68 t H locs ht hvm hw68 hB hz1 hk1 hS => ?_)
      obtain ⟨hP, hD⟩ := hB
      rw [ht] at hP
      subst hw68
      refine va_calli (va_runV (As := [.ref q_59]) (rest := []) ⟨hx, hb, hml, hown, hts⟩ (c_Jx4a65c_add_9ea2d l hl0 D y b0 df mi Ls ad G [(q_59, .inr (5, [.int o, .int kd, .int da, .int pc0]))] 5 nm (fun i => ad (2000 + i)) hMs.1 hE5 (by omega) 5 _ rfl (ci9 (ci := 5) rfl (by decide +kernel)) (by decide +kernel) (fun i hi => ⟨2000 + i, _, (hMs.2 i hi).1, rfl, (hMs.2 i hi).2⟩) q_59 _ rfl) (cwV 1 hts gX7_move_Jx4a65c_add_9ea2d rfl rfl rfl (by decide +kernel) ⟨(Nat.le_of_ble_eq_true rfl), (Nat.le_of_ble_eq_true rfl)⟩) ⟨WdL_blind, Wd_recv hK (va_Pl hP) (ci := 1) rfl hj5 ej5, WdL_at hP hK hN hD hS hb0 hT hLP⟩ rfl rfl hl.1 rfl (lv_room (Nat.le_of_ble_eq_true rfl)) dX7_move_71 ⟨(Nat.le_of_ble_eq_true rfl), (Nat.le_of_ble_eq_true rfl)⟩) hS (fun _ _ h => h) (fun _ h => h) (fun r_71 u71 t H locs ht hvm hw71 hB hz1 hk1 hS => ?_)
      obtain ⟨hP, hD⟩ := hB
      rw [ht] at hP
      obtain ⟨-, hR2⟩ := hw71
      obtain ⟨mc2, ea2, G2, X2, cap2, f2, rfl, ej2, hfr2, -⟩ := id hR2
      have eX0 := (hfr2 0 (by decide) (by decide)).trans eX0
      refine lv_pop hx hb dX7_move_74 rfl ?_
      obtain ⟨Ls3, ad3, G3, hP, hD, hx3, hL3, hm3, eM3⟩ := rel_one hP hD hR2 (by decide) (fun h3 => absurd (hfresh _ h3 (by omega) (by omega)) (by omega)) hj5 (by omega)
      have had0 : ad3 0 = ad 0 := (hx3.2.2 0 (by omega)).1
      rw [← had0] at hl
      have hX3 : XAt Ls3 ad3 G3 ch dr := XAt_fr (hx3.1 _ hX.1) (hx3.2.2 0 (by omega)).2 (hx3.2.2 1 (by omega)).1 (hx3.2.2 3 (by omega)).1 hm3.1 (hx3.2.2 7 (by omega)).1 (hx3.2.2 30 (by omega)).1 (hx3.2.2 ch hch).1 (hx3.2.2 dr hdr).1 hX
      have hMs3 : MovesAt y Ls3 ad3 G3 (nm + 1) (upd mo nm o) (upd mk nm kd) (upd md nm da) (upd mp nm pc0) := MovesAt_push hx3 hMs (by omega) hL3 hm3.2 eM3
      refine lv_aload_n hx hb dX7_move_75 rfl (lv_at hl 0 rfl) ?_
      refine lv_iload_n hx hb dX7_move_76 rfl (lv_at hl 1 rfl) ?_
      refine vp_callSi (va_Run.run (va_runV (As := [.int o]) (rest := []) ⟨hx, hb, hml, hown, hts⟩ (c_X7_movesOf l D y Ls3 ad3 G3 ch dr hX3 (nm + 1) (upd mo nm o) (upd mk nm kd) (upd md nm da) (upd mp nm pc0) hMs3 o) (cwV 1 hts gX7_move_X7_movesOf rfl rfl rfl (by decide +kernel) ⟨Nat.le_of_ble_eq_true rfl, Nat.le_of_ble_eq_true rfl⟩) ⟨Wd_blind, Wd_recv hK hP (ci := 9) rfl hX3.1 hX3.2, Wd_at hP hK hN⟩ rfl rfl hl.1 rfl (lv_room (Nat.le_of_ble_eq_true rfl)) dX7_move_77 ⟨(Nat.le_of_ble_eq_true rfl), (Nat.le_of_ble_eq_true rfl)⟩)) (fun r_77 hr_77 => ?_)
      refine W.widen (k := 5) (n := 1022) (Nat.le_of_ble_eq_true rfl) (Nat.le_of_ble_eq_true rfl) ?_
      exact vx_ret (W.iret (v := r_77) hx hb hr (fun t ht hW => ⟨⟨r_77, wl Ls3 ad3 G3, rfl, ⟨⟨hw1, hw5, hw9, hp4⟩, hlt9, hr_77, Ls3, ad3, G3, rfl, hx3, hm3.1, hMs3⟩, by rw [ht]; exact hP, hD⟩, hS.F ht⟩) hS.2.2 dX7_move_80)
    · have hge9 : 60 ≤ nm := Nat.le_of_not_lt fun h => c_42 (by rw [hr_37]; exact nI_lt h (by decide))
      exact pv_thr (text := "no room for a move") hx hb hl0 1 (Or.inr ⟨rfl, ⟨hw1, hw5, hw9, hp4⟩, hge9⟩) hts hown (by decide +kernel) (by decide +kernel) (by decide +kernel) (by decide +kernel) (by decide +kernel) thr_b1 (by decide +kernel) hT hP hS (hl.1.trans hml.symm) dX7_move_45 dX7_move_48 dX7_move_49 dX7_move_51 dX7_move_54 hno (Nat.le_of_ble_eq_true rfl) (Nat.le_of_ble_eq_true rfl) (Nat.le_of_ble_eq_true rfl) (Nat.le_of_ble_eq_true rfl) hlocks (Nat.le_of_ble_eq_true rfl) (Nat.le_of_ble_eq_true rfl)
  · have hp5 : ¬ (1 ≤ pc0 ∧ pc0 ≤ 100) := wI_eq0.mp (by rw [← hr_17]; exact c_20)
    exact pv_thr (text := "no such number of pieces") hx hb hl0 0 (Or.inl ⟨rfl, fun h => hp5 h.2.2.2⟩) hts hown (by decide +kernel) (by decide +kernel) (by decide +kernel) (by decide +kernel) (by decide +kernel) thr_b0 (by decide +kernel) hT hP hS (hl.1.trans hml.symm) dX7_move_23 dX7_move_26 dX7_move_27 dX7_move_29 dX7_move_32 hno (Nat.le_of_ble_eq_true rfl) (Nat.le_of_ble_eq_true rfl) (Nat.le_of_ble_eq_true rfl) (Nat.le_of_ble_eq_true rfl) hlocks (Nat.le_of_ble_eq_true rfl) (Nat.le_of_ble_eq_true rfl)

set_option maxHeartbeats 4000000 in
set_option maxRecDepth 100000 in
/-- Bills.add -/
theorem c_X1_add (l : Launch) (hl0 : l.stackTraces = false) (D : va_G) (y : Nat → ClassId) (b0 df mi : Nat) (Ls : List Nat) (ad : Nat → Nat) (G : Nat → va_E) (X : va_W) (nl : Nat) (bo bm bc bi : Nat → Int32) (hBs : BillsAt y Ls ad G nl bo bm bc bi) (hE8 : nl = 0 → ∃ mc, G 8 = .inr (1, [.int mc, .ref df, .int (nI 0)])) (hlt : nl < 512) (a : Nat) (fs : List Value) (hX0e : X[0]? = some (a, .inr (2, fs))) : Met l yX1_add wsX1_add ({ frames := 7, cells := 1, slots := 1000, locals := 191 }) (va_Pc [.ref (ad 7), .ref a] (WdL D y b0 df mi (wl Ls ad G ++ X))) (va_Qv (fun (u : va_W) => AddR y Ls ad G X 8 nl (fun i => ad (3000 + i)) a u) (WB D b0) (fun q => b0 ≤ q)) 1 1000 (fun q => b0 ≤ q) := by
  refine Met.ofW (cc := cX1_add) (maxL := 2) (ret := none) (by decide) rfl ?_
  intro p e s m args below meth c s₁ B hml hv
  obtain ⟨rfl, ⟨⟨hP, hK, hN⟩, hD, hb0, hT⟩, hLP⟩ := hv
  have hx := B.exec
  have hb := B.bytes
  have hr := B.returns
  have hts := atoms_spec (ws := wsX1_add) B.pre
  have hown : s.vm.findClass RX1 = some m.cls := findClass_of_methodNamed B.named
  have hlocks := B.notSynchronized
  have hS : va_S (fun q => b0 ≤ q) s.heap s.heap [] := va_S.rf
  have hinX1 : ∀ w ∈ wsX10, w ∈ wsX1_add := by decide +kernel
  have hA : ∀ q, s.heap.size ≤ q → (fun q => b0 ≤ q) q := fun q h => Nat.le_trans hb0 h
  obtain ⟨mc8, ea8, hj8, ej8, hn8, -⟩ := id hBs.2.1
  have hl := lv_entry ([.ref (ad 7), .ref a]) (n := 2) (Nat.le_of_ble_eq_true rfl)
  rw [lg_entry_eq]
  generalize (lg_sl ([.ref (ad 7), .ref a]) ++ List.replicate (2 - (lg_sl ([.ref (ad 7), .ref a])).length) Slot.unset).toArray = ls at hl ⊢
  have hl : lv_has ls 2 [(0, .ref (ad 7)), (1, .ref a)] := hl
  refine lv_aload_n hx hb dX1_add_0 rfl (lv_at hl 0 rfl) ?_
  refine pv_get (ci := 3) (C := RX1) (T := TX1) (N := 1) hx hb hts hinX1 hown hK (va_Pl hP) hBs.1.1 hBs.1.2 rfl 0 (by decide) (hts (.fieldLink RX1 12 "StorageCharge$Bills" "lines" "Ljava/util/ArrayList;") (by decide +kernel)) (fun _ h9 => h9) rfl dX1_add_1 ?_
  refine vp_callSi (va_Run.run (va_runV (As := []) (rest := []) ⟨hx, hb, hml, hown, hts⟩ (c_Jx4a65c_size_8abf5 l D y Ls ad G 8 nl (fun i => ad (3000 + i)) hBs.2.1) (cwV 0 hts gX1_add_Jx4a65c_size_8abf5 rfl rfl rfl (by decide +kernel) ⟨Nat.le_of_ble_eq_true rfl, Nat.le_of_ble_eq_true rfl⟩) ⟨Wd_blind, Wd_recv hK (va_Pl hP) (ci := 1) rfl hj8 ej8, Wd_at (va_Pl hP) hK hN⟩ rfl rfl hl.1 rfl (lv_room (Nat.le_of_ble_eq_true rfl)) dX1_add_4 ⟨(Nat.le_of_ble_eq_true rfl), (Nat.le_of_ble_eq_true rfl)⟩)) (fun r_4 hr_4 => ?_)
  refine lv_sipush (v := 512) hx hb dX1_add_7 (by decide) ?_
  refine lv_icmp_ge (tgt := 22) hx hb dX1_add_10 (by decide) (fun c_10 => ?_) (fun c_10 => ?_)
  · exact absurd c_10 (by rw [hr_4]; exact nI_ge (a := nl) (b := 512) hlt (by decide))
  · refine lv_aload_n hx hb dX1_add_13 rfl (lv_at hl 0 rfl) ?_
    refine pv_get (ci := 3) (C := RX1) (T := TX1) (N := 1) hx hb hts hinX1 hown hK (va_Pl hP) hBs.1.1 hBs.1.2 rfl 0 (by decide) (hts (.fieldLink RX1 12 "StorageCharge$Bills" "lines" "Ljava/util/ArrayList;") (by decide +kernel)) (fun _ h9 => h9) rfl dX1_add_14 ?_
    refine lv_aload_n hx hb dX1_add_17 rfl (lv_at hl 1 rfl) ?_
    refine va_calli (va_runV (As := [.ref a]) (rest := []) ⟨hx, hb, hml, hown, hts⟩ (c_Jx4a65c_add_9ea2d l hl0 D y b0 df mi Ls ad G X 8 nl (fun i => ad (3000 + i)) hBs.2.1 hE8 (by omega) 2 _ rfl (ci9 (ci := 2) rfl (by decide +kernel)) (by decide +kernel) (fun i hi => ⟨3000 + i, _, (hBs.2.2 i hi).1, rfl, (hBs.2.2 i hi).2⟩) a fs hX0e) (cwV 1 hts gX1_add_Jx4a65c_add_9ea2d rfl rfl rfl (by decide +kernel) ⟨(Nat.le_of_ble_eq_true rfl), (Nat.le_of_ble_eq_true rfl)⟩) ⟨WdL_blind, Wd_recv hK (va_Pl hP) (ci := 1) rfl hj8 ej8, WdL_at hP hK hN hD hS hb0 hT hLP⟩ rfl rfl hl.1 rfl (lv_room (Nat.le_of_ble_eq_true rfl)) dX1_add_18 ⟨(Nat.le_of_ble_eq_true rfl), (Nat.le_of_ble_eq_true rfl)⟩) hS (fun _ _ h => h) (fun _ h => h) (fun r_18 u18 t H locs ht hvm hw18 hB hz1 hk1 hS => ?_)
    obtain ⟨hP, hD⟩ := hB
    rw [ht] at hP
    refine lv_pop hx hb dX1_add_21 rfl ?_
    refine W.widen (k := 1) (n := 1000) (Nat.le_of_ble_eq_true rfl) (Nat.le_of_ble_eq_true rfl) ?_
    exact W.vret hx hb hr (fun t ht hW => ⟨⟨u18, rfl, hw18.2, by rw [ht]; exact hP, hD⟩, hS.F ht⟩) hS.2.2 dX1_add_22

set_option maxHeartbeats 4000000 in
set_option maxRecDepth 100000 in
/-- bill -/
theorem c_X7_bill (l : Launch) (hl0 : l.stackTraces = false) (D : va_G) (y : Nat → ClassId) (b0 df mi : Nat) (Ls : List Nat) (ad : Nat → Nat) (G : Nat → va_E) (ch dr : Nat) (hX : XAt Ls ad G ch dr) (st ha mn dO dD dP : Nat → Int32) (nd : Nat) (li ow : Int32) (hC : ChargesAt y Ls ad G ch st ha mn dO dD dP nd li ow) (nu : Nat) (uo : Nat → Int32) (uf ul : Nat → Nat) (ug : Nat → Int32) (ut : Nat → Nat) (uk ud : Nat → Nat → Int32) (hUs : UnitsAt y Ls ad G nu uo uf ul ug ut uk ud) (nm : Nat) (mo mk md mp : Nat → Int32) (hMs : MovesAt y Ls ad G nm mo mk md mp) (nl : Nat) (bo bm bc bi : Nat → Int32) (hBs : BillsAt y Ls ad G nl bo bm bc bi) (hE8 : nl = 0 → ∃ mc, G 8 = .inr (1, [.int mc, .ref df, .int (nI 0)])) (hlt5 : nl < 512) (hfresh : ∀ k, k ∈ Ls → 3000 ≤ k → k < 3000 + nl) (o mo0 : Int32) : vx_Met l yX7_bill wsX7_bill ({ frames := 8, cells := 4, slots := 1016, locals := 212 }) (va_Pc [.ref (ad 0), .int o, .int mo0] (WdL D y b0 df mi (wl Ls ad G))) (va_Qi (fun (r : Int32) (u : va_W) => inR o 7 ∧ inR mo0 119 ∧ ¬ hasD bo bm o mo0 nl ∧ (∃ m0, m0 < 120 ∧ mo0 = nI m0 ∧ r = sumX st ha mn dO dD dP nd nu uo uf ul ut uk ud nm mo mk md mp o o m0) ∧ ∃ (Ls3 : List Nat) (ad3 : Nat → Nat) (G3 : Nat → va_E), u = wl Ls3 ad3 G3 ∧ Ext Ls ad G Ls3 ad3 G3 (fun k => k = 8 ∨ k = 8 + 1 ∨ k = 3000 + nl) ∧ ad3 8 = ad 8 ∧ BillsAt y Ls3 ad3 G3 (nl + 1) (upd bo nl o) (upd bm nl mo0) (upd bc nl (r)) (upd bi nl 0)) (WB D b0) (fun q => b0 ≤ q)) (XX D b0 (wl Ls ad G) (fun k => (k = 0 ∧ ¬ (inR o 7 ∧ inR mo0 119)) ∨ (k = 3 ∧ inR o 7 ∧ inR mo0 119 ∧ hasD bo bm o mo0 nl))) 4 1016 (fun q => b0 ≤ q) := by
  refine vx_ofW (cc := cX7_bill) (maxL := 4) (ret := (some .int)) (by decide) rfl ?_
  intro p e s m args below meth c s₁ B hml hno hv
  obtain ⟨rfl, ⟨⟨hP, hK, hN⟩, hD, hb0, hT⟩, hLP⟩ := hv
  have hx := B.exec
  have hb := B.bytes
  have hr := B.returns
  have hts := atoms_spec (ws := wsX7_bill) B.pre
  have hown : s.vm.findClass RX7 = some m.cls := findClass_of_methodNamed B.named
  have hlocks := B.notSynchronized
  have hS : va_S (fun q => b0 ≤ q) s.heap s.heap [] := va_S.rf
  have hinX0 : ∀ w ∈ wsX00, w ∈ wsX7_bill := by decide +kernel
  have hinX7 : ∀ w ∈ wsX70, w ∈ wsX7_bill := by decide +kernel
  have hA : ∀ q, s.heap.size ≤ q → (fun q => b0 ≤ q) q := fun q h => Nat.le_trans hb0 h
  obtain ⟨hX0, eX0⟩ := id hX
  have hl := lv_entry ([.ref (ad 0), .int o, .int mo0]) (n := 4) (Nat.le_of_ble_eq_true rfl)
  rw [lg_entry_eq]
  generalize (lg_sl ([.ref (ad 0), .int o, .int mo0]) ++ List.replicate (4 - (lg_sl ([.ref (ad 0), .int o, .int mo0])).length) Slot.unset).toArray = ls at hl ⊢
  have hl : lv_has ls 4 [(0, .ref (ad 0)), (1, .int o), (2, .int mo0)] := hl
  refine lv_iload_n hx hb dX7_bill_0 rfl (lv_at hl 1 rfl) ?_
  refine vx_callv (vx_runS (As := [.int o]) (rest := []) ⟨hx, hb, hml, hown, hts⟩ (c_X7_checkOwner l hl0 D y b0 (wl Ls ad G) o) (va_cwS 1 hts gX7_bill_X7_checkOwner rfl rfl rfl (by decide +kernel) ⟨(Nat.le_of_ble_eq_true rfl), (Nat.le_of_ble_eq_true rfl)⟩) ⟨WdM_blind, WdM_at hP hK hN hD hS hb0 hT⟩ rfl rfl hl.1 rfl (lv_room (Nat.le_of_ble_eq_true rfl)) dX7_bill_1 ⟨(Nat.le_of_ble_eq_true rfl), (Nat.le_of_ble_eq_true rfl)⟩) hS (fun _ _ h => h) (fun _ h => h) (fun _ _ h => h) (fun E9 ce9 q9 k9 t9 H9 locs9 ht9 hvm9 hp9 hB9 hz9 hk9 hS9 hce9 hcv9 hcl9 => pv_out (Or.inl ⟨hp9.1, fun h => hp9.2 h.1⟩) hB9 ht9 hS9 hno hlocks hce9 hcv9 hcl9 (Nat.le_of_ble_eq_true rfl) (Nat.le_of_ble_eq_true rfl)) (fun u1 t H locs ht hvm hw1 hB hz1 hk1 hS => ?_)
  obtain ⟨hP, hD⟩ := hB
  rw [ht] at hP
  obtain ⟨hw1, rfl⟩ := hw1
  refine lv_iload_n hx hb dX7_bill_4 rfl (lv_at hl 2 rfl) ?_
  refine vx_callv (vx_runS (As := [.int mo0]) (rest := []) ⟨hx, hb, hml, hown, hts⟩ (c_X7_checkMonth l hl0 D y b0 (wl Ls ad G) mo0) (va_cwS 1 hts gX7_bill_X7_checkMonth rfl rfl rfl (by decide +kernel) ⟨(Nat.le_of_ble_eq_true rfl), (Nat.le_of_ble_eq_true rfl)⟩) ⟨WdM_blind, WdM_at hP hK hN hD hS hb0 hT⟩ rfl rfl hl.1 rfl (lv_room (Nat.le_of_ble_eq_true rfl)) dX7_bill_5 ⟨(Nat.le_of_ble_eq_true rfl), (Nat.le_of_ble_eq_true rfl)⟩) hS (fun _ _ h => h) (fun _ h => h) (fun _ _ h => h) (fun E9 ce9 q9 k9 t9 H9 locs9 ht9 hvm9 hp9 hB9 hz9 hk9 hS9 hce9 hcv9 hcl9 => pv_out (Or.inl ⟨hp9.1, fun h => hp9.2 h.2⟩) hB9 ht9 hS9 hno hlocks hce9 hcv9 hcl9 (Nat.le_of_ble_eq_true rfl) (Nat.le_of_ble_eq_true rfl)) (fun u5 t H locs ht hvm hw5 hB hz1 hk1 hS => ?_)
  obtain ⟨hP, hD⟩ := hB
  rw [ht] at hP
  obtain ⟨hw5, rfl⟩ := hw5
  obtain ⟨m0, hm, rfl⟩ := within_nI (n := 120) (by decide) (by decide) hw5
  refine lv_aload_n hx hb dX7_bill_8 rfl (lv_at hl 0 rfl) ?_
  refine pv_get (ci := 9) (C := RX7) (T := TX7) (N := 7) hx hb hts hinX7 hown hK hP hX0 eX0 rfl 5 (by decide) (hts (.fieldLink RX7 39 "StorageCharge" "bills" "LStorageCharge$Bills;") (by decide +kernel)) (fun _ h9 => h9) rfl dX7_bill_9 ?_
  refine lv_iload_n hx hb dX7_bill_12 rfl (lv_at hl 1 rfl) ?_
  refine lv_iload_n hx hb dX7_bill_13 rfl (lv_at hl 2 rfl) ?_
  refine vp_callSi (va_Run.run (va_runV (As := [.int o, .int (nI m0)]) (rest := []) ⟨hx, hb, hml, hown, hts⟩ (c_X1_isBilled l D y Ls ad G nl bo bm bc bi hBs o (nI m0)) (cwV 2 hts gX7_bill_X1_isBilled rfl rfl rfl (by decide +kernel) ⟨Nat.le_of_ble_eq_true rfl, Nat.le_of_ble_eq_true rfl⟩) ⟨Wd_blind, Wd_recv hK hP (ci := 3) rfl hBs.1.1 hBs.1.2, Wd_at hP hK hN⟩ rfl rfl hl.1 rfl (lv_room (Nat.le_of_ble_eq_true rfl)) dX7_bill_14 ⟨(Nat.le_of_ble_eq_true rfl), (Nat.le_of_ble_eq_true rfl)⟩)) (fun r_14 hr_14 => ?_)
  refine lv_if_eq (tgt := 30) hx hb dX7_bill_17 (by decide) (fun c_17 => ?_) (fun c_17 => ?_)
  · refine lv_aload_n hx hb dX7_bill_30 rfl (lv_at hl 0 rfl) ?_
    refine lv_iload_n hx hb dX7_bill_31 rfl (lv_at hl 1 rfl) ?_
    refine lv_iload_n hx hb dX7_bill_32 rfl (lv_at hl 1 rfl) ?_
    refine lv_iload_n hx hb dX7_bill_33 rfl (lv_at hl 2 rfl) ?_
    refine vp_callSi (va_Run.run (va_runV (As := [.int o, .int o, .int (nI m0)]) (rest := []) ⟨hx, hb, hml, hown, hts⟩ (c_X7_sumBy l D y Ls ad G ch dr hX st ha mn dO dD dP nd li ow hC nu uo uf ul ug ut uk ud hUs nm mo mk md mp hMs o o m0 hm) (cwV 3 hts gX7_bill_X7_sumBy rfl rfl rfl (by decide +kernel) ⟨Nat.le_of_ble_eq_true rfl, Nat.le_of_ble_eq_true rfl⟩) ⟨Wd_blind, Wd_recv hK hP (ci := 9) rfl hX0 eX0, Wd_at hP hK hN⟩ rfl rfl hl.1 rfl (lv_room (Nat.le_of_ble_eq_true rfl)) dX7_bill_34 ⟨(Nat.le_of_ble_eq_true rfl), (Nat.le_of_ble_eq_true rfl)⟩)) (fun r_34 hr_34 => ?_)
    refine lv_istore_n (lv' := [(3, .int r_34), (0, .ref (ad 0)), (1, .int o), (2, .int (nI m0))]) hx hb dX7_bill_37 rfl hl (by decide) rfl (fun ls hl => ?_)
    refine lv_aload_n hx hb dX7_bill_38 rfl (lv_at hl 1 rfl) ?_
    refine pv_get (ci := 9) (C := RX7) (T := TX7) (N := 7) hx hb hts hinX7 hown hK hP hX0 eX0 rfl 5 (by decide) (hts (.fieldLink RX7 39 "StorageCharge" "bills" "LStorageCharge$Bills;") (by decide +kernel)) (fun _ h9 => h9) rfl dX7_bill_39 ?_
    have hP : va_P D vwCl (wl Ls ad G ++ []) H := by rw [List.append_nil]; exact hP
    have hD : va_D (fun q => b0 ≤ q) (wl Ls ad G ++ []) := by rw [List.append_nil]; exact hD
    refine sx_new (ci := 2) (fs := [.int 0, .int 0, .int 0, .int 0]) (C := RX0) (T := TX0) (N := 4) hx hb hts hinX0 tyX0 tyX0_ok hown (hts (.classLink RX7 176 "StorageCharge$BillLine") (by decide +kernel)) (hts (.instantiable RX0 4) (by decide +kernel)) (hts (.initialized RX0) (by decide +kernel)) hK hP hD hS hA rfl (fun j hj => by rcases (show j = 0 ∨ j = 1 ∨ j = 2 ∨ j = 3 by omega) with rfl | rfl | rfl | rfl <;> rfl) (Nat.le_of_ble_eq_true rfl) (Nat.le_of_ble_eq_true rfl) dX7_bill_42 (fun q_42 H hP hD hS => ?_)
    have hP : va_P D vwCl (wl Ls ad G ++ [(q_42, .inr (2, [.int 0, .int 0, .int 0, .int 0]))]) H := hP
    have hD : va_D (fun q => b0 ≤ q) (wl Ls ad G ++ [(q_42, .inr (2, [.int 0, .int 0, .int 0, .int 0]))]) := hD
    refine lv_dup hx hb dX7_bill_45 rfl ?_
    refine lv_iload_n hx hb dX7_bill_46 rfl (lv_at hl 2 rfl) ?_
    refine lv_iload_n hx hb dX7_bill_47 rfl (lv_at hl 3 rfl) ?_
    refine lv_iload_n hx hb dX7_bill_48 rfl (lv_at hl 0 rfl) ?_
    refine lv_iconst (v := 0) hx hb dX7_bill_49 (by decide) ?_
    refine va_callv (va_runI (As := [.int o, .int (nI m0), .int r_34, .int 0]) (rest := [.ref q_42, .ref (ad 7)]) ⟨hx, hb, hml, hown, hts⟩ (c_X0_init l hl0 D y b0 (wl Ls ad G) q_42 o (nI m0) r_34 0 rfl rfl) (cwI 4 hts gX7_bill_X0_init rfl rfl rfl (hts (.initialized RX0) (by decide +kernel)) (hts (.methodLink RX7 178 yX0_init) (by decide +kernel)) (hts (.instanceMethod yX0_init) (by decide +kernel)) rfl (by decide +kernel) ⟨(Nat.le_of_ble_eq_true rfl), (Nat.le_of_ble_eq_true rfl)⟩) ⟨WdM_blind, WdM_at hP hK hN hD hS hb0 hT⟩ rfl rfl hl.1 rfl (lv_room (Nat.le_of_ble_eq_true rfl)) dX7_bill_50 ⟨(Nat.le_of_ble_eq_true rfl), (Nat.le_of_ble_eq_true rfl)⟩) hS (fun _ _ h => h) (fun _ h => h) (fun u50 t H locs ht hvm hw50 hB hz1 hk1 hS => ?_)
    obtain ⟨hP, hD⟩ := hB
    rw [ht] at hP
    subst hw50
    refine va_callv (va_runV (As := [.ref q_42]) (rest := []) ⟨hx, hb, hml, hown, hts⟩ (c_X1_add l hl0 D y b0 df mi Ls ad G [(q_42, .inr (2, [.int o, .int (nI m0), .int r_34, .int 0]))] nl bo bm bc bi hBs hE8 hlt5 q_42 _ rfl) (cwV 1 hts gX7_bill_X1_add rfl rfl rfl (by decide +kernel) ⟨(Nat.le_of_ble_eq_true rfl), (Nat.le_of_ble_eq_true rfl)⟩) ⟨WdL_blind, Wd_recv hK (va_Pl hP) (ci := 3) rfl hBs.1.1 hBs.1.2, WdL_at hP hK hN hD hS hb0 hT hLP⟩ rfl rfl hl.1 rfl (lv_room (Nat.le_of_ble_eq_true rfl)) dX7_bill_53 ⟨(Nat.le_of_ble_eq_true rfl), (Nat.le_of_ble_eq_true rfl)⟩) hS (fun _ _ h => h) (fun _ h => h) (fun u53 t H locs ht hvm hw53 hB hz1 hk1 hS => ?_)
    obtain ⟨hP, hD⟩ := hB
    rw [ht] at hP
    obtain ⟨Ls3, ad3, G3, hP, hD, hx3, hL3, hm3, eM3⟩ := rel_one hP hD hw53 (by decide) (fun h3 => absurd (hfresh _ h3 (by omega)) (by omega)) hBs.2.1.choose_spec.choose_spec.1 (by omega)
    have hBs3 := BillsAt_push hx3 hBs hL3 hm3.2 eM3 hm3.1
    refine lv_iload_n hx hb dX7_bill_56 rfl (lv_at hl 0 rfl) ?_
    refine W.widen (k := 4) (n := 1016) (Nat.le_of_ble_eq_true rfl) (Nat.le_of_ble_eq_true rfl) ?_
    exact vx_ret (W.iret (v := r_34) hx hb hr (fun t ht hW => ⟨⟨r_34, wl Ls3 ad3 G3, rfl, ⟨hw1, hw5, hr_14.elim (fun h => absurd (h.1.symm.trans c_17) (by decide)) (fun h => h.2), ⟨m0, hm, rfl, hr_34⟩, Ls3, ad3, G3, rfl, hx3, hm3.1, hBs3⟩, by rw [ht]; exact hP, hD⟩, hS.F ht⟩) hS.2.2 dX7_bill_57)
  · exact pv_thr (text := "the month is billed") hx hb hl0 3 (Or.inr ⟨rfl, hw1, hw5, hr_14.elim (fun h => h.2) (fun h => absurd h.1 c_17)⟩) hts hown (by decide +kernel) (by decide +kernel) (by decide +kernel) (by decide +kernel) (by decide +kernel) thr_b3 (by decide +kernel) hT hP hS (hl.1.trans hml.symm) dX7_bill_20 dX7_bill_23 dX7_bill_24 dX7_bill_26 dX7_bill_29 hno (Nat.le_of_ble_eq_true rfl) (Nat.le_of_ble_eq_true rfl) (Nat.le_of_ble_eq_true rfl) (Nat.le_of_ble_eq_true rfl) hlocks (Nat.le_of_ble_eq_true rfl) (Nat.le_of_ble_eq_true rfl)

set_option maxHeartbeats 4000000 in
set_option maxRecDepth 100000 in
/-- correct -/
theorem c_X7_correct (l : Launch) (hl0 : l.stackTraces = false) (D : va_G) (y : Nat → ClassId) (b0 df mi : Nat) (Ls : List Nat) (ad : Nat → Nat) (G : Nat → va_E) (ch dr : Nat) (hX : XAt Ls ad G ch dr) (st ha mn dO dD dP : Nat → Int32) (nd : Nat) (li ow : Int32) (hC : ChargesAt y Ls ad G ch st ha mn dO dD dP nd li ow) (nu : Nat) (uo : Nat → Int32) (uf ul : Nat → Nat) (ug : Nat → Int32) (ut : Nat → Nat) (uk ud : Nat → Nat → Int32) (hUs : UnitsAt y Ls ad G nu uo uf ul ug ut uk ud) (nm : Nat) (mo mk md mp : Nat → Int32) (hMs : MovesAt y Ls ad G nm mo mk md mp) (nl : Nat) (bo bm bc bi : Nat → Int32) (hBs : BillsAt y Ls ad G nl bo bm bc bi) (hE8 : nl = 0 → ∃ mc, G 8 = .inr (1, [.int mc, .ref df, .int (nI 0)])) (hlt5 : nl < 512) (hfresh : ∀ k, k ∈ Ls → 3000 ≤ k → k < 3000 + nl) (o mo0 : Int32) : vx_Met l yX7_correct wsX7_correct ({ frames := 8, cells := 4, slots := 1016, locals := 212 }) (va_Pc [.ref (ad 0), .int o, .int mo0] (WdL D y b0 df mi (wl Ls ad G))) (va_Qi (fun (r : Int32) (u : va_W) => inR o 7 ∧ inR mo0 119 ∧ hasD bo bm o mo0 nl ∧ (∃ m0, m0 < 120 ∧ mo0 = nI m0 ∧ r = sumX st ha mn dO dD dP nd nu uo uf ul ut uk ud nm mo mk md mp o o m0 - cM bo bm bc o mo0 nl) ∧ ((r = 0 ∧ u = wl Ls ad G) ∨ (¬ r = 0 ∧ ∃ (Ls3 : List Nat) (ad3 : Nat → Nat) (G3 : Nat → va_E), u = wl Ls3 ad3 G3 ∧ Ext Ls ad G Ls3 ad3 G3 (fun k => k = 8 ∨ k = 8 + 1 ∨ k = 3000 + nl) ∧ ad3 8 = ad 8 ∧ BillsAt y Ls3 ad3 G3 (nl + 1) (upd bo nl o) (upd bm nl mo0) (upd bc nl (r)) (upd bi nl 1)))) (WB D b0) (fun q => b0 ≤ q)) (XX D b0 (wl Ls ad G) (fun k => (k = 0 ∧ ¬ (inR o 7 ∧ inR mo0 119)) ∨ (k = 3 ∧ inR o 7 ∧ inR mo0 119 ∧ ¬ hasD bo bm o mo0 nl))) 4 1016 (fun q => b0 ≤ q) := by
  refine vx_ofW (cc := cX7_correct) (maxL := 4) (ret := (some .int)) (by decide) rfl ?_
  intro p e s m args below meth c s₁ B hml hno hv
  obtain ⟨rfl, ⟨⟨hP, hK, hN⟩, hD, hb0, hT⟩, hLP⟩ := hv
  have hx := B.exec
  have hb := B.bytes
  have hr := B.returns
  have hts := atoms_spec (ws := wsX7_correct) B.pre
  have hown : s.vm.findClass RX7 = some m.cls := findClass_of_methodNamed B.named
  have hlocks := B.notSynchronized
  have hS : va_S (fun q => b0 ≤ q) s.heap s.heap [] := va_S.rf
  have hinX0 : ∀ w ∈ wsX00, w ∈ wsX7_correct := by decide +kernel
  have hinX7 : ∀ w ∈ wsX70, w ∈ wsX7_correct := by decide +kernel
  have hA : ∀ q, s.heap.size ≤ q → (fun q => b0 ≤ q) q := fun q h => Nat.le_trans hb0 h
  obtain ⟨hX0, eX0⟩ := id hX
  have hl := lv_entry ([.ref (ad 0), .int o, .int mo0]) (n := 4) (Nat.le_of_ble_eq_true rfl)
  rw [lg_entry_eq]
  generalize (lg_sl ([.ref (ad 0), .int o, .int mo0]) ++ List.replicate (4 - (lg_sl ([.ref (ad 0), .int o, .int mo0])).length) Slot.unset).toArray = ls at hl ⊢
  have hl : lv_has ls 4 [(0, .ref (ad 0)), (1, .int o), (2, .int mo0)] := hl
  refine lv_iload_n hx hb dX7_correct_0 rfl (lv_at hl 1 rfl) ?_
  refine vx_callv (vx_runS (As := [.int o]) (rest := []) ⟨hx, hb, hml, hown, hts⟩ (c_X7_checkOwner l hl0 D y b0 (wl Ls ad G) o) (va_cwS 1 hts gX7_correct_X7_checkOwner rfl rfl rfl (by decide +kernel) ⟨(Nat.le_of_ble_eq_true rfl), (Nat.le_of_ble_eq_true rfl)⟩) ⟨WdM_blind, WdM_at hP hK hN hD hS hb0 hT⟩ rfl rfl hl.1 rfl (lv_room (Nat.le_of_ble_eq_true rfl)) dX7_correct_1 ⟨(Nat.le_of_ble_eq_true rfl), (Nat.le_of_ble_eq_true rfl)⟩) hS (fun _ _ h => h) (fun _ h => h) (fun _ _ h => h) (fun E9 ce9 q9 k9 t9 H9 locs9 ht9 hvm9 hp9 hB9 hz9 hk9 hS9 hce9 hcv9 hcl9 => pv_out (Or.inl ⟨hp9.1, fun h => hp9.2 h.1⟩) hB9 ht9 hS9 hno hlocks hce9 hcv9 hcl9 (Nat.le_of_ble_eq_true rfl) (Nat.le_of_ble_eq_true rfl)) (fun u1 t H locs ht hvm hw1 hB hz1 hk1 hS => ?_)
  obtain ⟨hP, hD⟩ := hB
  rw [ht] at hP
  obtain ⟨hw1, rfl⟩ := hw1
  refine lv_iload_n hx hb dX7_correct_4 rfl (lv_at hl 2 rfl) ?_
  refine vx_callv (vx_runS (As := [.int mo0]) (rest := []) ⟨hx, hb, hml, hown, hts⟩ (c_X7_checkMonth l hl0 D y b0 (wl Ls ad G) mo0) (va_cwS 1 hts gX7_correct_X7_checkMonth rfl rfl rfl (by decide +kernel) ⟨(Nat.le_of_ble_eq_true rfl), (Nat.le_of_ble_eq_true rfl)⟩) ⟨WdM_blind, WdM_at hP hK hN hD hS hb0 hT⟩ rfl rfl hl.1 rfl (lv_room (Nat.le_of_ble_eq_true rfl)) dX7_correct_5 ⟨(Nat.le_of_ble_eq_true rfl), (Nat.le_of_ble_eq_true rfl)⟩) hS (fun _ _ h => h) (fun _ h => h) (fun _ _ h => h) (fun E9 ce9 q9 k9 t9 H9 locs9 ht9 hvm9 hp9 hB9 hz9 hk9 hS9 hce9 hcv9 hcl9 => pv_out (Or.inl ⟨hp9.1, fun h => hp9.2 h.2⟩) hB9 ht9 hS9 hno hlocks hce9 hcv9 hcl9 (Nat.le_of_ble_eq_true rfl) (Nat.le_of_ble_eq_true rfl)) (fun u5 t H locs ht hvm hw5 hB hz1 hk1 hS => ?_)
  obtain ⟨hP, hD⟩ := hB
  rw [ht] at hP
  obtain ⟨hw5, rfl⟩ := hw5
  obtain ⟨m0, hm, rfl⟩ := within_nI (n := 120) (by decide) (by decide) hw5
  refine lv_aload_n hx hb dX7_correct_8 rfl (lv_at hl 0 rfl) ?_
  refine pv_get (ci := 9) (C := RX7) (T := TX7) (N := 7) hx hb hts hinX7 hown hK hP hX0 eX0 rfl 5 (by decide) (hts (.fieldLink RX7 39 "StorageCharge" "bills" "LStorageCharge$Bills;") (by decide +kernel)) (fun _ h9 => h9) rfl dX7_correct_9 ?_
  refine lv_iload_n hx hb dX7_correct_12 rfl (lv_at hl 1 rfl) ?_
  refine lv_iload_n hx hb dX7_correct_13 rfl (lv_at hl 2 rfl) ?_
  refine vp_callSi (va_Run.run (va_runV (As := [.int o, .int (nI m0)]) (rest := []) ⟨hx, hb, hml, hown, hts⟩ (c_X1_isBilled l D y Ls ad G nl bo bm bc bi hBs o (nI m0)) (cwV 2 hts gX7_correct_X1_isBilled rfl rfl rfl (by decide +kernel) ⟨Nat.le_of_ble_eq_true rfl, Nat.le_of_ble_eq_true rfl⟩) ⟨Wd_blind, Wd_recv hK hP (ci := 3) rfl hBs.1.1 hBs.1.2, Wd_at hP hK hN⟩ rfl rfl hl.1 rfl (lv_room (Nat.le_of_ble_eq_true rfl)) dX7_correct_14 ⟨(Nat.le_of_ble_eq_true rfl), (Nat.le_of_ble_eq_true rfl)⟩)) (fun r_14 hr_14 => ?_)
  refine lv_if_ne (tgt := 30) hx hb dX7_correct_17 (by decide) (fun c_17 => ?_) (fun c_17 => ?_)
  · refine lv_aload_n hx hb dX7_correct_30 rfl (lv_at hl 0 rfl) ?_
    refine lv_iload_n hx hb dX7_correct_31 rfl (lv_at hl 1 rfl) ?_
    refine lv_iload_n hx hb dX7_correct_32 rfl (lv_at hl 1 rfl) ?_
    refine lv_iload_n hx hb dX7_correct_33 rfl (lv_at hl 2 rfl) ?_
    refine vp_callSi (va_Run.run (va_runV (As := [.int o, .int o, .int (nI m0)]) (rest := []) ⟨hx, hb, hml, hown, hts⟩ (c_X7_sumBy l D y Ls ad G ch dr hX st ha mn dO dD dP nd li ow hC nu uo uf ul ug ut uk ud hUs nm mo mk md mp hMs o o m0 hm) (cwV 3 hts gX7_correct_X7_sumBy rfl rfl rfl (by decide +kernel) ⟨Nat.le_of_ble_eq_true rfl, Nat.le_of_ble_eq_true rfl⟩) ⟨Wd_blind, Wd_recv hK hP (ci := 9) rfl hX0 eX0, Wd_at hP hK hN⟩ rfl rfl hl.1 rfl (lv_room (Nat.le_of_ble_eq_true rfl)) dX7_correct_34 ⟨(Nat.le_of_ble_eq_true rfl), (Nat.le_of_ble_eq_true rfl)⟩)) (fun r_34 hr_34 => ?_)
    refine lv_aload_n hx hb dX7_correct_37 rfl (lv_at hl 0 rfl) ?_
    refine pv_get (ci := 9) (C := RX7) (T := TX7) (N := 7) hx hb hts hinX7 hown hK hP hX0 eX0 rfl 5 (by decide) (hts (.fieldLink RX7 39 "StorageCharge" "bills" "LStorageCharge$Bills;") (by decide +kernel)) (fun _ h9 => h9) rfl dX7_correct_38 ?_
    refine lv_iload_n hx hb dX7_correct_41 rfl (lv_at hl 1 rfl) ?_
    refine lv_iload_n hx hb dX7_correct_42 rfl (lv_at hl 2 rfl) ?_
    refine vp_callSi (va_Run.run (va_runV (As := [.int o, .int (nI m0)]) (rest := [.int r_34]) ⟨hx, hb, hml, hown, hts⟩ (c_X1_centsOfMonth l D y Ls ad G nl bo bm bc bi hBs o (nI m0)) (cwV 2 hts gX7_correct_X1_centsOfMonth rfl rfl rfl (by decide +kernel) ⟨Nat.le_of_ble_eq_true rfl, Nat.le_of_ble_eq_true rfl⟩) ⟨Wd_blind, Wd_recv hK hP (ci := 3) rfl hBs.1.1 hBs.1.2, Wd_at hP hK hN⟩ rfl rfl hl.1 rfl (lv_room (Nat.le_of_ble_eq_true rfl)) dX7_correct_43 ⟨(Nat.le_of_ble_eq_true rfl), (Nat.le_of_ble_eq_true rfl)⟩)) (fun r_43 hr_43 => ?_)
    refine lv_isub hx hb dX7_correct_46 ?_
    refine lv_topi (fun x_47 ex_47 => ?_)
    refine lv_istore_n (lv' := [(3, .int x_47), (0, .ref (ad 0)), (1, .int o), (2, .int (nI m0))]) hx hb dX7_correct_47 rfl hl (by decide) rfl (fun ls hl => ?_)
    refine lv_iload_n hx hb dX7_correct_48 rfl (lv_at hl 0 rfl) ?_
    refine lv_if_eq (tgt := 70) hx hb dX7_correct_49 (by decide) (fun c_49 => ?_) (fun c_49 => ?_)
    · refine lv_iload_n hx hb dX7_correct_70 rfl (lv_at hl 0 rfl) ?_
      refine W.widen (k := 4) (n := 1016) (Nat.le_of_ble_eq_true rfl) (Nat.le_of_ble_eq_true rfl) ?_
      exact vx_ret (W.iret (v := x_47) hx hb hr (fun t ht hW => ⟨⟨x_47, wl Ls ad G, rfl, ⟨hw1, hw5, hr_14.elim (fun h => h.2) (fun h => absurd h.1 c_17), ⟨m0, hm, rfl, by rw [ex_47, hr_34, hr_43]⟩, Or.inl ⟨c_49, rfl⟩⟩, by rw [ht]; exact hP, hD⟩, hS.F ht⟩) hS.2.2 dX7_correct_71)
    · refine lv_aload_n hx hb dX7_correct_52 rfl (lv_at hl 1 rfl) ?_
      refine pv_get (ci := 9) (C := RX7) (T := TX7) (N := 7) hx hb hts hinX7 hown hK hP hX0 eX0 rfl 5 (by decide) (hts (.fieldLink RX7 39 "StorageCharge" "bills" "LStorageCharge$Bills;") (by decide +kernel)) (fun _ h9 => h9) rfl dX7_correct_53 ?_
      have hP : va_P D vwCl (wl Ls ad G ++ []) H := by rw [List.append_nil]; exact hP
      have hD : va_D (fun q => b0 ≤ q) (wl Ls ad G ++ []) := by rw [List.append_nil]; exact hD
      refine sx_new (ci := 2) (fs := [.int 0, .int 0, .int 0, .int 0]) (C := RX0) (T := TX0) (N := 4) hx hb hts hinX0 tyX0 tyX0_ok hown (hts (.classLink RX7 176 "StorageCharge$BillLine") (by decide +kernel)) (hts (.instantiable RX0 4) (by decide +kernel)) (hts (.initialized RX0) (by decide +kernel)) hK hP hD hS hA rfl (fun j hj => by rcases (show j = 0 ∨ j = 1 ∨ j = 2 ∨ j = 3 by omega) with rfl | rfl | rfl | rfl <;> rfl) (Nat.le_of_ble_eq_true rfl) (Nat.le_of_ble_eq_true rfl) dX7_correct_56 (fun q_56 H hP hD hS => ?_)
      have hP : va_P D vwCl (wl Ls ad G ++ [(q_56, .inr (2, [.int 0, .int 0, .int 0, .int 0]))]) H := hP
      have hD : va_D (fun q => b0 ≤ q) (wl Ls ad G ++ [(q_56, .inr (2, [.int 0, .int 0, .int 0, .int 0]))]) := hD
      refine lv_dup hx hb dX7_correct_59 rfl ?_
      refine lv_iload_n hx hb dX7_correct_60 rfl (lv_at hl 2 rfl) ?_
      refine lv_iload_n hx hb dX7_correct_61 rfl (lv_at hl 3 rfl) ?_
      refine lv_iload_n hx hb dX7_correct_62 rfl (lv_at hl 0 rfl) ?_
      refine lv_iconst (v := 1) hx hb dX7_correct_63 (by decide) ?_
      refine va_callv (va_runI (As := [.int o, .int (nI m0), .int x_47, .int 1]) (rest := [.ref q_56, .ref (ad 7)]) ⟨hx, hb, hml, hown, hts⟩ (c_X0_init l hl0 D y b0 (wl Ls ad G) q_56 o (nI m0) x_47 1 rfl rfl) (cwI 4 hts gX7_correct_X0_init rfl rfl rfl (hts (.initialized RX0) (by decide +kernel)) (hts (.methodLink RX7 178 yX0_init) (by decide +kernel)) (hts (.instanceMethod yX0_init) (by decide +kernel)) rfl (by decide +kernel) ⟨(Nat.le_of_ble_eq_true rfl), (Nat.le_of_ble_eq_true rfl)⟩) ⟨WdM_blind, WdM_at hP hK hN hD hS hb0 hT⟩ rfl rfl hl.1 rfl (lv_room (Nat.le_of_ble_eq_true rfl)) dX7_correct_64 ⟨(Nat.le_of_ble_eq_true rfl), (Nat.le_of_ble_eq_true rfl)⟩) hS (fun _ _ h => h) (fun _ h => h) (fun u64 t H locs ht hvm hw64 hB hz1 hk1 hS => ?_)
      obtain ⟨hP, hD⟩ := hB
      rw [ht] at hP
      subst hw64
      refine va_callv (va_runV (As := [.ref q_56]) (rest := []) ⟨hx, hb, hml, hown, hts⟩ (c_X1_add l hl0 D y b0 df mi Ls ad G [(q_56, .inr (2, [.int o, .int (nI m0), .int x_47, .int 1]))] nl bo bm bc bi hBs hE8 hlt5 q_56 _ rfl) (cwV 1 hts gX7_correct_X1_add rfl rfl rfl (by decide +kernel) ⟨(Nat.le_of_ble_eq_true rfl), (Nat.le_of_ble_eq_true rfl)⟩) ⟨WdL_blind, Wd_recv hK (va_Pl hP) (ci := 3) rfl hBs.1.1 hBs.1.2, WdL_at hP hK hN hD hS hb0 hT hLP⟩ rfl rfl hl.1 rfl (lv_room (Nat.le_of_ble_eq_true rfl)) dX7_correct_67 ⟨(Nat.le_of_ble_eq_true rfl), (Nat.le_of_ble_eq_true rfl)⟩) hS (fun _ _ h => h) (fun _ h => h) (fun u67 t H locs ht hvm hw67 hB hz1 hk1 hS => ?_)
      obtain ⟨hP, hD⟩ := hB
      rw [ht] at hP
      obtain ⟨Ls3, ad3, G3, hP, hD, hx3, hL3, hm3, eM3⟩ := rel_one hP hD hw67 (by decide) (fun h3 => absurd (hfresh _ h3 (by omega)) (by omega)) hBs.2.1.choose_spec.choose_spec.1 (by omega)
      have hBs3 := BillsAt_push hx3 hBs hL3 hm3.2 eM3 hm3.1
      refine lv_iload_n hx hb dX7_correct_70 rfl (lv_at hl 0 rfl) ?_
      refine W.widen (k := 4) (n := 1016) (Nat.le_of_ble_eq_true rfl) (Nat.le_of_ble_eq_true rfl) ?_
      exact vx_ret (W.iret (v := x_47) hx hb hr (fun t ht hW => ⟨⟨x_47, wl Ls3 ad3 G3, rfl, ⟨hw1, hw5, hr_14.elim (fun h => h.2) (fun h => absurd h.1 c_17), ⟨m0, hm, rfl, by rw [ex_47, hr_34, hr_43]⟩, Or.inr ⟨c_49, Ls3, ad3, G3, rfl, hx3, hm3.1, hBs3⟩⟩, by rw [ht]; exact hP, hD⟩, hS.F ht⟩) hS.2.2 dX7_correct_71)
  · exact pv_thr (text := "the month is not billed") hx hb hl0 3 (Or.inr ⟨rfl, hw1, hw5, hr_14.elim (fun h => absurd (h.1.symm.trans c_17) (by decide)) (fun h => h.2)⟩) hts hown (by decide +kernel) (by decide +kernel) (by decide +kernel) (by decide +kernel) (by decide +kernel) thr_b3 (by decide +kernel) hT hP hS (hl.1.trans hml.symm) dX7_correct_20 dX7_correct_23 dX7_correct_24 dX7_correct_26 dX7_correct_29 hno (Nat.le_of_ble_eq_true rfl) (Nat.le_of_ble_eq_true rfl) (Nat.le_of_ble_eq_true rfl) (Nat.le_of_ble_eq_true rfl) hlocks (Nat.le_of_ble_eq_true rfl) (Nat.le_of_ble_eq_true rfl)
