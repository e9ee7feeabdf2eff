/-! the reads of the bills -/
def cM (bo bm bc : Nat → Int32) (o mo : Int32) : Nat → Int32
  | 0 => 0
  | i + 1 => if bo i = o ∧ bm i = mo then cM bo bm bc o mo i + bc i else cM bo bm bc o mo i

set_option maxHeartbeats 4000000 in
set_option maxRecDepth 100000 in
/-- Bills.isBilled -/
theorem c_X1_isBilled (l : Launch) (D : va_G) (y : Nat → ClassId) (Ls : List Nat) (ad : Nat → Nat) (G : Nat → va_E) (nl : Nat) (bo bm bc bi : Nat → Int32) (hBs : BillsAt y Ls ad G nl bo bm bc bi) (o m0 : Int32) : Met l yX1_isBilled wsX1_isBilled ({ frames := 3, cells := 0, slots := 0, locals := 64 }) (va_Pc [.ref (ad 7), .int o, .int m0] (Wd D y (wl Ls ad G))) (vp_Si (fun r => (r = 1 ∧ hasD bo bm o m0 nl) ∨ (r = 0 ∧ ¬ hasD bo bm o m0 nl))) 0 0 (fun _ => False) := by
  refine Met.ofW (cc := cX1_isBilled) (maxL := 5) (ret := (some .boolean)) (by decide) rfl ?_
  intro p e s m args below meth c s₁ B hml hv
  obtain ⟨rfl, hP, hK, hN⟩ := hv
  have hx := B.exec
  have hb := B.bytes
  have hr := B.returns
  have hts := atoms_spec (ws := wsX1_isBilled) B.pre
  have hown : s.vm.findClass RX1 = some m.cls := findClass_of_methodNamed B.named
  have hlocks := B.notSynchronized
  have hinX0 : ∀ w ∈ wsX00, w ∈ wsX1_isBilled := by decide +kernel
  have hinX1 : ∀ w ∈ wsX10, w ∈ wsX1_isBilled := by decide +kernel
  obtain ⟨mc8, ea8, hj8, ej8, hn8, -⟩ := id hBs.2.1
  have loop2 : ∀ (n : Nat) (i : Nat), i ≤ nl → nl < i + n → ¬ hasD bo bm o m0 i → ∀ ls : Array Slot, lv_has ls 5 [(0, .ref (ad 7)), (1, .int o), (2, .int m0), (3, .int (nI i))] → W p l e (headSpec wsX1_isBilled ({ frames := 3, cells := 0, slots := 0, locals := 64 })).room s m ([.ref (ad 7), .int o, .int m0] : List Value).toArray below meth c s.heap [] 0 0 (MQ below (vp_Si (fun r => (r = 1 ∧ hasD bo bm o m0 nl) ∨ (r = 0 ∧ ¬ hasD bo bm o m0 nl))) ([.ref (ad 7), .int o, .int m0] : List Value).toArray s 0 0 (fun _ => False)) (F0 m 2 ls []) := by
    intro n
    induction n with
    | zero =>
      intro i hi hn; exact absurd hn (by omega)
    | succ n ih2 =>
      intro i hi hn hno ls hl
      refine lv_iload_n hx hb dX1_isBilled_2 rfl (lv_at hl 3 rfl) ?_
      refine lv_aload_n hx hb dX1_isBilled_3 rfl (lv_at hl 0 rfl) ?_
      refine pv_get (ci := 3) (C := RX1) (T := TX1) (N := 1) hx hb hts hinX1 hown hK hP hBs.1.1 hBs.1.2 rfl 0 (by decide) (hts (.fieldLink RX1 12 "StorageCharge$Bills" "lines" "Ljava/util/ArrayList;") (by decide +kernel)) (fun _ h9 => h9) rfl dX1_isBilled_4 ?_
      refine vp_callSi (va_Run.run (va_runV (As := []) (rest := [.int (nI i)]) ⟨hx, hb, hml, hown, hts⟩ (c_Jx4a65c_size_8abf5 l D y Ls ad G 8 nl (fun i => ad (3000 + i)) hBs.2.1) (cwV 0 hts gX1_isBilled_Jx4a65c_size_8abf5 rfl rfl rfl (by decide +kernel) ⟨Nat.le_of_ble_eq_true rfl, Nat.le_of_ble_eq_true rfl⟩) ⟨Wd_blind, Wd_recv hK hP (ci := 1) rfl hj8 ej8, Wd_at hP hK hN⟩ rfl rfl hl.1 rfl (lv_room (Nat.le_of_ble_eq_true rfl)) dX1_isBilled_7 ⟨Nat.zero_le _, Nat.zero_le _⟩)) (fun r_7 hr_7 => ?_)
      refine lv_icmp_ge (tgt := 52) hx hb dX1_isBilled_10 (by decide) (fun c_10 => ?_) (fun c_10 => ?_)
      · have hge : nl = i := by
          have h8 := Nat.le_of_not_lt (fun h : i < nl => absurd (by rw [← hr_7]; exact c_10) (nI_ge h (by omega)))
          omega
        refine lv_iconst (v := 0) hx hb dX1_isBilled_52 (by decide) ?_
        exact W.zret (v := 0) hx hb hr (by first | rfl | decide | (simp [narrow]; done) | assumption) (fun t ht hW => ⟨0, rfl, Or.inr ⟨rfl, by rw [hge]; exact hno⟩, ht⟩) (fun q h => by cases h) dX1_isBilled_53
      · have hlt : i < nl := Nat.lt_of_not_le fun h => c_10 (by rw [hr_7]; exact nI_le h (by omega))
        refine lv_aload_n hx hb dX1_isBilled_13 rfl (lv_at hl 0 rfl) ?_
        refine pv_get (ci := 3) (C := RX1) (T := TX1) (N := 1) hx hb hts hinX1 hown hK hP hBs.1.1 hBs.1.2 rfl 0 (by decide) (hts (.fieldLink RX1 12 "StorageCharge$Bills" "lines" "Ljava/util/ArrayList;") (by decide +kernel)) (fun _ h9 => h9) rfl dX1_isBilled_14 ?_
        refine lv_iload_n hx hb dX1_isBilled_17 rfl (lv_at hl 3 rfl) ?_
        refine va_csr (va_Run.run (va_runV (As := [.int (nI i)]) (rest := []) ⟨hx, hb, hml, hown, hts⟩ (c_Jx4a65c_get_915e3 l D y Ls ad G 8 nl (fun i => ad (3000 + i)) hBs.2.1 i hlt) (cwV 1 hts gX1_isBilled_Jx4a65c_get_915e3 rfl rfl rfl (by decide +kernel) ⟨Nat.le_of_ble_eq_true rfl, Nat.le_of_ble_eq_true rfl⟩) ⟨Wd_blind, Wd_recv hK hP (ci := 1) rfl hj8 ej8, Wd_at hP hK hN⟩ rfl rfl hl.1 rfl (lv_room (Nat.le_of_ble_eq_true rfl)) dX1_isBilled_18 ⟨Nat.zero_le _, Nat.zero_le _⟩)) (fun r_18 hr_18 => ?_)
        subst hr_18
        refine va_castS hx hb hown (hts (.classLink RX1 30 "StorageCharge$BillLine") (by decide +kernel)) (hK.1 2 _ rfl).2 (Wd_recv hK hP (ci := 2) rfl (hBs.2.2 i hlt).1 (hBs.2.2 i hlt).2) dX1_isBilled_21 ?_
        refine lv_astore (lv' := [(4, .ref (ad (3000 + i))), (0, .ref (ad 7)), (1, .int o), (2, .int m0), (3, .int (nI i))]) hx hb dX1_isBilled_24 hl (by decide) rfl (fun ls hl => ?_)
        refine lv_aload hx hb dX1_isBilled_26 (lv_at hl 0 rfl) ?_
        refine pv_getN (ci := 2) (C := RX0) (T := TX0) (N := 4) hx hb hts hinX0 hown hK hP (hBs.2.2 i hlt).1 (hBs.2.2 i hlt).2 rfl 0 (by decide) hN (by decide +kernel : Cond.fieldLinkNest RX1 32 "StorageCharge$BillLine" "owner" "I" "StorageCharge" ∈ nestW) (fun _ h9 => h9) rfl dX1_isBilled_28 ?_
        refine lv_iload_n hx hb dX1_isBilled_31 rfl (lv_at hl 2 rfl) ?_
        refine lv_icmp_ne (tgt := 46) hx hb dX1_isBilled_32 (by decide) (fun c_32 => ?_) (fun c_32 => ?_)
        · refine lv_iinc (v := nI (i + 1)) (lv' := [(3, .int (nI (i + 1))), (4, .ref (ad (3000 + i))), (0, .ref (ad 7)), (1, .int o), (2, .int m0)]) hx hb dX1_isBilled_46 hl (k := 4) rfl (nI_1 i) (by decide) rfl (fun ls hl => ?_)
          refine lv_goto (tgt := 2) hx hb dX1_isBilled_49 (by decide) ?_
          exact ih2 (i + 1) (by omega) (by omega) (hasD_step hno (fun h => by first | exact c_32 h.1 | exact c_41 h.2)) ls (lv_sub hl [2, 3, 4, 0] rfl)
        · refine lv_aload hx hb dX1_isBilled_35 (lv_at hl 0 rfl) ?_
          refine pv_getN (ci := 2) (C := RX0) (T := TX0) (N := 4) hx hb hts hinX0 hown hK hP (hBs.2.2 i hlt).1 (hBs.2.2 i hlt).2 rfl 1 (by decide) hN (by decide +kernel : Cond.fieldLinkNest RX1 36 "StorageCharge$BillLine" "month" "I" "StorageCharge" ∈ nestW) (fun _ h9 => h9) rfl dX1_isBilled_37 ?_
          refine lv_iload_n hx hb dX1_isBilled_40 rfl (lv_at hl 3 rfl) ?_
          refine lv_icmp_ne (tgt := 46) hx hb dX1_isBilled_41 (by decide) (fun c_41 => ?_) (fun c_41 => ?_)
          · refine lv_iinc (v := nI (i + 1)) (lv' := [(3, .int (nI (i + 1))), (4, .ref (ad (3000 + i))), (0, .ref (ad 7)), (1, .int o), (2, .int m0)]) hx hb dX1_isBilled_46 hl (k := 4) rfl (nI_1 i) (by decide) rfl (fun ls hl => ?_)
            refine lv_goto (tgt := 2) hx hb dX1_isBilled_49 (by decide) ?_
            exact ih2 (i + 1) (by omega) (by omega) (hasD_step hno (fun h => by first | exact c_32 h.1 | exact c_41 h.2)) ls (lv_sub hl [2, 3, 4, 0] rfl)
          · refine lv_iconst (v := 1) hx hb dX1_isBilled_44 (by decide) ?_
            exact W.zret (v := 1) hx hb hr (by first | rfl | decide | (simp [narrow]; done) | assumption) (fun t ht hW => ⟨1, rfl, Or.inl ⟨rfl, i, hlt, c_32, c_41⟩, ht⟩) (fun q h => by cases h) dX1_isBilled_45
  have hl := lv_entry ([.ref (ad 7), .int o, .int m0]) (n := 5) (Nat.le_of_ble_eq_true rfl)
  rw [lg_entry_eq]
  generalize (lg_sl ([.ref (ad 7), .int o, .int m0]) ++ List.replicate (5 - (lg_sl ([.ref (ad 7), .int o, .int m0])).length) Slot.unset).toArray = ls at hl ⊢
  have hl : lv_has ls 5 [(0, .ref (ad 7)), (1, .int o), (2, .int m0)] := hl
  refine lv_iconst (v := 0) hx hb dX1_isBilled_0 (by decide) ?_
  refine lv_istore_n (lv' := [(3, .int 0), (0, .ref (ad 7)), (1, .int o), (2, .int m0)]) hx hb dX1_isBilled_1 rfl hl (by decide) rfl (fun ls hl => ?_)
  exact loop2 (nl + 1) 0 (by omega) (by omega) (fun h => by obtain ⟨i, h1, -⟩ := h; omega) ls (lv_sub hl [1, 2, 3, 0] rfl)

set_option maxHeartbeats 4000000 in
set_option maxRecDepth 100000 in
/-- Bills.centsOfMonth -/
theorem c_X1_centsOfMonth (l : Launch) (D : va_G) (y : Nat → ClassId) (Ls : List Nat) (ad : Nat → Nat) (G : Nat → va_E) (nl : Nat) (bo bm bc bi : Nat → Int32) (hBs : BillsAt y Ls ad G nl bo bm bc bi) (o m0 : Int32) : Met l yX1_centsOfMonth wsX1_centsOfMonth ({ frames := 3, cells := 0, slots := 0, locals := 64 }) (va_Pc [.ref (ad 7), .int o, .int m0] (Wd D y (wl Ls ad G))) (vp_Si (fun r => r = cM bo bm bc o m0 nl)) 0 0 (fun _ => False) := by
  refine Met.ofW (cc := cX1_centsOfMonth) (maxL := 6) (ret := (some .int)) (by decide) rfl ?_
  intro p e s m args below meth c s₁ B hml hv
  obtain ⟨rfl, hP, hK, hN⟩ := hv
  have hx := B.exec
  have hb := B.bytes
  have hr := B.returns
  have hts := atoms_spec (ws := wsX1_centsOfMonth) B.pre
  have hown : s.vm.findClass RX1 = some m.cls := findClass_of_methodNamed B.named
  have hlocks := B.notSynchronized
  have hinX0 : ∀ w ∈ wsX00, w ∈ wsX1_centsOfMonth := by decide +kernel
  have hinX1 : ∀ w ∈ wsX10, w ∈ wsX1_centsOfMonth := by decide +kernel
  obtain ⟨mc8, ea8, hj8, ej8, hn8, -⟩ := id hBs.2.1
  have loop5 : ∀ (n : Nat) (i : Nat) (k : Int32), i ≤ nl → nl < i + n → k = cM bo bm bc o m0 i → ∀ ls : Array Slot, lv_has ls 6 [(0, .ref (ad 7)), (1, .int o), (2, .int m0), (3, .int k), (4, .int (nI i))] → W p l e (headSpec wsX1_centsOfMonth ({ frames := 3, cells := 0, slots := 0, locals := 64 })).room s m ([.ref (ad 7), .int o, .int m0] : List Value).toArray below meth c s.heap [] 0 0 (MQ below (vp_Si (fun r => r = cM bo bm bc o m0 nl)) ([.ref (ad 7), .int o, .int m0] : List Value).toArray s 0 0 (fun _ => False)) (F0 m 5 ls []) := by
    intro n
    induction n with
    | zero =>
      intro i k hi hn; exact absurd hn (by omega)
    | succ n ih5 =>
      intro i k hi hn ek ls hl
      refine lv_iload hx hb dX1_centsOfMonth_5 (lv_at hl 4 rfl) ?_
      refine lv_aload_n hx hb dX1_centsOfMonth_7 rfl (lv_at hl 0 rfl) ?_
      refine pv_get (ci := 3) (C := RX1) (T := TX1) (N := 1) hx hb hts hinX1 hown hK hP hBs.1.1 hBs.1.2 rfl 0 (by decide) (hts (.fieldLink RX1 12 "StorageCharge$Bills" "lines" "Ljava/util/ArrayList;") (by decide +kernel)) (fun _ h9 => h9) rfl dX1_centsOfMonth_8 ?_
      refine vp_callSi (va_Run.run (va_runV (As := []) (rest := [.int (nI i)]) ⟨hx, hb, hml, hown, hts⟩ (c_Jx4a65c_size_8abf5 l D y Ls ad G 8 nl (fun i => ad (3000 + i)) hBs.2.1) (cwV 0 hts gX1_centsOfMonth_Jx4a65c_size_8abf5 rfl rfl rfl (by decide +kernel) ⟨Nat.le_of_ble_eq_true rfl, Nat.le_of_ble_eq_true rfl⟩) ⟨Wd_blind, Wd_recv hK hP (ci := 1) rfl hj8 ej8, Wd_at hP hK hN⟩ rfl rfl hl.1 rfl (lv_room (Nat.le_of_ble_eq_true rfl)) dX1_centsOfMonth_11 ⟨Nat.zero_le _, Nat.zero_le _⟩)) (fun r_11 hr_11 => ?_)
      refine lv_icmp_ge (tgt := 63) hx hb dX1_centsOfMonth_14 (by decide) (fun c_14 => ?_) (fun c_14 => ?_)
      · have hge : nl = i := by
          have h8 := Nat.le_of_not_lt (fun h : i < nl => absurd (by rw [← hr_11]; exact c_14) (nI_ge h (by omega)))
          omega
        refine lv_iload_n hx hb dX1_centsOfMonth_63 rfl (lv_at hl 3 rfl) ?_
        exact W.iret (v := k) hx hb hr (fun t ht hW => ⟨k, rfl, (by rw [ek, hge]), ht⟩) (fun q h => by cases h) dX1_centsOfMonth_64
      · have hlt : i < nl := Nat.lt_of_not_le fun h => c_14 (by rw [hr_11]; exact nI_le h (by omega))
        refine lv_aload_n hx hb dX1_centsOfMonth_17 rfl (lv_at hl 0 rfl) ?_
        refine pv_get (ci := 3) (C := RX1) (T := TX1) (N := 1) hx hb hts hinX1 hown hK hP hBs.1.1 hBs.1.2 rfl 0 (by decide) (hts (.fieldLink RX1 12 "StorageCharge$Bills" "lines" "Ljava/util/ArrayList;") (by decide +kernel)) (fun _ h9 => h9) rfl dX1_centsOfMonth_18 ?_
        refine lv_iload hx hb dX1_centsOfMonth_21 (lv_at hl 4 rfl) ?_
        refine va_csr (va_Run.run (va_runV (As := [.int (nI i)]) (rest := []) ⟨hx, hb, hml, hown, hts⟩ (c_Jx4a65c_get_915e3 l D y Ls ad G 8 nl (fun i => ad (3000 + i)) hBs.2.1 i hlt) (cwV 1 hts gX1_centsOfMonth_Jx4a65c_get_915e3 rfl rfl rfl (by decide +kernel) ⟨Nat.le_of_ble_eq_true rfl, Nat.le_of_ble_eq_true rfl⟩) ⟨Wd_blind, Wd_recv hK hP (ci := 1) rfl hj8 ej8, Wd_at hP hK hN⟩ rfl rfl hl.1 rfl (lv_room (Nat.le_of_ble_eq_true rfl)) dX1_centsOfMonth_23 ⟨Nat.zero_le _, Nat.zero_le _⟩)) (fun r_23 hr_23 => ?_)
        subst hr_23
        refine va_castS hx hb hown (hts (.classLink RX1 30 "StorageCharge$BillLine") (by decide +kernel)) (hK.1 2 _ rfl).2 (Wd_recv hK hP (ci := 2) rfl (hBs.2.2 i hlt).1 (hBs.2.2 i hlt).2) dX1_centsOfMonth_26 ?_
        refine lv_astore (lv' := [(5, .ref (ad (3000 + i))), (0, .ref (ad 7)), (1, .int o), (2, .int m0), (3, .int k), (4, .int (nI i))]) hx hb dX1_centsOfMonth_29 hl (by decide) rfl (fun ls hl => ?_)
        refine lv_aload hx hb dX1_centsOfMonth_31 (lv_at hl 0 rfl) ?_
        refine pv_getN (ci := 2) (C := RX0) (T := TX0) (N := 4) hx hb hts hinX0 hown hK hP (hBs.2.2 i hlt).1 (hBs.2.2 i hlt).2 rfl 0 (by decide) hN (by decide +kernel : Cond.fieldLinkNest RX1 32 "StorageCharge$BillLine" "owner" "I" "StorageCharge" ∈ nestW) (fun _ h9 => h9) rfl dX1_centsOfMonth_33 ?_
        refine lv_iload_n hx hb dX1_centsOfMonth_36 rfl (lv_at hl 2 rfl) ?_
        refine lv_icmp_ne (tgt := 57) hx hb dX1_centsOfMonth_37 (by decide) (fun c_37 => ?_) (fun c_37 => ?_)
        · refine lv_iinc (v := nI (i + 1)) (lv' := [(4, .int (nI (i + 1))), (5, .ref (ad (3000 + i))), (0, .ref (ad 7)), (1, .int o), (2, .int m0), (3, .int k)]) hx hb dX1_centsOfMonth_57 hl (k := 5) rfl (nI_1 i) (by decide) rfl (fun ls hl => ?_)
          refine lv_goto (tgt := 5) hx hb dX1_centsOfMonth_60 (by decide) ?_
          exact ih5 (i + 1) k (by omega) (by omega) (by rw [cM, if_neg (fun h => by first | exact c_37 h.1 | exact c_46 h.2), ek]) ls (lv_sub hl [2, 3, 4, 5, 0] rfl)
        · refine lv_aload hx hb dX1_centsOfMonth_40 (lv_at hl 0 rfl) ?_
          refine pv_getN (ci := 2) (C := RX0) (T := TX0) (N := 4) hx hb hts hinX0 hown hK hP (hBs.2.2 i hlt).1 (hBs.2.2 i hlt).2 rfl 1 (by decide) hN (by decide +kernel : Cond.fieldLinkNest RX1 36 "StorageCharge$BillLine" "month" "I" "StorageCharge" ∈ nestW) (fun _ h9 => h9) rfl dX1_centsOfMonth_42 ?_
          refine lv_iload_n hx hb dX1_centsOfMonth_45 rfl (lv_at hl 3 rfl) ?_
          refine lv_icmp_ne (tgt := 57) hx hb dX1_centsOfMonth_46 (by decide) (fun c_46 => ?_) (fun c_46 => ?_)
          · refine lv_iinc (v := nI (i + 1)) (lv' := [(4, .int (nI (i + 1))), (5, .ref (ad (3000 + i))), (0, .ref (ad 7)), (1, .int o), (2, .int m0), (3, .int k)]) hx hb dX1_centsOfMonth_57 hl (k := 5) rfl (nI_1 i) (by decide) rfl (fun ls hl => ?_)
            refine lv_goto (tgt := 5) hx hb dX1_centsOfMonth_60 (by decide) ?_
            exact ih5 (i + 1) k (by omega) (by omega) (by rw [cM, if_neg (fun h => by first | exact c_37 h.1 | exact c_46 h.2), ek]) ls (lv_sub hl [2, 3, 4, 5, 0] rfl)
          · refine lv_iload_n hx hb dX1_centsOfMonth_49 rfl (lv_at hl 4 rfl) ?_
            refine lv_aload hx hb dX1_centsOfMonth_50 (lv_at hl 0 rfl) ?_
            refine pv_getN (ci := 2) (C := RX0) (T := TX0) (N := 4) hx hb hts hinX0 hown hK hP (hBs.2.2 i hlt).1 (hBs.2.2 i hlt).2 rfl 2 (by decide) hN (by decide +kernel : Cond.fieldLinkNest RX1 39 "StorageCharge$BillLine" "cents" "I" "StorageCharge" ∈ nestW) (fun _ h9 => h9) rfl dX1_centsOfMonth_52 ?_
            refine lv_iadd hx hb dX1_centsOfMonth_55 ?_
            refine lv_topi (fun x_56 ex_56 => ?_)
            refine lv_istore_n (lv' := [(3, .int x_56), (5, .ref (ad (3000 + i))), (0, .ref (ad 7)), (1, .int o), (2, .int m0), (4, .int (nI i))]) hx hb dX1_centsOfMonth_56 rfl hl (by decide) rfl (fun ls hl => ?_)
            refine lv_iinc (v := nI (i + 1)) (lv' := [(4, .int (nI (i + 1))), (3, .int x_56), (5, .ref (ad (3000 + i))), (0, .ref (ad 7)), (1, .int o), (2, .int m0)]) hx hb dX1_centsOfMonth_57 hl (k := 5) rfl (nI_1 i) (by decide) rfl (fun ls hl => ?_)
            refine lv_goto (tgt := 5) hx hb dX1_centsOfMonth_60 (by decide) ?_
            exact ih5 (i + 1) x_56 (by omega) (by omega) (by rw [cM, if_pos ⟨c_37, c_46⟩, ex_56, ek]) ls (lv_sub hl [3, 4, 5, 1, 0] rfl)
  have hl := lv_entry ([.ref (ad 7), .int o, .int m0]) (n := 6) (Nat.le_of_ble_eq_true rfl)
  rw [lg_entry_eq]
  generalize (lg_sl ([.ref (ad 7), .int o, .int m0]) ++ List.replicate (6 - (lg_sl ([.ref (ad 7), .int o, .int m0])).length) Slot.unset).toArray = ls at hl ⊢
  have hl : lv_has ls 6 [(0, .ref (ad 7)), (1, .int o), (2, .int m0)] := hl
  refine lv_iconst (v := 0) hx hb dX1_centsOfMonth_0 (by decide) ?_
  refine lv_istore_n (lv' := [(3, .int 0), (0, .ref (ad 7)), (1, .int o), (2, .int m0)]) hx hb dX1_centsOfMonth_1 rfl hl (by decide) rfl (fun ls hl => ?_)
  refine lv_iconst (v := 0) hx hb dX1_centsOfMonth_2 (by decide) ?_
  refine lv_istore (lv' := [(4, .int 0), (3, .int 0), (0, .ref (ad 7)), (1, .int o), (2, .int m0)]) hx hb dX1_centsOfMonth_3 hl (by decide) rfl (fun ls hl => ?_)
  exact loop5 (nl + 1) 0 0 (by omega) (by omega) rfl ls (lv_sub hl [2, 3, 4, 1, 0] rfl)

set_option maxHeartbeats 4000000 in
set_option maxRecDepth 100000 in
/-- Bills.centsOfOwner -/
theorem c_X1_centsOfOwner (l : Launch) (D : va_G) (y : Nat → ClassId) (Ls : List Nat) (ad : Nat → Nat) (G : Nat → va_E) (nl : Nat) (bo bm bc bi : Nat → Int32) (hBs : BillsAt y Ls ad G nl bo bm bc bi) (o : Int32) : Met l yX1_centsOfOwner wsX1_centsOfOwner ({ frames := 3, cells := 0, slots := 0, locals := 64 }) (va_Pc [.ref (ad 7), .int o] (Wd D y (wl Ls ad G))) (vp_Si (fun r => r = sumO bo o bc nl)) 0 0 (fun _ => False) := by
  refine Met.ofW (cc := cX1_centsOfOwner) (maxL := 5) (ret := (some .int)) (by decide) rfl ?_
  intro p e s m args below meth c s₁ B hml hv
  obtain ⟨rfl, hP, hK, hN⟩ := hv
  have hx := B.exec
  have hb := B.bytes
  have hr := B.returns
  have hts := atoms_spec (ws := wsX1_centsOfOwner) B.pre
  have hown : s.vm.findClass RX1 = some m.cls := findClass_of_methodNamed B.named
  have hlocks := B.notSynchronized
  have hinX0 : ∀ w ∈ wsX00, w ∈ wsX1_centsOfOwner := by decide +kernel
  have hinX1 : ∀ w ∈ wsX10, w ∈ wsX1_centsOfOwner := by decide +kernel
  obtain ⟨mc8, ea8, hj8, ej8, hn8, -⟩ := id hBs.2.1
  have loop4 : ∀ (n : Nat) (i : Nat) (k : Int32), i ≤ nl → nl < i + n → k = sumO bo o bc i → ∀ ls : Array Slot, lv_has ls 5 [(0, .ref (ad 7)), (1, .int o), (2, .int k), (3, .int (nI i))] → W p l e (headSpec wsX1_centsOfOwner ({ frames := 3, cells := 0, slots := 0, locals := 64 })).room s m ([.ref (ad 7), .int o] : List Value).toArray below meth c s.heap [] 0 0 (MQ below (vp_Si (fun r => r = sumO bo o bc nl)) ([.ref (ad 7), .int o] : List Value).toArray s 0 0 (fun _ => False)) (F0 m 4 ls []) := by
    intro n
    induction n with
    | zero =>
      intro i k hi hn; exact absurd hn (by omega)
    | succ n ih4 =>
      intro i k hi hn ek ls hl
      refine lv_iload_n hx hb dX1_centsOfOwner_4 rfl (lv_at hl 3 rfl) ?_
      refine lv_aload_n hx hb dX1_centsOfOwner_5 rfl (lv_at hl 0 rfl) ?_
      refine pv_get (ci := 3) (C := RX1) (T := TX1) (N := 1) hx hb hts hinX1 hown hK hP hBs.1.1 hBs.1.2 rfl 0 (by decide) (hts (.fieldLink RX1 12 "StorageCharge$Bills" "lines" "Ljava/util/ArrayList;") (by decide +kernel)) (fun _ h9 => h9) rfl dX1_centsOfOwner_6 ?_
      refine vp_callSi (va_Run.run (va_runV (As := []) (rest := [.int (nI i)]) ⟨hx, hb, hml, hown, hts⟩ (c_Jx4a65c_size_8abf5 l D y Ls ad G 8 nl (fun i => ad (3000 + i)) hBs.2.1) (cwV 0 hts gX1_centsOfOwner_Jx4a65c_size_8abf5 rfl rfl rfl (by decide +kernel) ⟨Nat.le_of_ble_eq_true rfl, Nat.le_of_ble_eq_true rfl⟩) ⟨Wd_blind, Wd_recv hK hP (ci := 1) rfl hj8 ej8, Wd_at hP hK hN⟩ rfl rfl hl.1 rfl (lv_room (Nat.le_of_ble_eq_true rfl)) dX1_centsOfOwner_9 ⟨Nat.zero_le _, Nat.zero_le _⟩)) (fun r_9 hr_9 => ?_)
      refine lv_icmp_ge (tgt := 51) hx hb dX1_centsOfOwner_12 (by decide) (fun c_12 => ?_) (fun c_12 => ?_)
      · have hge : nl = i := by
          have h8 := Nat.le_of_not_lt (fun h : i < nl => absurd (by rw [← hr_9]; exact c_12) (nI_ge h (by omega)))
          omega
        refine lv_iload_n hx hb dX1_centsOfOwner_51 rfl (lv_at hl 2 rfl) ?_
        exact W.iret (v := k) hx hb hr (fun t ht hW => ⟨k, rfl, (by rw [ek, hge]), ht⟩) (fun q h => by cases h) dX1_centsOfOwner_52
      · have hlt : i < nl := Nat.lt_of_not_le fun h => c_12 (by rw [hr_9]; exact nI_le h (by omega))
        refine lv_aload_n hx hb dX1_centsOfOwner_15 rfl (lv_at hl 0 rfl) ?_
        refine pv_get (ci := 3) (C := RX1) (T := TX1) (N := 1) hx hb hts hinX1 hown hK hP hBs.1.1 hBs.1.2 rfl 0 (by decide) (hts (.fieldLink RX1 12 "StorageCharge$Bills" "lines" "Ljava/util/ArrayList;") (by decide +kernel)) (fun _ h9 => h9) rfl dX1_centsOfOwner_16 ?_
        refine lv_iload_n hx hb dX1_centsOfOwner_19 rfl (lv_at hl 3 rfl) ?_
        refine va_csr (va_Run.run (va_runV (As := [.int (nI i)]) (rest := []) ⟨hx, hb, hml, hown, hts⟩ (c_Jx4a65c_get_915e3 l D y Ls ad G 8 nl (fun i => ad (3000 + i)) hBs.2.1 i hlt) (cwV 1 hts gX1_centsOfOwner_Jx4a65c_get_915e3 rfl rfl rfl (by decide +kernel) ⟨Nat.le_of_ble_eq_true rfl, Nat.le_of_ble_eq_true rfl⟩) ⟨Wd_blind, Wd_recv hK hP (ci := 1) rfl hj8 ej8, Wd_at hP hK hN⟩ rfl rfl hl.1 rfl (lv_room (Nat.le_of_ble_eq_true rfl)) dX1_centsOfOwner_20 ⟨Nat.zero_le _, Nat.zero_le _⟩)) (fun r_20 hr_20 => ?_)
        subst hr_20
        refine va_castS hx hb hown (hts (.classLink RX1 30 "StorageCharge$BillLine") (by decide +kernel)) (hK.1 2 _ rfl).2 (Wd_recv hK hP (ci := 2) rfl (hBs.2.2 i hlt).1 (hBs.2.2 i hlt).2) dX1_centsOfOwner_23 ?_
        refine lv_astore (lv' := [(4, .ref (ad (3000 + i))), (0, .ref (ad 7)), (1, .int o), (2, .int k), (3, .int (nI i))]) hx hb dX1_centsOfOwner_26 hl (by decide) rfl (fun ls hl => ?_)
        refine lv_aload hx hb dX1_centsOfOwner_28 (lv_at hl 0 rfl) ?_
        refine pv_getN (ci := 2) (C := RX0) (T := TX0) (N := 4) hx hb hts hinX0 hown hK hP (hBs.2.2 i hlt).1 (hBs.2.2 i hlt).2 rfl 0 (by decide) hN (by decide +kernel : Cond.fieldLinkNest RX1 32 "StorageCharge$BillLine" "owner" "I" "StorageCharge" ∈ nestW) (fun _ h9 => h9) rfl dX1_centsOfOwner_30 ?_
        refine lv_iload_n hx hb dX1_centsOfOwner_33 rfl (lv_at hl 2 rfl) ?_
        refine lv_icmp_ne (tgt := 45) hx hb dX1_centsOfOwner_34 (by decide) (fun c_34 => ?_) (fun c_34 => ?_)
        · refine lv_iinc (v := nI (i + 1)) (lv' := [(3, .int (nI (i + 1))), (4, .ref (ad (3000 + i))), (0, .ref (ad 7)), (1, .int o), (2, .int k)]) hx hb dX1_centsOfOwner_45 hl (k := 4) rfl (nI_1 i) (by decide) rfl (fun ls hl => ?_)
          refine lv_goto (tgt := 4) hx hb dX1_centsOfOwner_48 (by decide) ?_
          exact ih4 (i + 1) k (by omega) (by omega) (by rw [sumO, if_neg c_34, ek]) ls (lv_sub hl [2, 3, 4, 0] rfl)
        · refine lv_iload_n hx hb dX1_centsOfOwner_37 rfl (lv_at hl 3 rfl) ?_
          refine lv_aload hx hb dX1_centsOfOwner_38 (lv_at hl 0 rfl) ?_
          refine pv_getN (ci := 2) (C := RX0) (T := TX0) (N := 4) hx hb hts hinX0 hown hK hP (hBs.2.2 i hlt).1 (hBs.2.2 i hlt).2 rfl 2 (by decide) hN (by decide +kernel : Cond.fieldLinkNest RX1 39 "StorageCharge$BillLine" "cents" "I" "StorageCharge" ∈ nestW) (fun _ h9 => h9) rfl dX1_centsOfOwner_40 ?_
          refine lv_iadd hx hb dX1_centsOfOwner_43 ?_
          refine lv_topi (fun x_44 ex_44 => ?_)
          refine lv_istore_n (lv' := [(2, .int x_44), (4, .ref (ad (3000 + i))), (0, .ref (ad 7)), (1, .int o), (3, .int (nI i))]) hx hb dX1_centsOfOwner_44 rfl hl (by decide) rfl (fun ls hl => ?_)
          refine lv_iinc (v := nI (i + 1)) (lv' := [(3, .int (nI (i + 1))), (2, .int x_44), (4, .ref (ad (3000 + i))), (0, .ref (ad 7)), (1, .int o)]) hx hb dX1_centsOfOwner_45 hl (k := 4) rfl (nI_1 i) (by decide) rfl (fun ls hl => ?_)
          refine lv_goto (tgt := 4) hx hb dX1_centsOfOwner_48 (by decide) ?_
          exact ih4 (i + 1) x_44 (by omega) (by omega) (by rw [sumO, if_pos c_34, ex_44, ek]) ls (lv_sub hl [3, 4, 1, 0] rfl)
  have hl := lv_entry ([.ref (ad 7), .int o]) (n := 5) (Nat.le_of_ble_eq_true rfl)
  rw [lg_entry_eq]
  generalize (lg_sl ([.ref (ad 7), .int o]) ++ List.replicate (5 - (lg_sl ([.ref (ad 7), .int o])).length) Slot.unset).toArray = ls at hl ⊢
  have hl : lv_has ls 5 [(0, .ref (ad 7)), (1, .int o)] := hl
  refine lv_iconst (v := 0) hx hb dX1_centsOfOwner_0 (by decide) ?_
  refine lv_istore_n (lv' := [(2, .int 0), (0, .ref (ad 7)), (1, .int o)]) hx hb dX1_centsOfOwner_1 rfl hl (by decide) rfl (fun ls hl => ?_)
  refine lv_iconst (v := 0) hx hb dX1_centsOfOwner_2 (by decide) ?_
  refine lv_istore_n (lv' := [(3, .int 0), (2, .int 0), (0, .ref (ad 7)), (1, .int o)]) hx hb dX1_centsOfOwner_3 rfl hl (by decide) rfl (fun ls hl => ?_)
  exact loop4 (nl + 1) 0 0 (by omega) (by omega) rfl ls (lv_sub hl [2, 3, 1, 0] rfl)

set_option maxHeartbeats 4000000 in
set_option maxRecDepth 100000 in
/-- Bills.find -/
theorem c_X1_find (l : Launch) (D : va_G) (y : Nat → ClassId) (Ls : List Nat) (ad : Nat → Nat) (G : Nat → va_E) (nl : Nat) (bo bm bc bi : Nat → Int32) (hBs : BillsAt y Ls ad G nl bo bm bc bi) (o q0 : Int32) : Met l yX1_find wsX1_find ({ frames := 3, cells := 0, slots := 0, locals := 64 }) (va_Pc [.ref (ad 7), .int o, .int q0] (Wd D y (wl Ls ad G))) (va_Sq (fun r => (∃ k, k < nl ∧ bo k = o ∧ nI (cnt bo o k) = q0 ∧ r = some (ad (3000 + k))) ∨ (r = none ∧ ∀ k, k < nl → bo k = o → nI (cnt bo o k) ≠ q0))) 0 0 (fun _ => False) := by
  refine Met.ofW (cc := cX1_find) (maxL := 6) (ret := (some (.object "StorageCharge$BillLine"))) (by decide) rfl ?_
  intro p e s m args below meth c s₁ B hml hv
  obtain ⟨rfl, hP, hK, hN⟩ := hv
  have hx := B.exec
  have hb := B.bytes
  have hr := B.returns
  have hts := atoms_spec (ws := wsX1_find) B.pre
  have hown : s.vm.findClass RX1 = some m.cls := findClass_of_methodNamed B.named
  have hlocks := B.notSynchronized
  have hinX0 : ∀ w ∈ wsX00, w ∈ wsX1_find := by decide +kernel
  have hinX1 : ∀ w ∈ wsX10, w ∈ wsX1_find := by decide +kernel
  obtain ⟨mc8, ea8, hj8, ej8, hn8, -⟩ := id hBs.2.1
  have loop5 : ∀ (n : Nat) (i : Nat) (k : Int32), i ≤ nl → nl < i + n → k = nI (cnt bo o i) → (∀ q, q < i → bo q = o → nI (cnt bo o q) ≠ q0) → ∀ ls : Array Slot, lv_has ls 6 [(0, .ref (ad 7)), (1, .int o), (2, .int q0), (3, .int k), (4, .int (nI i))] → W p l e (headSpec wsX1_find ({ frames := 3, cells := 0, slots := 0, locals := 64 })).room s m ([.ref (ad 7), .int o, .int q0] : List Value).toArray below meth c s.heap [] 0 0 (MQ below (va_Sq (fun r => (∃ k, k < nl ∧ bo k = o ∧ nI (cnt bo o k) = q0 ∧ r = some (ad (3000 + k))) ∨ (r = none ∧ ∀ k, k < nl → bo k = o → nI (cnt bo o k) ≠ q0))) ([.ref (ad 7), .int o, .int q0] : List Value).toArray s 0 0 (fun _ => False)) (F0 m 5 ls []) := by
    intro n
    induction n with
    | zero =>
      intro i k hi hn; exact absurd hn (by omega)
    | succ n ih5 =>
      intro i k hi hn ek hno ls hl
      refine lv_iload hx hb dX1_find_5 (lv_at hl 4 rfl) ?_
      refine lv_aload_n hx hb dX1_find_7 rfl (lv_at hl 0 rfl) ?_
      refine pv_get (ci := 3) (C := RX1) (T := TX1) (N := 1) hx hb hts hinX1 hown hK hP hBs.1.1 hBs.1.2 rfl 0 (by decide) (hts (.fieldLink RX1 12 "StorageCharge$Bills" "lines" "Ljava/util/ArrayList;") (by decide +kernel)) (fun _ h9 => h9) rfl dX1_find_8 ?_
      refine vp_callSi (va_Run.run (va_runV (As := []) (rest := [.int (nI i)]) ⟨hx, hb, hml, hown, hts⟩ (c_Jx4a65c_size_8abf5 l D y Ls ad G 8 nl (fun i => ad (3000 + i)) hBs.2.1) (cwV 0 hts gX1_find_Jx4a65c_size_8abf5 rfl rfl rfl (by decide +kernel) ⟨Nat.le_of_ble_eq_true rfl, Nat.le_of_ble_eq_true rfl⟩) ⟨Wd_blind, Wd_recv hK hP (ci := 1) rfl hj8 ej8, Wd_at hP hK hN⟩ rfl rfl hl.1 rfl (lv_room (Nat.le_of_ble_eq_true rfl)) dX1_find_11 ⟨Nat.zero_le _, Nat.zero_le _⟩)) (fun r_11 hr_11 => ?_)
      refine lv_icmp_ge (tgt := 57) hx hb dX1_find_14 (by decide) (fun c_14 => ?_) (fun c_14 => ?_)
      · have hge : nl = i := by
          have h8 := Nat.le_of_not_lt (fun h : i < nl => absurd (by rw [← hr_11]; exact c_14) (nI_ge h (by omega)))
          omega
        refine lv_null hx hb dX1_find_57 ?_
        exact W.aret (v := .null) hx hb hr (by first | exact Or.inl ⟨_, rfl⟩ | exact Or.inr ⟨_, rfl⟩) (Or.inl rfl) (fun t ht hW => ⟨none, rfl, Or.inr ⟨rfl, by rw [hge]; exact hno⟩, ht⟩) (fun q h => by cases h) dX1_find_58
      · have hlt : i < nl := Nat.lt_of_not_le fun h => c_14 (by rw [hr_11]; exact nI_le h (by omega))
        refine lv_aload_n hx hb dX1_find_17 rfl (lv_at hl 0 rfl) ?_
        refine pv_get (ci := 3) (C := RX1) (T := TX1) (N := 1) hx hb hts hinX1 hown hK hP hBs.1.1 hBs.1.2 rfl 0 (by decide) (hts (.fieldLink RX1 12 "StorageCharge$Bills" "lines" "Ljava/util/ArrayList;") (by decide +kernel)) (fun _ h9 => h9) rfl dX1_find_18 ?_
        refine lv_iload hx hb dX1_find_21 (lv_at hl 4 rfl) ?_
        refine va_csr (va_Run.run (va_runV (As := [.int (nI i)]) (rest := []) ⟨hx, hb, hml, hown, hts⟩ (c_Jx4a65c_get_915e3 l D y Ls ad G 8 nl (fun i => ad (3000 + i)) hBs.2.1 i hlt) (cwV 1 hts gX1_find_Jx4a65c_get_915e3 rfl rfl rfl (by decide +kernel) ⟨Nat.le_of_ble_eq_true rfl, Nat.le_of_ble_eq_true rfl⟩) ⟨Wd_blind, Wd_recv hK hP (ci := 1) rfl hj8 ej8, Wd_at hP hK hN⟩ rfl rfl hl.1 rfl (lv_room (Nat.le_of_ble_eq_true rfl)) dX1_find_23 ⟨Nat.zero_le _, Nat.zero_le _⟩)) (fun r_23 hr_23 => ?_)
        subst hr_23
        refine va_castS hx hb hown (hts (.classLink RX1 30 "StorageCharge$BillLine") (by decide +kernel)) (hK.1 2 _ rfl).2 (Wd_recv hK hP (ci := 2) rfl (hBs.2.2 i hlt).1 (hBs.2.2 i hlt).2) dX1_find_26 ?_
        refine lv_astore (lv' := [(5, .ref (ad (3000 + i))), (0, .ref (ad 7)), (1, .int o), (2, .int q0), (3, .int k), (4, .int (nI i))]) hx hb dX1_find_29 hl (by decide) rfl (fun ls hl => ?_)
        refine lv_aload hx hb dX1_find_31 (lv_at hl 0 rfl) ?_
        refine pv_getN (ci := 2) (C := RX0) (T := TX0) (N := 4) hx hb hts hinX0 hown hK hP (hBs.2.2 i hlt).1 (hBs.2.2 i hlt).2 rfl 0 (by decide) hN (by decide +kernel : Cond.fieldLinkNest RX1 32 "StorageCharge$BillLine" "owner" "I" "StorageCharge" ∈ nestW) (fun _ h9 => h9) rfl dX1_find_33 ?_
        refine lv_iload_n hx hb dX1_find_36 rfl (lv_at hl 2 rfl) ?_
        refine lv_icmp_ne (tgt := 51) hx hb dX1_find_37 (by decide) (fun c_37 => ?_) (fun c_37 => ?_)
        · refine lv_iinc (v := nI (i + 1)) (lv' := [(4, .int (nI (i + 1))), (5, .ref (ad (3000 + i))), (0, .ref (ad 7)), (1, .int o), (2, .int q0), (3, .int k)]) hx hb dX1_find_51 hl (k := 5) rfl (nI_1 i) (by decide) rfl (fun ls hl => ?_)
          refine lv_goto (tgt := 5) hx hb dX1_find_54 (by decide) ?_
          exact ih5 (i + 1) k (by omega) (by omega) (by rw [cnt, if_neg c_37, ek]) (lt_s hno (fun h => by first | exact absurd h c_37 | exact fun h2 => c_42 (by rw [ek]; exact h2))) ls (lv_sub hl [2, 3, 4, 5, 0] rfl)
        · refine lv_iload_n hx hb dX1_find_40 rfl (lv_at hl 4 rfl) ?_
          refine lv_iload_n hx hb dX1_find_41 rfl (lv_at hl 3 rfl) ?_
          refine lv_icmp_ne (tgt := 48) hx hb dX1_find_42 (by decide) (fun c_42 => ?_) (fun c_42 => ?_)
          · obtain ⟨x_48, ex_48⟩ : ∃ y9 : Int32, y9 = k + 1 := ⟨_, rfl⟩
            refine lv_iinc (v := x_48) (lv' := [(3, .int x_48), (5, .ref (ad (3000 + i))), (0, .ref (ad 7)), (1, .int o), (2, .int q0), (4, .int (nI i))]) hx hb dX1_find_48 hl (k := 4) rfl (by rw [ex_48]; rfl) (by decide) rfl (fun ls hl => ?_)
            refine lv_iinc (v := nI (i + 1)) (lv' := [(4, .int (nI (i + 1))), (3, .int x_48), (5, .ref (ad (3000 + i))), (0, .ref (ad 7)), (1, .int o), (2, .int q0)]) hx hb dX1_find_51 hl (k := 5) rfl (nI_1 i) (by decide) rfl (fun ls hl => ?_)
            refine lv_goto (tgt := 5) hx hb dX1_find_54 (by decide) ?_
            exact ih5 (i + 1) x_48 (by omega) (by omega) (by rw [cnt, if_pos c_37, ex_48, ek]; exact nI_1 _) (lt_s hno (fun h => by first | exact absurd h c_37 | exact fun h2 => c_42 (by rw [ek]; exact h2))) ls (lv_sub hl [3, 4, 5, 1, 0] rfl)
          · refine lv_aload hx hb dX1_find_45 (lv_at hl 0 rfl) ?_
            exact W.aret (v := .ref (ad (3000 + i))) hx hb hr (by first | exact Or.inl ⟨_, rfl⟩ | exact Or.inr ⟨_, rfl⟩) (Or.inr ⟨_, rfl⟩) (fun t ht hW => ⟨some (ad (3000 + i)), rfl, Or.inl ⟨i, hlt, c_37, by rw [← ek]; exact c_42, rfl⟩, ht⟩) (fun q h => by cases h) dX1_find_47
  have hl := lv_entry ([.ref (ad 7), .int o, .int q0]) (n := 6) (Nat.le_of_ble_eq_true rfl)
  rw [lg_entry_eq]
  generalize (lg_sl ([.ref (ad 7), .int o, .int q0]) ++ List.replicate (6 - (lg_sl ([.ref (ad 7), .int o, .int q0])).length) Slot.unset).toArray = ls at hl ⊢
  have hl : lv_has ls 6 [(0, .ref (ad 7)), (1, .int o), (2, .int q0)] := hl
  refine lv_iconst (v := 0) hx hb dX1_find_0 (by decide) ?_
  refine lv_istore_n (lv' := [(3, .int 0), (0, .ref (ad 7)), (1, .int o), (2, .int q0)]) hx hb dX1_find_1 rfl hl (by decide) rfl (fun ls hl => ?_)
  refine lv_iconst (v := 0) hx hb dX1_find_2 (by decide) ?_
  refine lv_istore (lv' := [(4, .int 0), (3, .int 0), (0, .ref (ad 7)), (1, .int o), (2, .int q0)]) hx hb dX1_find_3 hl (by decide) rfl (fun ls hl => ?_)
  exact loop5 (nl + 1) 0 0 (by omega) (by omega) rfl (fun q h => by omega) ls (lv_sub hl [2, 3, 4, 1, 0] rfl)
