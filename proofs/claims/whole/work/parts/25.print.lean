/-! print -/
def prC (bo bm bc bi : Nat → Int32) (zm zc : Nat → Nat) (o : Int32) : Nat → List Int32
  | 0 => []
  | i + 1 => if bo i = o then prC bo bm bc bi zm zc o i ++ linC (bm i) (bc i) (bi i) (zm i) (zc i) else prC bo bm bc bi zm zc o i
theorem numC_len {v : Int32} {z d : Nat} (hz : z < 10 ^ d) (h1 : 1 ≤ d) : (numC v z).length ≤ d + 2 := by
  have := dgR_len (k := 10) hz h1
  rw [numC]
  split <;> simp only [List.length_cons] <;> omega
theorem numC_len0 {v : Int32} {z d : Nat} (hv : ¬ v < 0) (hz : z < 10 ^ d) (h1 : 1 ≤ d) : (numC v z).length ≤ d + 1 := by
  have := dgR_len (k := 10) hz h1
  rw [numC, if_neg hv]
  simp only [List.length_cons]; omega
theorem linC_16 {bm0 bc0 bi0 : Int32} {zm zc : Nat} (h1 : bm0 = nI zm) (hm : zm < 1000) (hc : zc < 10 ^ 8) : (linC bm0 bc0 bi0 zm zc).length ≤ 16 := by
  have h2 := numC_len0 (v := bm0) (z := zm) (d := 3) (by rw [h1]; exact nI_pos (by omega)) hm (by decide)
  have h3 := numC_len (v := bc0) (z := zc) (d := 8) hc (by decide)
  rw [linC_len]; omega
theorem prC_16 {bo bm bc bi : Nat → Int32} {zm zc : Nat → Nat} {o : Int32} : ∀ n, (∀ i, i < n → (linC (bm i) (bc i) (bi i) (zm i) (zc i)).length ≤ 16) → (prC bo bm bc bi zm zc o n).length ≤ 16 * n := by
  intro n
  induction n with
  | zero => intro _; exact Nat.zero_le _
  | succ n ih =>
    intro h
    have h1 := ih (fun i hi => h i (by omega))
    have h2 := h n (by omega)
    rw [prC]
    split
    · rw [List.length_append]; omega
    · omega

theorem ListAt_fr {y : Nat → ClassId} {Ls : List Nat} {ad : Nat → Nat} {G G2 : Nat → va_E} {j n : Nat} {el : Nat → Nat} (h1 : G2 j = G j) (h2 : G2 (j + 1) = G (j + 1)) (h : ListAt y Ls ad G j n el) : ListAt y Ls ad G2 j n el := by
  obtain ⟨mc, ea, a, b, c, d⟩ := h
  refine ⟨mc, ea, a, h1.trans b, c, fun h0 => ?_⟩
  obtain ⟨d1, d2, cap, f, d3, d4⟩ := d h0
  exact ⟨d1, d2, cap, f, h2.trans d3, d4⟩
theorem BillsAt_fr {y : Nat → ClassId} {Ls : List Nat} {ad : Nat → Nat} {G G2 : Nat → va_E} {nl : Nat} {bo bm bc bi : Nat → Int32} (h : ∀ j, (7 ≤ j ∧ j ≤ 9) ∨ 3000 ≤ j → G2 j = G j) (hB : BillsAt y Ls ad G nl bo bm bc bi) : BillsAt y Ls ad G2 nl bo bm bc bi :=
  ⟨⟨hB.1.1, (h 7 (by omega)).trans hB.1.2⟩, ListAt_fr (h 8 (by omega)) (h 9 (by omega)) hB.2.1, fun i hi => ⟨(hB.2.2 i hi).1, (h (3000 + i) (by omega)).trans (hB.2.2 i hi).2⟩⟩

set_option maxHeartbeats 4000000 in
set_option maxRecDepth 100000 in
/-- print -/
theorem c_X7_print (l : Launch) (hl0 : l.stackTraces = false) (D : va_G) (y : Nat → ClassId) (b0 : Nat) (Ls : List Nat) (ad : Nat → Nat) (G : Nat → va_E) (ch dr : Nat) (hX : XAt Ls ad G ch dr) (nl : Nat) (bo bm bc bi : Nat → Int32) (hBs : BillsAt y Ls ad G nl bo bm bc bi) (pf : Nat → Int32) (pn : Nat) (hPa : PaperAt y Ls ad G pf pn) (zm zc : Nat → Nat) (hzz : ∀ i, i < nl → bm i = nI (zm i) ∧ zm i < 1000 ∧ zc i < 10 ^ 8 ∧ (bc i = nI (zc i) ∨ (0 < zc i ∧ bc i = -nI (zc i)))) (hnl : nl ≤ 512) (o : Int32) : vx_Met l yX7_print wsX7_print ({ frames := 7, cells := 1, slots := 6, locals := 102 }) (va_Pc [.ref (ad 0), .int o] (WdM D y b0 (wl Ls ad G))) (va_Qi (fun (r : Int32) (u : va_W) => inR o 7 ∧ r = nI (prC bo bm bc bi zm zc o nl).length ∧ ∃ G2, u = wl Ls ad G2 ∧ PaperAt y Ls ad G2 (wrL pf 0 (prC bo bm bc bi zm zc o nl)) (prC bo bm bc bi zm zc o nl).length ∧ (∀ j, j ≠ 30 → j ≠ 31 → G2 j = G j)) (WB D b0) (fun q => b0 ≤ q)) (XX D b0 (wl Ls ad G) (fun k => k = 0 ∧ ¬ inR o 7)) 1 6 (fun q => b0 ≤ q) := by
  refine vx_ofW (cc := cX7_print) (maxL := 4) (ret := (some .int)) (by decide) rfl ?_
  intro p e s m args below meth c s₁ B hml hno hv
  obtain ⟨rfl, ⟨hP, hK, hN⟩, hD, hb0, hT⟩ := hv
  have hx := B.exec
  have hb := B.bytes
  have hr := B.returns
  have hts := atoms_spec (ws := wsX7_print) B.pre
  have hown : s.vm.findClass RX7 = some m.cls := findClass_of_methodNamed B.named
  have hlocks := B.notSynchronized
  have hS : va_S (fun q => b0 ≤ q) s.heap s.heap [] := va_S.rf
  have hinX0 : ∀ w ∈ wsX00, w ∈ wsX7_print := by decide +kernel
  have hinX1 : ∀ w ∈ wsX10, w ∈ wsX7_print := by decide +kernel
  have hinX4 : ∀ w ∈ wsX40, w ∈ wsX7_print := by decide +kernel
  have hinX7 : ∀ w ∈ wsX70, w ∈ wsX7_print := by decide +kernel
  obtain ⟨hX0, eX0⟩ := id hX
  obtain ⟨hp0, hp1, ep0, ep1, hpn⟩ := id hPa
  obtain ⟨hb7, eb7⟩ := hBs.1
  obtain ⟨mc8, ea8, hj8, ej8, hn8, -⟩ := id hBs.2.1
  have hl := lv_entry ([.ref (ad 0), .int o]) (n := 4) (Nat.le_of_ble_eq_true rfl)
  rw [lg_entry_eq]
  generalize (lg_sl ([.ref (ad 0), .int o]) ++ List.replicate (4 - (lg_sl ([.ref (ad 0), .int o])).length) Slot.unset).toArray = ls at hl ⊢
  have hl : lv_has ls 4 [(0, .ref (ad 0)), (1, .int o)] := hl
  refine lv_iload_n hx hb dX7_print_0 rfl (lv_at hl 1 rfl) ?_
  refine vx_callv (vx_runS (As := [.int o]) (rest := []) ⟨hx, hb, hml, hown, hts⟩ (c_X7_checkOwner l hl0 D y b0 (wl Ls ad G) o) (va_cwS 1 hts gX7_print_X7_checkOwner rfl rfl rfl (by decide +kernel) ⟨(Nat.le_of_ble_eq_true rfl), (Nat.le_of_ble_eq_true rfl)⟩) ⟨WdM_blind, WdM_at hP hK hN hD hS hb0 hT⟩ rfl rfl hl.1 rfl (lv_room (Nat.le_of_ble_eq_true rfl)) dX7_print_1 ⟨(Nat.le_of_ble_eq_true rfl), (Nat.le_of_ble_eq_true rfl)⟩) hS (fun _ _ h => h) (fun _ h => h) (fun _ _ h => h) (fun E9 ce9 q9 k9 t9 H9 locs9 ht9 hvm9 hp9 hB9 hz9 hk9 hS9 hce9 hcv9 hcl9 => pv_out (⟨hp9.1, hp9.2⟩) hB9 ht9 hS9 hno hlocks hce9 hcv9 hcl9 (Nat.le_of_ble_eq_true rfl) (Nat.le_of_ble_eq_true rfl)) (fun u1 t H locs ht hvm hw1 hB hz1 hk1 hS => ?_)
  obtain ⟨hP, hD⟩ := hB
  rw [ht] at hP
  obtain ⟨hw1, rfl⟩ := hw1
  refine lv_aload_n hx hb dX7_print_4 rfl (lv_at hl 0 rfl) ?_
  refine pv_get (ci := 9) (C := RX7) (T := TX7) (N := 7) hx hb hts hinX7 hown hK hP hX0 eX0 rfl 6 (by decide) (hts (.fieldLink RX7 46 "StorageCharge" "paper" "LStorageCharge$Paper;") (by decide +kernel)) (fun _ h9 => h9) rfl dX7_print_5 ?_
  have loop13 : ∀ (n : Nat) (i : Nat) (G1 : Nat → va_E), i ≤ nl → nl < i + n → PaperAt y Ls ad G1 (wrL pf 0 (prC bo bm bc bi zm zc o i)) (prC bo bm bc bi zm zc o i).length → (∀ j, j ≠ 30 → j ≠ 31 → G1 j = G j) → ∀ (H : Heap) (locs : List Loc), va_P D vwCl (wl Ls ad G1) H → va_D (fun q => b0 ≤ q) (wl Ls ad G1) → va_S (fun q => b0 ≤ q) s.heap H locs → ∀ ls : Array Slot, lv_has ls 4 [(0, .ref (ad 0)), (1, .int o), (2, .int (nI i))] → W p l e (headSpec wsX7_print ({ frames := 7, cells := 1, slots := 6, locals := 102 })).room s m ([.ref (ad 0), .int o] : List Value).toArray below meth c H locs 1 6 (vx_MQ below (va_Qi (fun (r : Int32) (u : va_W) => inR o 7 ∧ r = nI (prC bo bm bc bi zm zc o nl).length ∧ ∃ G2, u = wl Ls ad G2 ∧ PaperAt y Ls ad G2 (wrL pf 0 (prC bo bm bc bi zm zc o nl)) (prC bo bm bc bi zm zc o nl).length ∧ (∀ j, j ≠ 30 → j ≠ 31 → G2 j = G j)) (WB D b0) (fun q => b0 ≤ q)) (XX D b0 (wl Ls ad G) (fun k => k = 0 ∧ ¬ inR o 7)) ([.ref (ad 0), .int o] : List Value).toArray s 1 6 (fun q => b0 ≤ q)) (F0 m 13 ls []) := by
    intro n
    induction n with
    | zero =>
      intro i G1 hi hn; exact absurd hn (by omega)
    | succ n ih13 =>
      intro i G1 hi hn hPa1 hfr1 H locs hP hD hS ls hl
      have hBs1 : BillsAt y Ls ad G1 nl bo bm bc bi := BillsAt_fr (fun j h => hfr1 j (by omega) (by omega)) hBs
      have eX0 := (hfr1 0 (by decide) (by decide)).trans eX0
      obtain ⟨hb7, eb7⟩ := hBs1.1
      obtain ⟨mc8, ea8, hj8, ej8, hn8, -⟩ := id hBs1.2.1
      obtain ⟨hp0, hp1, ep0, ep1, hpn1⟩ := id hPa1
      refine lv_iload_n hx hb dX7_print_13 rfl (lv_at hl 2 rfl) ?_
      refine lv_aload_n hx hb dX7_print_14 rfl (lv_at hl 0 rfl) ?_
      refine pv_get (ci := 9) (C := RX7) (T := TX7) (N := 7) hx hb hts hinX7 hown hK hP hX0 eX0 rfl 5 (by decide) (hts (.fieldLink RX7 39 "StorageCharge" "bills" "LStorageCharge$Bills;") (by decide +kernel)) (fun _ h9 => h9) rfl dX7_print_15 ?_
      refine pv_getN (ci := 3) (C := RX1) (T := TX1) (N := 1) hx hb hts hinX1 hown hK hP hb7 eb7 rfl 0 (by decide) hN (by decide +kernel : Cond.fieldLinkNest RX7 214 "StorageCharge$Bills" "lines" "Ljava/util/ArrayList;" "StorageCharge" ∈ nestW) (fun _ h9 => h9) rfl dX7_print_18 ?_
      refine vp_callSi (va_Run.run (va_runV (As := []) (rest := [.int (nI i)]) ⟨hx, hb, hml, hown, hts⟩ (c_Jx4a65c_size_8abf5 l D y Ls ad G1 8 nl (fun i => ad (3000 + i)) hBs1.2.1) (cwV 0 hts gX7_print_Jx4a65c_size_8abf5 rfl rfl rfl (by decide +kernel) ⟨Nat.le_of_ble_eq_true rfl, Nat.le_of_ble_eq_true rfl⟩) ⟨Wd_blind, Wd_recv hK hP (ci := 1) rfl hj8 ej8, Wd_at hP hK hN⟩ rfl rfl hl.1 rfl (lv_room (Nat.le_of_ble_eq_true rfl)) dX7_print_21 ⟨(Nat.le_of_ble_eq_true rfl), (Nat.le_of_ble_eq_true rfl)⟩)) (fun r_21 hr_21 => ?_)
      refine lv_icmp_ge (tgt := 64) hx hb dX7_print_24 (by decide) (fun c_24 => ?_) (fun c_24 => ?_)
      · have hge : nl = i := by
          have h8 := Nat.le_of_not_lt (fun h : i < nl => absurd (by rw [← hr_21]; exact c_24) (nI_ge h (by omega)))
          omega
        refine lv_aload_n hx hb dX7_print_64 rfl (lv_at hl 0 rfl) ?_
        refine pv_get (ci := 9) (C := RX7) (T := TX7) (N := 7) hx hb hts hinX7 hown hK hP hX0 eX0 rfl 6 (by decide) (hts (.fieldLink RX7 46 "StorageCharge" "paper" "LStorageCharge$Paper;") (by decide +kernel)) (fun _ h9 => h9) rfl dX7_print_65 ?_
        refine pv_getN (ci := 6) (C := RX4) (T := TX4) (N := 2) hx hb hts hinX4 hown hK hP hp0 ep0 rfl 1 (by decide) hN (by decide +kernel : Cond.fieldLinkNest RX7 223 "StorageCharge$Paper" "length" "I" "StorageCharge" ∈ nestW) (fun _ h9 => h9) rfl dX7_print_68 ?_
        refine W.widen (k := 1) (n := 6) (Nat.le_of_ble_eq_true rfl) (Nat.le_of_ble_eq_true rfl) ?_
        exact vx_ret (W.iret (v := nI ((prC bo bm bc bi zm zc o i).length)) hx hb hr (fun t ht hW => ⟨⟨nI ((prC bo bm bc bi zm zc o i).length), wl Ls ad G1, rfl, ⟨hw1, by rw [hge], G1, rfl, by rw [hge]; exact hPa1, hfr1⟩, by rw [ht]; exact hP, hD⟩, hS.F ht⟩) hS.2.2 dX7_print_71)
      · have hlt : i < nl := Nat.lt_of_not_le fun h => c_24 (by rw [hr_21]; exact nI_le h (by omega))
        obtain ⟨hli, eli⟩ := hBs1.2.2 i hlt
        obtain ⟨hz1, hz2, hz3, hz4⟩ := hzz i hlt
        refine lv_aload_n hx hb dX7_print_27 rfl (lv_at hl 0 rfl) ?_
        refine pv_get (ci := 9) (C := RX7) (T := TX7) (N := 7) hx hb hts hinX7 hown hK hP hX0 eX0 rfl 5 (by decide) (hts (.fieldLink RX7 39 "StorageCharge" "bills" "LStorageCharge$Bills;") (by decide +kernel)) (fun _ h9 => h9) rfl dX7_print_28 ?_
        refine pv_getN (ci := 3) (C := RX1) (T := TX1) (N := 1) hx hb hts hinX1 hown hK hP hb7 eb7 rfl 0 (by decide) hN (by decide +kernel : Cond.fieldLinkNest RX7 214 "StorageCharge$Bills" "lines" "Ljava/util/ArrayList;" "StorageCharge" ∈ nestW) (fun _ h9 => h9) rfl dX7_print_31 ?_
        refine lv_iload_n hx hb dX7_print_34 rfl (lv_at hl 2 rfl) ?_
        refine va_csr (va_Run.run (va_runV (As := [.int (nI i)]) (rest := []) ⟨hx, hb, hml, hown, hts⟩ (c_Jx4a65c_get_915e3 l D y Ls ad G1 8 nl (fun i => ad (3000 + i)) hBs1.2.1 i hlt) (cwV 1 hts gX7_print_Jx4a65c_get_915e3 rfl rfl rfl (by decide +kernel) ⟨Nat.le_of_ble_eq_true rfl, Nat.le_of_ble_eq_true rfl⟩) ⟨Wd_blind, Wd_recv hK hP (ci := 1) rfl hj8 ej8, Wd_at hP hK hN⟩ rfl rfl hl.1 rfl (lv_room (Nat.le_of_ble_eq_true rfl)) dX7_print_35 ⟨(Nat.le_of_ble_eq_true rfl), (Nat.le_of_ble_eq_true rfl)⟩)) (fun r_35 hr_35 => ?_)
        subst hr_35
        refine va_castS hx hb hown (hts (.classLink RX7 176 "StorageCharge$BillLine") (by decide +kernel)) (hK.1 2 _ rfl).2 (Wd_recv hK hP (ci := 2) rfl hli eli) dX7_print_38 ?_
        refine lv_astore_n (lv' := [(3, .ref (ad (3000 + i))), (0, .ref (ad 0)), (1, .int o), (2, .int (nI i))]) hx hb dX7_print_41 rfl hl (by decide) rfl (fun ls hl => ?_)
        refine lv_aload_n hx hb dX7_print_42 rfl (lv_at hl 0 rfl) ?_
        refine pv_getN (ci := 2) (C := RX0) (T := TX0) (N := 4) hx hb hts hinX0 hown hK hP hli eli rfl 0 (by decide) hN (by decide +kernel : Cond.fieldLinkNest RX7 217 "StorageCharge$BillLine" "owner" "I" "StorageCharge" ∈ nestW) (fun _ h9 => h9) rfl dX7_print_43 ?_
        refine lv_iload_n hx hb dX7_print_46 rfl (lv_at hl 2 rfl) ?_
        refine lv_icmp_ne (tgt := 58) hx hb dX7_print_47 (by decide) (fun c_47 => ?_) (fun c_47 => ?_)
        · refine lv_iinc (v := nI (i + 1)) (lv' := [(2, .int (nI (i + 1))), (3, .ref (ad (3000 + i))), (0, .ref (ad 0)), (1, .int o)]) hx hb dX7_print_58 hl (k := 3) rfl (nI_1 i) (by decide) rfl (fun ls hl => ?_)
          refine lv_goto (tgt := 13) hx hb dX7_print_61 (by decide) ?_
          exact ih13 (i + 1) G1 (by omega) (by omega) (by rw [prC, if_neg c_47]; exact hPa1) hfr1 _ _ hP hD hS ls (lv_sub hl [2, 3, 0] rfl)
        · have hrm : (prC bo bm bc bi zm zc o i).length + (linC (bm i) (bc i) (bi i) (zm i) (zc i)).length ≤ 8192 := by
            have h16 := prC_16 (bo := bo) (bc := bc) (o := o) i (fun q hq => linC_16 (bc0 := bc q) (bi0 := bi q) (hzz q (by omega)).1 (hzz q (by omega)).2.1 (hzz q (by omega)).2.2.1)
            have h17 := linC_16 (bm0 := bm i) (bc0 := bc i) (bi0 := bi i) hz1 hz2 hz3
            omega
          refine lv_aload_n hx hb dX7_print_50 rfl (lv_at hl 1 rfl) ?_
          refine pv_get (ci := 9) (C := RX7) (T := TX7) (N := 7) hx hb hts hinX7 hown hK hP hX0 eX0 rfl 6 (by decide) (hts (.fieldLink RX7 46 "StorageCharge" "paper" "LStorageCharge$Paper;") (by decide +kernel)) (fun _ h9 => h9) rfl dX7_print_51 ?_
          refine lv_aload_n hx hb dX7_print_54 rfl (lv_at hl 0 rfl) ?_
          refine va_callv (va_runV (As := [.ref (ad (3000 + i))]) (rest := []) ⟨hx, hb, hml, hown, hts⟩ (c_X4_write l hl0 D y b0 Ls ad G1 (wrL pf 0 (prC bo bm bc bi zm zc o i)) (prC bo bm bc bi zm zc o i).length hPa1 (bo i) (bm i) (bc i) (bi i) (3000 + i) hli eli ⟨by omega, by omega⟩ (zm i) (zc i) (by omega) (by omega) (Or.inl hz1) hz4 hrm) (cwV 1 hts gX7_print_X4_write rfl rfl rfl (by decide +kernel) ⟨(Nat.le_of_ble_eq_true rfl), (Nat.le_of_ble_eq_true rfl)⟩) ⟨WdM_blind, Wd_recv hK hP (ci := 6) rfl hp0 ep0, WdM_at hP hK hN hD hS hb0 hT⟩ rfl rfl hl.1 rfl (lv_room (Nat.le_of_ble_eq_true rfl)) dX7_print_55 ⟨(Nat.le_of_ble_eq_true rfl), (Nat.le_of_ble_eq_true rfl)⟩) hS (fun _ _ h => h) (fun _ h => h) (fun u55 t H locs ht hvm hw55 hB hz1 hk1 hS => ?_)
          obtain ⟨hP, hD⟩ := hB
          rw [ht] at hP
          obtain ⟨g55, rfl, hPa55, hfr55⟩ := hw55
          refine lv_iinc (v := nI (i + 1)) (lv' := [(2, .int (nI (i + 1))), (3, .ref (ad (3000 + i))), (0, .ref (ad 0)), (1, .int o)]) hx hb dX7_print_58 hl (k := 3) rfl (nI_1 i) (by decide) rfl (fun ls hl => ?_)
          refine lv_goto (tgt := 13) hx hb dX7_print_61 (by decide) ?_
          exact ih13 (i + 1) g55 (by omega) (by omega) (by rw [prC, if_pos c_47, wrL_app, List.length_append, Nat.zero_add]; exact hPa55) (fun j h1 h2 => (hfr55 j h1 h2).trans (hfr1 j h1 h2)) _ _ hP hD hS ls (lv_sub hl [2, 3, 0] rfl)
  refine va_callv (va_runV (As := []) (rest := []) ⟨hx, hb, hml, hown, hts⟩ (c_X4_clear l hl0 D y b0 Ls ad G pf pn hPa) (cwV 0 hts gX7_print_X4_clear rfl rfl rfl (by decide +kernel) ⟨(Nat.le_of_ble_eq_true rfl), (Nat.le_of_ble_eq_true rfl)⟩) ⟨WdM_blind, Wd_recv hK hP (ci := 6) rfl hp0 ep0, WdM_at hP hK hN hD hS hb0 hT⟩ rfl rfl hl.1 rfl (lv_room (Nat.le_of_ble_eq_true rfl)) dX7_print_8 ⟨(Nat.le_of_ble_eq_true rfl), (Nat.le_of_ble_eq_true rfl)⟩) hS (fun _ _ h => h) (fun _ h => h) (fun u8 t H locs ht hvm hw8 hB hz1 hk1 hS => ?_)
  obtain ⟨hP, hD⟩ := hB
  rw [ht] at hP
  obtain ⟨g8, rfl, hPa8, hfr8⟩ := hw8
  refine lv_iconst (v := 0) hx hb dX7_print_11 (by decide) ?_
  refine lv_istore_n (lv' := [(2, .int 0), (0, .ref (ad 0)), (1, .int o)]) hx hb dX7_print_12 rfl hl (by decide) rfl (fun ls hl => ?_)
  exact loop13 (nl + 1) 0 g8 (by omega) (by omega) hPa8 hfr8 _ _ hP hD hS ls (lv_sub hl [1, 2, 0] rfl)
