/-! readLines and read -/
abbrev DS : Type := Nat × (Nat → Int32) × (Nat → Int32) × (Nat → Int32) × (Nat → Int32) × (Nat → Int32) × (Nat → Int32) × Nat × Int32 × Int32
def CDS (y : Nat → ClassId) (Ls : List Nat) (ad : Nat → Nat) (G : Nat → va_E) (dr : Nat) (d : DS) : Prop := ChargesAt y Ls ad G dr d.2.1 d.2.2.1 d.2.2.2.1 d.2.2.2.2.1 d.2.2.2.2.2.1 d.2.2.2.2.2.2.1 d.2.2.2.2.2.2.2.1 d.2.2.2.2.2.2.2.2.1 d.2.2.2.2.2.2.2.2.2
def lOK (f : Nat → Int32) (len : Nat) (d : DS) : Prop := rlOK f len d.1 d.2.1 d.2.2.1 d.2.2.2.1 d.2.2.2.2.1 d.2.2.2.2.2.1 d.2.2.2.2.2.2.2.1
def rdStep (f : Nat → Int32) (len : Nat) (d : DS) : DS := (nxp len (rlC f len d.1), cUp 83 (nx f len d.1) d.2.1 (5 * rlO f len d.1 + rlS f len d.1).toNatClampNeg (rlT f len d.1), cUp 72 (nx f len d.1) d.2.2.1 (5 * rlO f len d.1 + rlS f len d.1).toNatClampNeg (rlT f len d.1), cUp 77 (nx f len d.1) d.2.2.2.1 (rlO f len d.1).toNatClampNeg (rlS f len d.1), cUp 86 (nx f len d.1) d.2.2.2.2.1 d.2.2.2.2.2.2.2.1 (rlO f len d.1), cUp 86 (nx f len d.1) d.2.2.2.2.2.1 d.2.2.2.2.2.2.2.1 (rlS f len d.1), cUp 86 (nx f len d.1) d.2.2.2.2.2.2.1 d.2.2.2.2.2.2.2.1 (rlT f len d.1), cNd (nx f len d.1) d.2.2.2.2.2.2.2.1, d.2.2.2.2.2.2.2.2.1 + 1, d.2.2.2.2.2.2.2.2.2 ||| ((1 : Int32) <<< (rlO f len d.1 &&& 31)))
def rdN (f : Nat → Int32) (len : Nat) (d0 : DS) : Nat → DS
  | 0 => d0
  | i + 1 => rdStep f len (rdN f len d0 i)
theorem neg1 {p : Nat} (h : p < 2 ^ 30) : -1 - nI p < 0 := by
  rw [Int32.lt_iff_toInt_lt, Int32.toInt_sub, nI_toInt (by omega), show (-1 : Int32).toInt = -1 from by decide, show (0 : Int32).toInt = 0 from by decide]
  rw [Int.bmod_eq_of_le (by omega) (by omega)]
  omega

set_option maxHeartbeats 4000000 in
set_option maxRecDepth 100000 in
/-- readLines -/
theorem c_X7_readLines (l : Launch) (hl0 : l.stackTraces = false) (D : va_G) (y : Nat → ClassId) (b0 : Nat) (Ls : List Nat) (ad : Nat → Nat) (G : Nat → va_E) (ch dr : Nat) (hX : XAt Ls ad G ch dr) (f : Nat → Int32) (len : Nat) (d0 : DS) (hTx : TextAt y Ls ad G f len d0.1) (hC : CDS y Ls ad G dr d0) (hdr : 2 < dr) : Met l yX7_readLines wsX7_readLines ({ frames := 5, cells := 0, slots := 0, locals := 118 }) (va_Pc [.ref (ad 0)] (WdM D y b0 (wl Ls ad G))) (va_Qi (fun (r : Int32) (u : va_W) => ∃ i, i ≤ 60 ∧ (∀ q, q < i → (rdN f len d0 q).1 < len ∧ lOK f len (rdN f len d0 q)) ∧ ((len ≤ (rdN f len d0 i).1 ∧ r = nI i ∧ ∃ G2, u = wl Ls ad G2 ∧ TextAt y Ls ad G2 f len (rdN f len d0 i).1 ∧ CDS y Ls ad G2 dr (rdN f len d0 i) ∧ (∀ j, j ≠ 1 → j ≠ 2 → (j < dr ∨ dr + 6 < j) → G2 j = G j)) ∨ ((rdN f len d0 i).1 < len ∧ (i = 60 ∨ ¬ lOK f len (rdN f len d0 i)) ∧ r = -1 - nI (rdN f len d0 i).1 ∧ ∃ G2 p2 d2, u = wl Ls ad G2 ∧ TextAt y Ls ad G2 f len p2 ∧ CDS y Ls ad G2 dr d2 ∧ (∀ j, j ≠ 1 → j ≠ 2 → (j < dr ∨ dr + 6 < j) → G2 j = G j)))) (WB D b0) (fun q => b0 ≤ q)) 0 0 (fun q => b0 ≤ q) := by
  refine Met.ofW (cc := cX7_readLines) (maxL := 3) (ret := (some .int)) (by decide) rfl ?_
  intro p e s m args below meth c s₁ B hml hv
  obtain ⟨rfl, ⟨hP, hK, hN⟩, hD, hb0, hT⟩ := hv
  have hx := B.exec
  have hb := B.bytes
  have hr := B.returns
  have hts := atoms_spec (ws := wsX7_readLines) B.pre
  have hown : s.vm.findClass RX7 = some m.cls := findClass_of_methodNamed B.named
  have hlocks := B.notSynchronized
  have hS : va_S (fun q => b0 ≤ q) s.heap s.heap [] := va_S.rf
  have hinX5 : ∀ w ∈ wsX50, w ∈ wsX7_readLines := by decide +kernel
  have hinX7 : ∀ w ∈ wsX70, w ∈ wsX7_readLines := by decide +kernel
  obtain ⟨hX0, eX0⟩ := id hX
  have loop2 : ∀ (n : Nat) (i : Nat) (G1 : Nat → va_E), i ≤ 60 → 60 < i + n → (∀ q, q < i → (rdN f len d0 q).1 < len ∧ lOK f len (rdN f len d0 q)) → TextAt y Ls ad G1 f len (rdN f len d0 i).1 → CDS y Ls ad G1 dr (rdN f len d0 i) → (∀ j, j ≠ 1 → j ≠ 2 → (j < dr ∨ dr + 6 < j) → G1 j = G j) → ∀ (H : Heap) (locs : List Loc), va_P D vwCl (wl Ls ad G1) H → va_D (fun q => b0 ≤ q) (wl Ls ad G1) → va_S (fun q => b0 ≤ q) s.heap H locs → ∀ ls : Array Slot, lv_has ls 3 [(0, .ref (ad 0)), (1, .int (nI i))] → W p l e (headSpec wsX7_readLines ({ frames := 5, cells := 0, slots := 0, locals := 118 })).room s m ([.ref (ad 0)] : List Value).toArray below meth c H locs 0 0 (MQ below (va_Qi (fun (r : Int32) (u : va_W) => ∃ i, i ≤ 60 ∧ (∀ q, q < i → (rdN f len d0 q).1 < len ∧ lOK f len (rdN f len d0 q)) ∧ ((len ≤ (rdN f len d0 i).1 ∧ r = nI i ∧ ∃ G2, u = wl Ls ad G2 ∧ TextAt y Ls ad G2 f len (rdN f len d0 i).1 ∧ CDS y Ls ad G2 dr (rdN f len d0 i) ∧ (∀ j, j ≠ 1 → j ≠ 2 → (j < dr ∨ dr + 6 < j) → G2 j = G j)) ∨ ((rdN f len d0 i).1 < len ∧ (i = 60 ∨ ¬ lOK f len (rdN f len d0 i)) ∧ r = -1 - nI (rdN f len d0 i).1 ∧ ∃ G2 p2 d2, u = wl Ls ad G2 ∧ TextAt y Ls ad G2 f len p2 ∧ CDS y Ls ad G2 dr d2 ∧ (∀ j, j ≠ 1 → j ≠ 2 → (j < dr ∨ dr + 6 < j) → G2 j = G j)))) (WB D b0) (fun q => b0 ≤ q)) ([.ref (ad 0)] : List Value).toArray s 0 0 (fun q => b0 ≤ q)) (F0 m 2 ls []) := by
    intro n
    induction n with
    | zero =>
      intro i G1 hi hn; exact absurd hn (by omega)
    | succ n ih2 =>
      intro i G1 hi hn hall hTx1 hC1 hfr1 H locs hP hD hS ls hl
      have eX0 := (hfr1 0 (by decide) (by decide) (by omega)).trans eX0
      obtain ⟨ht1, ht2, et1, et2, hlen, hpl, hne⟩ := id hTx1
      refine lv_iload_n hx hb dX7_readLines_2 rfl (lv_at hl 1 rfl) ?_
      refine lv_bipush (v := 60) hx hb dX7_readLines_3 (by decide) ?_
      refine lv_icmp_ge (tgt := 45) hx hb dX7_readLines_5 (by decide) (fun c_5 => ?_) (fun c_5 => ?_)
      · have h60 : i = 60 := by
          have h8 := Nat.le_of_not_lt (fun h : i < 60 => absurd c_5 (nI_ge h (by decide)))
          omega
        refine lv_aload_n hx hb dX7_readLines_45 rfl (lv_at hl 0 rfl) ?_
        refine pv_get (ci := 9) (C := RX7) (T := TX7) (N := 7) hx hb hts hinX7 hown hK hP hX0 eX0 rfl 0 (by decide) (hts (.fieldLink RX7 10 "StorageCharge" "text" "LStorageCharge$Text;") (by decide +kernel)) (fun _ h9 => h9) rfl dX7_readLines_46 ?_
        refine vp_callSi (va_Run.run (va_runV (As := []) (rest := []) ⟨hx, hb, hml, hown, hts⟩ (c_X5_isRead l D y Ls ad G1 f len (rdN f len d0 i).1 hTx1) (cwV 0 hts gX7_readLines_X5_isRead rfl rfl rfl (by decide +kernel) ⟨Nat.le_of_ble_eq_true rfl, Nat.le_of_ble_eq_true rfl⟩) ⟨Wd_blind, Wd_recv hK hP (ci := 7) rfl ht1 et1, Wd_at hP hK hN⟩ rfl rfl hl.1 rfl (lv_room (Nat.le_of_ble_eq_true rfl)) dX7_readLines_49 ⟨(Nat.le_of_ble_eq_true rfl), (Nat.le_of_ble_eq_true rfl)⟩)) (fun r_49 hr_49 => ?_)
        refine lv_if_eq (tgt := 60) hx hb dX7_readLines_52 (by decide) (fun c_52 => ?_) (fun c_52 => ?_)
        · have hnr : (rdN f len d0 i).1 < len := Nat.lt_of_not_le fun h => by
            rw [hr_49, if_pos h] at c_52
            exact absurd c_52 (by decide)
          refine lv_iconst (v := (-1)) hx hb dX7_readLines_60 (by decide) ?_
          refine lv_aload_n hx hb dX7_readLines_61 rfl (lv_at hl 0 rfl) ?_
          refine pv_get (ci := 9) (C := RX7) (T := TX7) (N := 7) hx hb hts hinX7 hown hK hP hX0 eX0 rfl 0 (by decide) (hts (.fieldLink RX7 10 "StorageCharge" "text" "LStorageCharge$Text;") (by decide +kernel)) (fun _ h9 => h9) rfl dX7_readLines_62 ?_
          refine pv_getN (ci := 7) (C := RX5) (T := TX5) (N := 3) hx hb hts hinX5 hown hK hP ht1 et1 rfl 2 (by decide) hN (by decide +kernel : Cond.fieldLinkNest RX7 264 "StorageCharge$Text" "place" "I" "StorageCharge" ∈ nestW) (fun _ h9 => h9) rfl dX7_readLines_65 ?_
          refine lv_isub hx hb dX7_readLines_68 ?_
          refine W.widen (k := 0) (n := 0) (Nat.le_of_ble_eq_true rfl) (Nat.le_of_ble_eq_true rfl) ?_
          exact W.iret (v := ((-1) - (nI ((rdN f len d0 i).1)))) hx hb hr (fun t ht hW => ⟨⟨((-1) - (nI ((rdN f len d0 i).1))), wl Ls ad G1, rfl, ⟨i, hi, hall, Or.inr ⟨hnr, Or.inl h60, rfl, G1, _, (rdN f len d0 i), rfl, hTx1, hC1, hfr1⟩⟩, by rw [ht]; exact hP, hD⟩, hS.F ht⟩) hS.2.2 dX7_readLines_69
        · have hrd : len ≤ (rdN f len d0 i).1 := Decidable.byContradiction fun h => c_52 (by rw [hr_49, if_neg h])
          refine lv_bipush (v := 60) hx hb dX7_readLines_55 (by decide) ?_
          refine lv_goto (tgt := 69) hx hb dX7_readLines_57 (by decide) ?_
          refine W.widen (k := 0) (n := 0) (Nat.le_of_ble_eq_true rfl) (Nat.le_of_ble_eq_true rfl) ?_
          exact W.iret (v := 60) hx hb hr (fun t ht hW => ⟨⟨60, wl Ls ad G1, rfl, ⟨i, hi, hall, Or.inl ⟨hrd, by rw [h60]; rfl, G1, rfl, hTx1, hC1, hfr1⟩⟩, by rw [ht]; exact hP, hD⟩, hS.F ht⟩) hS.2.2 dX7_readLines_69
      · have hlt : i < 60 := Nat.lt_of_not_le fun h => c_5 (nI_le h (by omega))
        refine lv_aload_n hx hb dX7_readLines_8 rfl (lv_at hl 0 rfl) ?_
        refine pv_get (ci := 9) (C := RX7) (T := TX7) (N := 7) hx hb hts hinX7 hown hK hP hX0 eX0 rfl 0 (by decide) (hts (.fieldLink RX7 10 "StorageCharge" "text" "LStorageCharge$Text;") (by decide +kernel)) (fun _ h9 => h9) rfl dX7_readLines_9 ?_
        refine vp_callSi (va_Run.run (va_runV (As := []) (rest := []) ⟨hx, hb, hml, hown, hts⟩ (c_X5_isRead l D y Ls ad G1 f len (rdN f len d0 i).1 hTx1) (cwV 0 hts gX7_readLines_X5_isRead rfl rfl rfl (by decide +kernel) ⟨Nat.le_of_ble_eq_true rfl, Nat.le_of_ble_eq_true rfl⟩) ⟨Wd_blind, Wd_recv hK hP (ci := 7) rfl ht1 et1, Wd_at hP hK hN⟩ rfl rfl hl.1 rfl (lv_room (Nat.le_of_ble_eq_true rfl)) dX7_readLines_12 ⟨(Nat.le_of_ble_eq_true rfl), (Nat.le_of_ble_eq_true rfl)⟩)) (fun r_12 hr_12 => ?_)
        refine lv_if_eq (tgt := 20) hx hb dX7_readLines_15 (by decide) (fun c_15 => ?_) (fun c_15 => ?_)
        · have hnr : (rdN f len d0 i).1 < len := Nat.lt_of_not_le fun h => by
            rw [hr_12, if_pos h] at c_15
            exact absurd c_15 (by decide)
          refine lv_aload_n hx hb dX7_readLines_20 rfl (lv_at hl 0 rfl) ?_
          refine pv_get (ci := 9) (C := RX7) (T := TX7) (N := 7) hx hb hts hinX7 hown hK hP hX0 eX0 rfl 0 (by decide) (hts (.fieldLink RX7 10 "StorageCharge" "text" "LStorageCharge$Text;") (by decide +kernel)) (fun _ h9 => h9) rfl dX7_readLines_21 ?_
          refine pv_getN (ci := 7) (C := RX5) (T := TX5) (N := 3) hx hb hts hinX5 hown hK hP ht1 et1 rfl 2 (by decide) hN (by decide +kernel : Cond.fieldLinkNest RX7 264 "StorageCharge$Text" "place" "I" "StorageCharge" ∈ nestW) (fun _ h9 => h9) rfl dX7_readLines_24 ?_
          refine lv_istore_n (lv' := [(2, .int (nI ((rdN f len d0 i).1))), (0, .ref (ad 0)), (1, .int (nI i))]) hx hb dX7_readLines_27 rfl hl (by decide) rfl (fun ls hl => ?_)
          refine lv_aload_n hx hb dX7_readLines_28 rfl (lv_at hl 1 rfl) ?_
          refine va_calli (va_runV (As := []) (rest := []) ⟨hx, hb, hml, hown, hts⟩ (c_X7_readLine l hl0 D y b0 Ls ad G1 ch dr ⟨hX0, eX0⟩ f len (rdN f len d0 i).1 hTx1 (rdN f len d0 i).2.1 (rdN f len d0 i).2.2.1 (rdN f len d0 i).2.2.2.1 (rdN f len d0 i).2.2.2.2.1 (rdN f len d0 i).2.2.2.2.2.1 (rdN f len d0 i).2.2.2.2.2.2.1 (rdN f len d0 i).2.2.2.2.2.2.2.1 (rdN f len d0 i).2.2.2.2.2.2.2.2.1 (rdN f len d0 i).2.2.2.2.2.2.2.2.2 hC1 hdr) (cwV 0 hts gX7_readLines_X7_readLine rfl rfl rfl (by decide +kernel) ⟨(Nat.le_of_ble_eq_true rfl), (Nat.le_of_ble_eq_true rfl)⟩) ⟨WdM_blind, Wd_recv hK hP (ci := 9) rfl hX0 eX0, WdM_at hP hK hN hD hS hb0 hT⟩ rfl rfl hl.1 rfl (lv_room (Nat.le_of_ble_eq_true rfl)) dX7_readLines_29 ⟨(Nat.le_of_ble_eq_true rfl), (Nat.le_of_ble_eq_true rfl)⟩) hS (fun _ _ h => h) (fun _ h => h) (fun r_29 u29 t H locs ht hvm hw29 hB hz1 hk1 hS => ?_)
          obtain ⟨hP, hD⟩ := hB
          rw [ht] at hP
          rcases hw29 with ⟨rfl, hok0, g2, rfl, hTx2, hC2, hfr2⟩ | ⟨rfl, hbad, g2, p2, rfl, hTx2, hC2, hfr2⟩
          · have hok : lOK f len (rdN f len d0 i) := hok0
            refine lv_if_ne (tgt := 39) hx hb dX7_readLines_32 (by decide) (fun c_32 => ?_) (fun c_32 => ?_)
            · refine lv_iinc (v := nI (i + 1)) (lv' := [(1, .int (nI (i + 1))), (2, .int (nI ((rdN f len d0 i).1))), (0, .ref (ad 0))]) hx hb dX7_readLines_39 hl (k := 2) rfl (nI_1 i) (by decide) rfl (fun ls hl => ?_)
              refine lv_goto (tgt := 2) hx hb dX7_readLines_42 (by decide) ?_
              exact ih2 (i + 1) g2 (by omega) (by omega) (lt_s hall ⟨hnr, hok⟩) hTx2 hC2 (fun j h1 h2 h3 => (hfr2 j h1 h2 h3).trans (hfr1 j h1 h2 h3)) _ _ hP hD hS ls (lv_sub hl [2, 0] rfl)
            · exact absurd c_32 (by decide)
          · refine lv_if_ne (tgt := 39) hx hb dX7_readLines_32 (by decide) (fun c_32 => ?_) (fun c_32 => ?_)
            · exact absurd rfl c_32
            · refine lv_iconst (v := (-1)) hx hb dX7_readLines_35 (by decide) ?_
              refine lv_iload_n hx hb dX7_readLines_36 rfl (lv_at hl 0 rfl) ?_
              refine lv_isub hx hb dX7_readLines_37 ?_
              refine W.widen (k := 0) (n := 0) (Nat.le_of_ble_eq_true rfl) (Nat.le_of_ble_eq_true rfl) ?_
              exact W.iret (v := ((-1) - (nI ((rdN f len d0 i).1)))) hx hb hr (fun t ht hW => ⟨⟨((-1) - (nI ((rdN f len d0 i).1))), wl Ls ad g2, rfl, ⟨i, hi, hall, Or.inr ⟨hnr, Or.inr hbad, rfl, g2, p2, (rdN f len d0 i), rfl, hTx2, hC2, fun j h1 h2 h3 => (hfr2 j h1 h2 h3).trans (hfr1 j h1 h2 h3)⟩⟩, by rw [ht]; exact hP, hD⟩, hS.F ht⟩) hS.2.2 dX7_readLines_38
        · have hrd : len ≤ (rdN f len d0 i).1 := Decidable.byContradiction fun h => c_15 (by rw [hr_12, if_neg h])
          refine lv_iload_n hx hb dX7_readLines_18 rfl (lv_at hl 1 rfl) ?_
          refine W.widen (k := 0) (n := 0) (Nat.le_of_ble_eq_true rfl) (Nat.le_of_ble_eq_true rfl) ?_
          exact W.iret (v := nI i) hx hb hr (fun t ht hW => ⟨⟨nI i, wl Ls ad G1, rfl, ⟨i, hi, hall, Or.inl ⟨hrd, rfl, G1, rfl, hTx1, hC1, hfr1⟩⟩, by rw [ht]; exact hP, hD⟩, hS.F ht⟩) hS.2.2 dX7_readLines_19
  have hl := lv_entry ([.ref (ad 0)]) (n := 3) (Nat.le_of_ble_eq_true rfl)
  rw [lg_entry_eq]
  generalize (lg_sl ([.ref (ad 0)]) ++ List.replicate (3 - (lg_sl ([.ref (ad 0)])).length) Slot.unset).toArray = ls at hl ⊢
  have hl : lv_has ls 3 [(0, .ref (ad 0))] := hl
  refine lv_iconst (v := 0) hx hb dX7_readLines_0 (by decide) ?_
  refine lv_istore_n (lv' := [(1, .int 0), (0, .ref (ad 0))]) hx hb dX7_readLines_1 rfl hl (by decide) rfl (fun ls hl => ?_)
  exact loop2 61 0 G (by decide) (by decide) (fun q h => absurd h (Nat.not_lt_zero q)) hTx hC (fun j _ _ _ => rfl) _ _ hP hD hS ls (lv_sub hl [1, 0] rfl)

set_option maxHeartbeats 4000000 in
set_option maxRecDepth 100000 in
/-- read -/
theorem c_X7_read (l : Launch) (hl0 : l.stackTraces = false) (D : va_G) (y : Nat → ClassId) (b0 : Nat) (Ls : List Nat) (ad : Nat → Nat) (G : Nat → va_E) (ch dr : Nat) (hX : XAt Ls ad G ch dr) (f : Nat → Int32) (len pl : Nat) (hTx : TextAt y Ls ad G f len pl) (st ha mi dO dD dP : Nat → Int32) (nd : Nat) (li ow : Int32) (hC : ChargesAt y Ls ad G dr st ha mi dO dD dP nd li ow) (hdr : 2 < dr) : Met l yX7_read wsX7_read ({ frames := 6, cells := 0, slots := 0, locals := 140 }) (va_Pc [.ref (ad 0)] (WdM D y b0 (wl Ls ad G))) (va_Qi (fun (r : Int32) (u : va_W) => ∃ st2 ha2 mi2, ((∀ i, i < 40 → st2 i = -1) ∧ (∀ i, i < 40 → ha2 i = -1) ∧ (∀ i, i < 8 → mi2 i = -1)) ∧ ∃ i, i ≤ 60 ∧ (∀ q, q < i → (rdN f len (pl, st2, ha2, mi2, dO, dD, dP, 0, 0, 0) q).1 < len ∧ lOK f len (rdN f len (pl, st2, ha2, mi2, dO, dD, dP, 0, 0, 0) q)) ∧ ((len ≤ (rdN f len (pl, st2, ha2, mi2, dO, dD, dP, 0, 0, 0) i).1 ∧ r = nI i ∧ ∃ G2, u = wl Ls ad G2 ∧ XAt Ls ad G2 dr ch ∧ TextAt y Ls ad G2 f 0 0 ∧ CDS y Ls ad G2 dr (rdN f len (pl, st2, ha2, mi2, dO, dD, dP, 0, 0, 0) i) ∧ (∀ j, j ≠ 0 → j ≠ 1 → j ≠ 2 → (j < dr ∨ dr + 6 < j) → G2 j = G j)) ∨ ((rdN f len (pl, st2, ha2, mi2, dO, dD, dP, 0, 0, 0) i).1 < len ∧ (i = 60 ∨ ¬ lOK f len (rdN f len (pl, st2, ha2, mi2, dO, dD, dP, 0, 0, 0) i)) ∧ r = -1 - nI (rdN f len (pl, st2, ha2, mi2, dO, dD, dP, 0, 0, 0) i).1 ∧ ∃ G2 d2, u = wl Ls ad G2 ∧ XAt Ls ad G2 ch dr ∧ TextAt y Ls ad G2 f 0 0 ∧ CDS y Ls ad G2 dr d2 ∧ (∀ j, j ≠ 0 → j ≠ 1 → j ≠ 2 → (j < dr ∨ dr + 6 < j) → G2 j = G j)))) (WB D b0) (fun q => b0 ≤ q)) 0 0 (fun q => b0 ≤ q) := by
  refine Met.ofW (cc := cX7_read) (maxL := 3) (ret := (some .int)) (by decide) rfl ?_
  intro p e s m args below meth c s₁ B hml hv
  obtain ⟨rfl, ⟨hP, hK, hN⟩, hD, hb0, hT⟩ := hv
  have hx := B.exec
  have hb := B.bytes
  have hr := B.returns
  have hts := atoms_spec (ws := wsX7_read) B.pre
  have hown : s.vm.findClass RX7 = some m.cls := findClass_of_methodNamed B.named
  have hlocks := B.notSynchronized
  have hS : va_S (fun q => b0 ≤ q) s.heap s.heap [] := va_S.rf
  have hinX7 : ∀ w ∈ wsX70, w ∈ wsX7_read := by decide +kernel
  obtain ⟨hX0, eX0⟩ := id hX
  obtain ⟨ht1, ht2, et1, et2, hlen, hpl, hne⟩ := id hTx
  obtain ⟨⟨hc0, -⟩, ec0, -⟩ := id hC
  have hl := lv_entry ([.ref (ad 0)]) (n := 3) (Nat.le_of_ble_eq_true rfl)
  rw [lg_entry_eq]
  generalize (lg_sl ([.ref (ad 0)]) ++ List.replicate (3 - (lg_sl ([.ref (ad 0)])).length) Slot.unset).toArray = ls at hl ⊢
  have hl : lv_has ls 3 [(0, .ref (ad 0))] := hl
  refine lv_aload_n hx hb dX7_read_0 rfl (lv_at hl 0 rfl) ?_
  refine pv_get (ci := 9) (C := RX7) (T := TX7) (N := 7) hx hb hts hinX7 hown hK hP hX0 eX0 rfl 2 (by decide) (hts (.fieldLink RX7 23 "StorageCharge" "draft" "LStorageCharge$Charges;") (by decide +kernel)) (fun _ h9 => h9) rfl dX7_read_1 ?_
  refine va_callv (va_runVN (As := []) (rest := []) ⟨hx, hb, hml, hown, hts⟩ (c_X2_clear l hl0 D y b0 Ls ad G dr st ha mi dO dD dP nd li ow hC) ⟨va_cnB 0 hts gX7_read_X2_clear_n78 rfl rfl rfl (hN (.methodLinkNest RX7 78 yX2_clear "StorageCharge") (by decide +kernel)) (hts (.initialized RX2) (by decide +kernel)) (by decide +kernel) ⟨(Nat.le_of_ble_eq_true rfl), (Nat.le_of_ble_eq_true rfl)⟩, hts (.instanceMethod yX2_clear) (by decide +kernel), hts (.selects RX2 yX2_clear yX2_clear) (by decide +kernel)⟩ ⟨WdM_blind, Wd_recv hK hP (ci := 4) rfl hc0 ec0, WdM_at hP hK hN hD hS hb0 hT⟩ rfl rfl hl.1 rfl (lv_room (Nat.le_of_ble_eq_true rfl)) dX7_read_4 ⟨(Nat.le_of_ble_eq_true rfl), (Nat.le_of_ble_eq_true rfl)⟩) hS (fun _ _ h => h) (fun _ h => h) (fun u4 t H locs ht hvm hw4 hB hz1 hk1 hS => ?_)
  obtain ⟨hP, hD⟩ := hB
  rw [ht] at hP
  obtain ⟨g4, st2, ha2, mi2, rfl, hC4, hcl, hfr4⟩ := hw4
  have eX0 := (hfr4 0 (by omega)).trans eX0
  have hTx4 := TextAt_fr (hfr4 1 (by omega)) (hfr4 2 (by omega)) hTx
  refine lv_aload_n hx hb dX7_read_7 rfl (lv_at hl 0 rfl) ?_
  refine va_calli (va_runV (As := []) (rest := []) ⟨hx, hb, hml, hown, hts⟩ (c_X7_readLines l hl0 D y b0 Ls ad g4 ch dr ⟨hX0, eX0⟩ f len (pl, st2, ha2, mi2, dO, dD, dP, 0, 0, 0) hTx4 hC4 hdr) (cwV 0 hts gX7_read_X7_readLines rfl rfl rfl (by decide +kernel) ⟨(Nat.le_of_ble_eq_true rfl), (Nat.le_of_ble_eq_true rfl)⟩) ⟨WdM_blind, Wd_recv hK hP (ci := 9) rfl hX0 eX0, WdM_at hP hK hN hD hS hb0 hT⟩ rfl rfl hl.1 rfl (lv_room (Nat.le_of_ble_eq_true rfl)) dX7_read_8 ⟨(Nat.le_of_ble_eq_true rfl), (Nat.le_of_ble_eq_true rfl)⟩) hS (fun _ _ h => h) (fun _ h => h) (fun r_8 u8 t H locs ht hvm hw8 hB hz1 hk1 hS => ?_)
  obtain ⟨hP, hD⟩ := hB
  rw [ht] at hP
  rcases hw8 with ⟨i, hi, hall, ⟨hread, rfl, g8, rfl, hTx8, hC8, hfr8⟩ | ⟨hnr, hbad, rfl, g8, p2, d2, rfl, hTx8, hC8, hfr8⟩⟩
  · have eX0 := (hfr8 0 (by decide) (by decide) (by omega)).trans eX0
    refine lv_istore_n (lv' := [(1, .int (nI i)), (0, .ref (ad 0))]) hx hb dX7_read_11 rfl hl (by decide) rfl (fun ls hl => ?_)
    refine lv_iload_n hx hb dX7_read_12 rfl (lv_at hl 0 rfl) ?_
    refine lv_if_lt (tgt := 34) hx hb dX7_read_13 (by decide) (fun c_13 => ?_) (fun c_13 => ?_)
    · exact absurd c_13 (nI_pos (by omega))
    · refine lv_aload_n hx hb dX7_read_16 rfl (lv_at hl 1 rfl) ?_
      refine pv_get (ci := 9) (C := RX7) (T := TX7) (N := 7) hx hb hts hinX7 hown hK hP hX0 eX0 rfl 1 (by decide) (hts (.fieldLink RX7 19 "StorageCharge" "charges" "LStorageCharge$Charges;") (by decide +kernel)) (fun _ h9 => h9) rfl dX7_read_17 ?_
      refine lv_astore_n (lv' := [(2, .ref (ad ch)), (1, .int (nI i)), (0, .ref (ad 0))]) hx hb dX7_read_20 rfl hl (by decide) rfl (fun ls hl => ?_)
      refine lv_aload_n hx hb dX7_read_21 rfl (lv_at hl 2 rfl) ?_
      refine lv_aload_n hx hb dX7_read_22 rfl (lv_at hl 2 rfl) ?_
      refine pv_get (ci := 9) (C := RX7) (T := TX7) (N := 7) hx hb hts hinX7 hown hK hP hX0 eX0 rfl 2 (by decide) (hts (.fieldLink RX7 23 "StorageCharge" "draft" "LStorageCharge$Charges;") (by decide +kernel)) (fun _ h9 => h9) rfl dX7_read_23 ?_
      refine pv_put (ci := 9) (v := .ref (ad dr)) (ty := .object "StorageCharge$Charges") (C := RX7) (T := TX7) (N := 7) hx hb hts hinX7 tyX7 tyX7_ok nmX7 hown hK hP hD hS hX0 eX0 rfl 1 (by decide) (hts (.fieldLink RX7 19 "StorageCharge" "charges" "LStorageCharge$Charges;") (by decide +kernel)) (fun _ h9 => h9) rfl (by decide +kernel) rfl rfl (Nat.le_of_ble_eq_true rfl) dX7_read_26 (fun H locs hP hD hS => ?_)
      obtain ⟨G_26, eG_26⟩ : ∃ gg9 : Nat → va_E, gg9 = va_up g8 0 (.inr (9, [.ref (ad 1), .ref (ad dr), .ref (ad dr), .ref (ad 3), .ref (ad 5), .ref (ad 7), .ref (ad 30)])) := ⟨_, rfl⟩
      have hP : va_P D vwCl (wl Ls ad G_26) H := by rw [eG_26]; exact hP
      have hD : va_D (fun q => b0 ≤ q) (wl Ls ad G_26) := by rw [eG_26]; exact hD
      have eX0 : G_26 0 = .inr (9, [.ref (ad 1), .ref (ad dr), .ref (ad dr), .ref (ad 3), .ref (ad 5), .ref (ad 7), .ref (ad 30)]) := by rw [eG_26]; exact va_up_self _ _ _
      refine lv_aload_n hx hb dX7_read_29 rfl (lv_at hl 2 rfl) ?_
      refine lv_aload_n hx hb dX7_read_30 rfl (lv_at hl 0 rfl) ?_
      refine pv_put (ci := 9) (v := .ref (ad ch)) (ty := .object "StorageCharge$Charges") (C := RX7) (T := TX7) (N := 7) hx hb hts hinX7 tyX7 tyX7_ok nmX7 hown hK hP hD hS hX0 eX0 rfl 2 (by decide) (hts (.fieldLink RX7 23 "StorageCharge" "draft" "LStorageCharge$Charges;") (by decide +kernel)) (fun _ h9 => h9) rfl (by decide +kernel) rfl rfl (Nat.le_of_ble_eq_true rfl) dX7_read_31 (fun H locs hP hD hS => ?_)
      obtain ⟨G_31, eG_31⟩ : ∃ gg9 : Nat → va_E, gg9 = va_up G_26 0 (.inr (9, [.ref (ad 1), .ref (ad dr), .ref (ad ch), .ref (ad 3), .ref (ad 5), .ref (ad 7), .ref (ad 30)])) := ⟨_, rfl⟩
      have hP : va_P D vwCl (wl Ls ad G_31) H := by rw [eG_31]; exact hP
      have hD : va_D (fun q => b0 ≤ q) (wl Ls ad G_31) := by rw [eG_31]; exact hD
      have eX0 : G_31 0 = .inr (9, [.ref (ad 1), .ref (ad dr), .ref (ad ch), .ref (ad 3), .ref (ad 5), .ref (ad 7), .ref (ad 30)]) := by rw [eG_31]; exact va_up_self _ _ _
      have hTxN : TextAt y Ls ad G_31 f len _ := TextAt_fr (by rw [eG_31, va_up_ne _ _ (by decide), eG_26, va_up_ne _ _ (by decide)]) (by rw [eG_31, va_up_ne _ _ (by decide), eG_26, va_up_ne _ _ (by decide)]) hTx8
      obtain ⟨ht1, ht2, et1, et2, -⟩ := id hTxN
      refine lv_aload_n hx hb dX7_read_34 rfl (lv_at hl 2 rfl) ?_
      refine pv_get (ci := 9) (C := RX7) (T := TX7) (N := 7) hx hb hts hinX7 hown hK hP hX0 eX0 rfl 0 (by decide) (hts (.fieldLink RX7 10 "StorageCharge" "text" "LStorageCharge$Text;") (by decide +kernel)) (fun _ h9 => h9) rfl dX7_read_35 ?_
      refine va_callv (va_runV (As := []) (rest := []) ⟨hx, hb, hml, hown, hts⟩ (c_X5_clear l hl0 D y b0 Ls ad G_31 f len _ hTxN) (cwV 0 hts gX7_read_X5_clear rfl rfl rfl (by decide +kernel) ⟨(Nat.le_of_ble_eq_true rfl), (Nat.le_of_ble_eq_true rfl)⟩) ⟨WdM_blind, Wd_recv hK hP (ci := 7) rfl ht1 et1, WdM_at hP hK hN hD hS hb0 hT⟩ rfl rfl hl.1 rfl (lv_room (Nat.le_of_ble_eq_true rfl)) dX7_read_38 ⟨(Nat.le_of_ble_eq_true rfl), (Nat.le_of_ble_eq_true rfl)⟩) hS (fun _ _ h => h) (fun _ h => h) (fun u38 t H locs ht hvm hw38 hB hz1 hk1 hS => ?_)
      obtain ⟨hP, hD⟩ := hB
      rw [ht] at hP
      obtain ⟨g38, rfl, hTx9, hfr9⟩ := hw38
      refine lv_iload_n hx hb dX7_read_41 rfl (lv_at hl 1 rfl) ?_
      refine W.widen (k := 0) (n := 0) (Nat.le_of_ble_eq_true rfl) (Nat.le_of_ble_eq_true rfl) ?_
      exact W.iret (v := nI i) hx hb hr (fun t ht hW => ⟨⟨nI i, wl Ls ad g38, rfl, ⟨st2, ha2, mi2, hcl, i, hi, hall, Or.inl ⟨hread, rfl, g38, rfl, ⟨hX0, (hfr9 0 (by decide) (by decide)).trans eX0⟩, hTx9, ChargesAt_fr (fun j h1 h2 => (hfr9 j (by omega) (by omega)).trans (by rw [eG_31, va_up_ne _ _ (by omega), eG_26, va_up_ne _ _ (by omega)])) hC8, (fun j h0 h1 h2 h3 => (hfr9 j h1 h2).trans ((by rw [eG_31, va_up_ne _ _ h0, eG_26, va_up_ne _ _ h0] : G_31 j = g8 j).trans ((hfr8 j h1 h2 h3).trans (hfr4 j h3))))⟩⟩, by rw [ht]; exact hP, hD⟩, hS.F ht⟩) hS.2.2 dX7_read_42
  · have eX0 := (hfr8 0 (by decide) (by decide) (by omega)).trans eX0
    refine lv_topi (fun x_11 ex_11 => ?_)
    refine lv_istore_n (lv' := [(1, .int x_11), (0, .ref (ad 0))]) hx hb dX7_read_11 rfl hl (by decide) rfl (fun ls hl => ?_)
    refine lv_iload_n hx hb dX7_read_12 rfl (lv_at hl 0 rfl) ?_
    refine lv_if_lt (tgt := 34) hx hb dX7_read_13 (by decide) (fun c_13 => ?_) (fun c_13 => ?_)
    · have hTxN := hTx8
      obtain ⟨ht1, ht2, et1, et2, -⟩ := id hTxN
      refine lv_aload_n hx hb dX7_read_34 rfl (lv_at hl 1 rfl) ?_
      refine pv_get (ci := 9) (C := RX7) (T := TX7) (N := 7) hx hb hts hinX7 hown hK hP hX0 eX0 rfl 0 (by decide) (hts (.fieldLink RX7 10 "StorageCharge" "text" "LStorageCharge$Text;") (by decide +kernel)) (fun _ h9 => h9) rfl dX7_read_35 ?_
      refine va_callv (va_runV (As := []) (rest := []) ⟨hx, hb, hml, hown, hts⟩ (c_X5_clear l hl0 D y b0 Ls ad g8 f len _ hTxN) (cwV 0 hts gX7_read_X5_clear rfl rfl rfl (by decide +kernel) ⟨(Nat.le_of_ble_eq_true rfl), (Nat.le_of_ble_eq_true rfl)⟩) ⟨WdM_blind, Wd_recv hK hP (ci := 7) rfl ht1 et1, WdM_at hP hK hN hD hS hb0 hT⟩ rfl rfl hl.1 rfl (lv_room (Nat.le_of_ble_eq_true rfl)) dX7_read_38 ⟨(Nat.le_of_ble_eq_true rfl), (Nat.le_of_ble_eq_true rfl)⟩) hS (fun _ _ h => h) (fun _ h => h) (fun u38 t H locs ht hvm hw38 hB hz1 hk1 hS => ?_)
      obtain ⟨hP, hD⟩ := hB
      rw [ht] at hP
      obtain ⟨g38, rfl, hTx9, hfr9⟩ := hw38
      refine lv_iload_n hx hb dX7_read_41 rfl (lv_at hl 0 rfl) ?_
      refine W.widen (k := 0) (n := 0) (Nat.le_of_ble_eq_true rfl) (Nat.le_of_ble_eq_true rfl) ?_
      exact W.iret (v := x_11) hx hb hr (fun t ht hW => ⟨⟨x_11, wl Ls ad g38, rfl, ⟨st2, ha2, mi2, hcl, i, hi, hall, Or.inr ⟨hnr, hbad, ex_11, g38, d2, rfl, ⟨hX0, (hfr9 0 (by decide) (by decide)).trans eX0⟩, hTx9, ChargesAt_fr (fun j h1 h2 => hfr9 j (by omega) (by omega)) hC8, (fun j h0 h1 h2 h3 => (hfr9 j h1 h2).trans (((hfr8 j h1 h2 h3).trans (hfr4 j h3))))⟩⟩, by rw [ht]; exact hP, hD⟩, hS.F ht⟩) hS.2.2 dX7_read_42
    · exact absurd (by rw [ex_11]; exact neg1 (by have := hTx.2.2.2.2.1; omega)) c_13
