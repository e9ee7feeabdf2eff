/-! sign and read -/
theorem ChargesAt_fr {y : Nat → ClassId} {Ls : List Nat} {ad : Nat → Nat} {G G2 : Nat → va_E} {c : Nat} {st ha mi dO dD dP : Nat → Int32} {nd : Nat} {li ow : Int32} (h : ∀ j, c ≤ j → j ≤ c + 6 → G2 j = G j) (hC : ChargesAt y Ls ad G c st ha mi dO dD dP nd li ow) : ChargesAt y Ls ad G2 c st ha mi dO dD dP nd li ow := by
  obtain ⟨hm, e0, e1, e2, e3, e4, e5, e6, hnd⟩ := hC
  exact ⟨hm, (h c (by omega) (by omega)).trans e0, (h (c + 1) (by omega) (by omega)).trans e1, (h (c + 2) (by omega) (by omega)).trans e2, (h (c + 3) (by omega) (by omega)).trans e3, (h (c + 4) (by omega) (by omega)).trans e4, (h (c + 5) (by omega) (by omega)).trans e5, (h (c + 6) (by omega) (by omega)).trans e6, hnd⟩
theorem TextAt_fr {y : Nat → ClassId} {Ls : List Nat} {ad : Nat → Nat} {G G2 : Nat → va_E} {f : Nat → Int32} {len pl : Nat} (h1 : G2 1 = G 1) (h2 : G2 2 = G 2) (hT : TextAt y Ls ad G f len pl) : TextAt y Ls ad G2 f len pl := by
  obtain ⟨a, b, e1, e2, hr⟩ := hT
  exact ⟨a, b, h1.trans e1, h2.trans e2, hr⟩
theorem ch16_in {c : Int32} (h : inR c 255) : ch16 c = c := by
  obtain ⟨v, hv, rfl⟩ := within_nI (n := 256) (by decide) (by decide) h
  rw [ch16, pk_vc, pk_char, pk_tn (by omega), Nat.mod_eq_of_lt (by omega)]
theorem inR_ne {c hi : Int32} (h : inR c hi) : ¬ c = -1 := fun e => by
  rw [e] at h
  exact absurd h.1 (by decide)
def rlO (f : Nat → Int32) (len pl : Nat) : Int32 := tkV f len (nxp len pl)
def rlA (f : Nat → Int32) (len pl : Nat) : Nat := tkP f len (nxp len pl)
def rlS (f : Nat → Int32) (len pl : Nat) : Int32 := tkV f len (rlA f len pl)
def rlB (f : Nat → Int32) (len pl : Nat) : Nat := tkP f len (rlA f len pl)
def rlT (f : Nat → Int32) (len pl : Nat) : Int32 := if nx f len pl = 77 then -1 else tkV f len (rlB f len pl)
def rlC (f : Nat → Int32) (len pl : Nat) : Nat := if nx f len pl = 77 then rlB f len pl else tkP f len (rlB f len pl)
def rlOK (f : Nat → Int32) (len pl : Nat) (st ha mi dO dD : Nat → Int32) (nd : Nat) : Prop := nx f len (rlC f len pl) = 10 ∧ inR (rlO f len pl) 7 ∧ cOK (nx f len pl) (rlO f len pl) (rlS f len pl) (rlT f len pl) st ha mi dO dD nd

set_option maxHeartbeats 4000000 in
set_option maxRecDepth 100000 in
/-- sign -/
theorem c_X7_sign (l : Launch) (hl0 : l.stackTraces = false) (D : va_G) (y : Nat → ClassId) (b0 : Nat) (Ls : List Nat) (ad : Nat → Nat) (G : Nat → va_E) (ch dr : Nat) (hX : XAt Ls ad G ch dr) (f : Nat → Int32) (len pl : Nat) (hTx : TextAt y Ls ad G f len pl) (c0 : Int32) : vx_Met l yX7_sign wsX7_sign ({ frames := 6, cells := 1, slots := 6, locals := 82 }) (va_Pc [.ref (ad 0), .int c0] (WdM D y b0 (wl Ls ad G))) (va_Qi (fun (r : Int32) (u : va_W) => inR c0 255 ∧ len < 400 ∧ r = nI (len + 1) ∧ ∃ G2, u = wl Ls ad G2 ∧ TextAt y Ls ad G2 (upd f len c0) (len + 1) pl ∧ ∀ j, j ≠ 1 → j ≠ 2 → G2 j = G j) (WB D b0) (fun q => b0 ≤ q)) (XX D b0 (wl Ls ad G) (fun k => (k = 0 ∧ ¬ inR c0 255) ∨ (k = 1 ∧ inR c0 255 ∧ len = 400))) 1 6 (fun q => b0 ≤ q) := by
  refine vx_ofW (cc := cX7_sign) (maxL := 2) (ret := (some .int)) (by decide) rfl ?_
  intro p e s m args below meth c s₁ B hml hno hv
  obtain ⟨rfl, ⟨hP, hK, hN⟩, hD, hb0, hT⟩ := hv
  have hx := B.exec
  have hb := B.bytes
  have hr := B.returns
  have hts := atoms_spec (ws := wsX7_sign) B.pre
  have hown : s.vm.findClass RX7 = some m.cls := findClass_of_methodNamed B.named
  have hlocks := B.notSynchronized
  have hS : va_S (fun q => b0 ≤ q) s.heap s.heap [] := va_S.rf
  have hinX5 : ∀ w ∈ wsX50, w ∈ wsX7_sign := by decide +kernel
  have hinX7 : ∀ w ∈ wsX70, w ∈ wsX7_sign := by decide +kernel
  obtain ⟨hX0, eX0⟩ := id hX
  obtain ⟨ht1, ht2, et1, et2, hlen, hpl, hne⟩ := id hTx
  have hl := lv_entry ([.ref (ad 0), .int c0]) (n := 2) (Nat.le_of_ble_eq_true rfl)
  rw [lg_entry_eq]
  generalize (lg_sl ([.ref (ad 0), .int c0]) ++ List.replicate (2 - (lg_sl ([.ref (ad 0), .int c0])).length) Slot.unset).toArray = ls at hl ⊢
  have hl : lv_has ls 2 [(0, .ref (ad 0)), (1, .int c0)] := hl
  refine lv_iload_n hx hb dX7_sign_0 rfl (lv_at hl 1 rfl) ?_
  refine lv_iconst (v := 0) hx hb dX7_sign_1 (by decide) ?_
  refine lv_sipush (v := 255) hx hb dX7_sign_2 (by decide) ?_
  refine vp_callSi (va_Run.run (va_runS (As := [.int c0, .int 0, .int 255]) (rest := []) ⟨hx, hb, hml, hown, hts⟩ (c_X7_isWithin l c0 0 255) (va_cwS 3 hts gX7_sign_X7_isWithin rfl rfl rfl (by decide +kernel) ⟨Nat.le_of_ble_eq_true rfl, Nat.le_of_ble_eq_true rfl⟩) ⟨fun _ _ _ _ q => q, fun U hU hW => ⟨rfl, trivial⟩⟩ rfl rfl hl.1 rfl (lv_room (Nat.le_of_ble_eq_true rfl)) dX7_sign_5 ⟨(Nat.le_of_ble_eq_true rfl), (Nat.le_of_ble_eq_true rfl)⟩)) (fun r_5 hr_5 => ?_)
  refine lv_if_ne (tgt := 21) hx hb dX7_sign_8 (by decide) (fun c_8 => ?_) (fun c_8 => ?_)
  · have hwc : inR c0 255 := Decidable.byContradiction fun h => c_8 (by rw [hr_5]; exact wI_eq0.mpr h)
    refine lv_aload_n hx hb dX7_sign_21 rfl (lv_at hl 0 rfl) ?_
    refine pv_get (ci := 9) (C := RX7) (T := TX7) (N := 7) hx hb hts hinX7 hown hK hP hX0 eX0 rfl 0 (by decide) (hts (.fieldLink RX7 10 "StorageCharge" "text" "LStorageCharge$Text;") (by decide +kernel)) (fun _ h9 => h9) rfl dX7_sign_22 ?_
    refine vp_callSi (va_Run.run (va_runV (As := []) (rest := []) ⟨hx, hb, hml, hown, hts⟩ (c_X5_isFull l D y Ls ad G f len pl hTx) (cwV 0 hts gX7_sign_X5_isFull rfl rfl rfl (by decide +kernel) ⟨Nat.le_of_ble_eq_true rfl, Nat.le_of_ble_eq_true rfl⟩) ⟨Wd_blind, Wd_recv hK hP (ci := 7) rfl ht1 et1, Wd_at hP hK hN⟩ rfl rfl hl.1 rfl (lv_room (Nat.le_of_ble_eq_true rfl)) dX7_sign_25 ⟨(Nat.le_of_ble_eq_true rfl), (Nat.le_of_ble_eq_true rfl)⟩)) (fun r_25 hr_25 => ?_)
    refine lv_if_eq (tgt := 41) hx hb dX7_sign_28 (by decide) (fun c_28 => ?_) (fun c_28 => ?_)
    · have hroom : len < 400 := Nat.lt_of_not_le fun h => by
        rw [hr_25, if_pos h] at c_28
        exact absurd c_28 (by decide)
      refine lv_aload_n hx hb dX7_sign_41 rfl (lv_at hl 0 rfl) ?_
      refine pv_get (ci := 9) (C := RX7) (T := TX7) (N := 7) hx hb hts hinX7 hown hK hP hX0 eX0 rfl 0 (by decide) (hts (.fieldLink RX7 10 "StorageCharge" "text" "LStorageCharge$Text;") (by decide +kernel)) (fun _ h9 => h9) rfl dX7_sign_42 ?_
      refine lv_iload_n hx hb dX7_sign_45 rfl (lv_at hl 1 rfl) ?_
      refine va_callv (va_runV (As := [.int c0]) (rest := []) ⟨hx, hb, hml, hown, hts⟩ (c_X5_add l hl0 D y b0 Ls ad G f len pl hTx c0 hroom (by rw [ch16_in hwc]; exact inR_ne hwc)) (cwV 1 hts gX7_sign_X5_add rfl rfl rfl (by decide +kernel) ⟨(Nat.le_of_ble_eq_true rfl), (Nat.le_of_ble_eq_true rfl)⟩) ⟨WdM_blind, Wd_recv hK hP (ci := 7) rfl ht1 et1, WdM_at hP hK hN hD hS hb0 hT⟩ rfl rfl hl.1 rfl (lv_room (Nat.le_of_ble_eq_true rfl)) dX7_sign_46 ⟨(Nat.le_of_ble_eq_true rfl), (Nat.le_of_ble_eq_true rfl)⟩) hS (fun _ _ h => h) (fun _ h => h) (fun u46 t H locs ht hvm hw46 hB hz1 hk1 hS => ?_)
      obtain ⟨hP, hD⟩ := hB
      rw [ht] at hP
      obtain ⟨g46, rfl, hTx2, hfr⟩ := hw46
      obtain ⟨ht1, ht2, et1, et2, -⟩ := id hTx2
      have eX0 := (hfr 0 (by decide) (by decide)).trans eX0
      refine lv_aload_n hx hb dX7_sign_49 rfl (lv_at hl 0 rfl) ?_
      refine pv_get (ci := 9) (C := RX7) (T := TX7) (N := 7) hx hb hts hinX7 hown hK hP hX0 eX0 rfl 0 (by decide) (hts (.fieldLink RX7 10 "StorageCharge" "text" "LStorageCharge$Text;") (by decide +kernel)) (fun _ h9 => h9) rfl dX7_sign_50 ?_
      refine pv_getN (ci := 7) (C := RX5) (T := TX5) (N := 3) hx hb hts hinX5 hown hK hP ht1 et1 rfl 1 (by decide) hN (by decide +kernel : Cond.fieldLinkNest RX7 74 "StorageCharge$Text" "length" "I" "StorageCharge" ∈ nestW) (fun _ h9 => h9) rfl dX7_sign_53 ?_
      refine W.widen (k := 1) (n := 6) (Nat.le_of_ble_eq_true rfl) (Nat.le_of_ble_eq_true rfl) ?_
      exact vx_ret (W.iret (v := nI (len + 1)) hx hb hr (fun t ht hW => ⟨⟨nI (len + 1), wl Ls ad g46, rfl, ⟨hwc, hroom, rfl, g46, rfl, by rw [← ch16_in hwc]; exact hTx2, hfr⟩, by rw [ht]; exact hP, hD⟩, hS.F ht⟩) hS.2.2 dX7_sign_56)
    · have hfull : len = 400 := by
        have h8 : 400 ≤ len := Decidable.byContradiction fun h => c_28 (by rw [hr_25, if_neg h])
        omega
      exact pv_thr (text := "the text is full") hx hb hl0 1 (Or.inr ⟨rfl, hwc, hfull⟩) hts hown (by decide +kernel) (by decide +kernel) (by decide +kernel) (by decide +kernel) (by decide +kernel) thr_b1 (by decide +kernel) hT hP hS (hl.1.trans hml.symm) dX7_sign_31 dX7_sign_34 dX7_sign_35 dX7_sign_37 dX7_sign_40 hno (Nat.le_of_ble_eq_true rfl) (Nat.le_of_ble_eq_true rfl) (Nat.le_of_ble_eq_true rfl) (Nat.le_of_ble_eq_true rfl) hlocks (Nat.le_of_ble_eq_true rfl) (Nat.le_of_ble_eq_true rfl)
  · exact pv_thr (text := "no such sign") hx hb hl0 0 (Or.inl ⟨rfl, wI_eq0.mp (by rw [← hr_5]; exact c_8)⟩) hts hown (by decide +kernel) (by decide +kernel) (by decide +kernel) (by decide +kernel) (by decide +kernel) thr_b0 (by decide +kernel) hT hP hS (hl.1.trans hml.symm) dX7_sign_11 dX7_sign_14 dX7_sign_15 dX7_sign_17 dX7_sign_20 hno (Nat.le_of_ble_eq_true rfl) (Nat.le_of_ble_eq_true rfl) (Nat.le_of_ble_eq_true rfl) (Nat.le_of_ble_eq_true rfl) hlocks (Nat.le_of_ble_eq_true rfl) (Nat.le_of_ble_eq_true rfl)

set_option maxHeartbeats 4000000 in
set_option maxRecDepth 100000 in
/-- readLine -/
theorem c_X7_readLine (l : Launch) (hl0 : l.stackTraces = false) (D : va_G) (y : Nat → ClassId) (b0 : Nat) (Ls : List Nat) (ad : Nat → Nat) (G : Nat → va_E) (ch dr : Nat) (hX : XAt Ls ad G ch dr) (f : Nat → Int32) (len pl : Nat) (hTx : TextAt y Ls ad G f len pl) (st ha mi dO dD dP : Nat → Int32) (nd : Nat) (li ow : Int32) (hC : ChargesAt y Ls ad G dr st ha mi dO dD dP nd li ow) (hdr : 2 < dr) : Met l yX7_readLine wsX7_readLine ({ frames := 4, cells := 0, slots := 0, locals := 94 }) (va_Pc [.ref (ad 0)] (WdM D y b0 (wl Ls ad G))) (va_Qi (fun (r : Int32) (u : va_W) => (r = 1 ∧ rlOK f len pl st ha mi dO dD nd ∧ ∃ G2, u = wl Ls ad G2 ∧ TextAt y Ls ad G2 f len (nxp len (rlC f len pl)) ∧ ChargesAt y Ls ad G2 dr (cUp 83 (nx f len pl) st (5 * rlO f len pl + rlS f len pl).toNatClampNeg (rlT f len pl)) (cUp 72 (nx f len pl) ha (5 * rlO f len pl + rlS f len pl).toNatClampNeg (rlT f len pl)) (cUp 77 (nx f len pl) mi (rlO f len pl).toNatClampNeg (rlS f len pl)) (cUp 86 (nx f len pl) dO nd (rlO f len pl)) (cUp 86 (nx f len pl) dD nd (rlS f len pl)) (cUp 86 (nx f len pl) dP nd (rlT f len pl)) (cNd (nx f len pl) nd) (li + 1) (ow ||| ((1 : Int32) <<< (rlO f len pl &&& 31))) ∧ (∀ j, j ≠ 1 → j ≠ 2 → (j < dr ∨ dr + 6 < j) → G2 j = G j)) ∨ (r = 0 ∧ ¬ rlOK f len pl st ha mi dO dD nd ∧ ∃ G2 p2, u = wl Ls ad G2 ∧ TextAt y Ls ad G2 f len p2 ∧ ChargesAt y Ls ad G2 dr st ha mi dO dD dP nd li ow ∧ (∀ j, j ≠ 1 → j ≠ 2 → (j < dr ∨ dr + 6 < j) → G2 j = G j))) (WB D b0) (fun q => b0 ≤ q)) 0 0 (fun q => b0 ≤ q) := by
  refine Met.ofW (cc := cX7_readLine) (maxL := 5) (ret := (some .boolean)) (by decide) rfl ?_
  intro p e s m args below meth c s₁ B hml hv
  obtain ⟨rfl, ⟨hP, hK, hN⟩, hD, hb0, hT⟩ := hv
  have hx := B.exec
  have hb := B.bytes
  have hr := B.returns
  have hts := atoms_spec (ws := wsX7_readLine) B.pre
  have hown : s.vm.findClass RX7 = some m.cls := findClass_of_methodNamed B.named
  have hlocks := B.notSynchronized
  have hS : va_S (fun q => b0 ≤ q) s.heap s.heap [] := va_S.rf
  have hinX7 : ∀ w ∈ wsX70, w ∈ wsX7_readLine := by decide +kernel
  obtain ⟨hX0, eX0⟩ := id hX
  obtain ⟨ht1, ht2, et1, et2, hlen, hpl, hne⟩ := id hTx
  obtain ⟨⟨hc0, -⟩, ec0, -⟩ := id hC
  have hl := lv_entry ([.ref (ad 0)]) (n := 5) (Nat.le_of_ble_eq_true rfl)
  rw [lg_entry_eq]
  generalize (lg_sl ([.ref (ad 0)]) ++ List.replicate (5 - (lg_sl ([.ref (ad 0)])).length) Slot.unset).toArray = ls at hl ⊢
  have hl : lv_has ls 5 [(0, .ref (ad 0))] := hl
  refine lv_aload_n hx hb dX7_readLine_0 rfl (lv_at hl 0 rfl) ?_
  refine pv_get (ci := 9) (C := RX7) (T := TX7) (N := 7) hx hb hts hinX7 hown hK hP hX0 eX0 rfl 0 (by decide) (hts (.fieldLink RX7 10 "StorageCharge" "text" "LStorageCharge$Text;") (by decide +kernel)) (fun _ h9 => h9) rfl dX7_readLine_1 ?_
  refine va_calli (va_runV (As := []) (rest := []) ⟨hx, hb, hml, hown, hts⟩ (c_X5_takeSign l hl0 D y b0 Ls ad G f len pl hTx) (cwV 0 hts gX7_readLine_X5_takeSign rfl rfl rfl (by decide +kernel) ⟨(Nat.le_of_ble_eq_true rfl), (Nat.le_of_ble_eq_true rfl)⟩) ⟨WdM_blind, Wd_recv hK hP (ci := 7) rfl ht1 et1, WdM_at hP hK hN hD hS hb0 hT⟩ rfl rfl hl.1 rfl (lv_room (Nat.le_of_ble_eq_true rfl)) dX7_readLine_4 ⟨(Nat.le_of_ble_eq_true rfl), (Nat.le_of_ble_eq_true rfl)⟩) hS (fun _ _ h => h) (fun _ h => h) (fun r_4 u4 t H locs ht hvm hw4 hB hz1 hk1 hS => ?_)
  obtain ⟨hP, hD⟩ := hB
  rw [ht] at hP
  obtain ⟨hs4, g4, rfl, hTx4, hfr4⟩ := hw4
  have hC4 := ChargesAt_fr (fun j h1 h2 => hfr4 j (by omega) (by omega)) hC
  have frm4 : ∀ j, j ≠ 1 → j ≠ 2 → g4 j = G j := fun j h1 h2 => (hfr4 j h1 h2).trans (rfl)
  have eX0 := (hfr4 0 (by decide) (by decide)).trans eX0
  obtain ⟨ht1, ht2, et1, et2, -⟩ := id hTx4
  obtain ⟨⟨hc0, -⟩, ec0, -⟩ := id hC4
  refine lv_istore_n (lv' := [(1, .int r_4), (0, .ref (ad 0))]) hx hb dX7_readLine_7 rfl hl (by decide) rfl (fun ls hl => ?_)
  refine lv_aload_n hx hb dX7_readLine_8 rfl (lv_at hl 1 rfl) ?_
  refine pv_get (ci := 9) (C := RX7) (T := TX7) (N := 7) hx hb hts hinX7 hown hK hP hX0 eX0 rfl 0 (by decide) (hts (.fieldLink RX7 10 "StorageCharge" "text" "LStorageCharge$Text;") (by decide +kernel)) (fun _ h9 => h9) rfl dX7_readLine_9 ?_
  refine va_calli (va_runV (As := []) (rest := []) ⟨hx, hb, hml, hown, hts⟩ (c_X5_takeNumber l hl0 D y b0 Ls ad g4 f len (nxp len pl) hTx4) (cwV 0 hts gX7_readLine_X5_takeNumber rfl rfl rfl (by decide +kernel) ⟨(Nat.le_of_ble_eq_true rfl), (Nat.le_of_ble_eq_true rfl)⟩) ⟨WdM_blind, Wd_recv hK hP (ci := 7) rfl ht1 et1, WdM_at hP hK hN hD hS hb0 hT⟩ rfl rfl hl.1 rfl (lv_room (Nat.le_of_ble_eq_true rfl)) dX7_readLine_12 ⟨(Nat.le_of_ble_eq_true rfl), (Nat.le_of_ble_eq_true rfl)⟩) hS (fun _ _ h => h) (fun _ h => h) (fun r_12 u12 t H locs ht hvm hw12 hB hz1 hk1 hS => ?_)
  obtain ⟨hP, hD⟩ := hB
  rw [ht] at hP
  obtain ⟨hs12, g12, rfl, hTx12, hfr12⟩ := hw12
  have hC12 := ChargesAt_fr (fun j h1 h2 => hfr12 j (by omega) (by omega)) hC4
  have frm12 : ∀ j, j ≠ 1 → j ≠ 2 → g12 j = G j := fun j h1 h2 => (hfr12 j h1 h2).trans (frm4 j h1 h2)
  have eX0 := (hfr12 0 (by decide) (by decide)).trans eX0
  obtain ⟨ht1, ht2, et1, et2, -⟩ := id hTx12
  obtain ⟨⟨hc0, -⟩, ec0, -⟩ := id hC12
  refine lv_istore_n (lv' := [(2, .int r_12), (1, .int r_4), (0, .ref (ad 0))]) hx hb dX7_readLine_15 rfl hl (by decide) rfl (fun ls hl => ?_)
  refine lv_aload_n hx hb dX7_readLine_16 rfl (lv_at hl 2 rfl) ?_
  refine pv_get (ci := 9) (C := RX7) (T := TX7) (N := 7) hx hb hts hinX7 hown hK hP hX0 eX0 rfl 0 (by decide) (hts (.fieldLink RX7 10 "StorageCharge" "text" "LStorageCharge$Text;") (by decide +kernel)) (fun _ h9 => h9) rfl dX7_readLine_17 ?_
  refine va_calli (va_runV (As := []) (rest := []) ⟨hx, hb, hml, hown, hts⟩ (c_X5_takeNumber l hl0 D y b0 Ls ad g12 f len (tkP f len (nxp len pl)) hTx12) (cwV 0 hts gX7_readLine_X5_takeNumber rfl rfl rfl (by decide +kernel) ⟨(Nat.le_of_ble_eq_true rfl), (Nat.le_of_ble_eq_true rfl)⟩) ⟨WdM_blind, Wd_recv hK hP (ci := 7) rfl ht1 et1, WdM_at hP hK hN hD hS hb0 hT⟩ rfl rfl hl.1 rfl (lv_room (Nat.le_of_ble_eq_true rfl)) dX7_readLine_20 ⟨(Nat.le_of_ble_eq_true rfl), (Nat.le_of_ble_eq_true rfl)⟩) hS (fun _ _ h => h) (fun _ h => h) (fun r_20 u20 t H locs ht hvm hw20 hB hz1 hk1 hS => ?_)
  obtain ⟨hP, hD⟩ := hB
  rw [ht] at hP
  obtain ⟨hs20, g20, rfl, hTx20, hfr20⟩ := hw20
  have hC20 := ChargesAt_fr (fun j h1 h2 => hfr20 j (by omega) (by omega)) hC12
  have frm20 : ∀ j, j ≠ 1 → j ≠ 2 → g20 j = G j := fun j h1 h2 => (hfr20 j h1 h2).trans (frm12 j h1 h2)
  have eX0 := (hfr20 0 (by decide) (by decide)).trans eX0
  obtain ⟨ht1, ht2, et1, et2, -⟩ := id hTx20
  obtain ⟨⟨hc0, -⟩, ec0, -⟩ := id hC20
  refine lv_istore_n (lv' := [(3, .int r_20), (2, .int r_12), (1, .int r_4), (0, .ref (ad 0))]) hx hb dX7_readLine_23 rfl hl (by decide) rfl (fun ls hl => ?_)
  refine lv_iload_n hx hb dX7_readLine_24 rfl (lv_at hl 2 rfl) ?_
  refine lv_bipush (v := 77) hx hb dX7_readLine_25 (by decide) ?_
  refine lv_icmp_ne (tgt := 34) hx hb dX7_readLine_27 (by decide) (fun c_27 => ?_) (fun c_27 => ?_)
  · have h77 : ¬ nx f len pl = 77 := by rw [← hs4]; exact c_27
    have eT : rlT f len pl = tkV f len (rlB f len pl) := if_neg h77
    have eC : rlC f len pl = tkP f len (rlB f len pl) := if_neg h77
    refine lv_aload_n hx hb dX7_readLine_34 rfl (lv_at hl 3 rfl) ?_
    refine pv_get (ci := 9) (C := RX7) (T := TX7) (N := 7) hx hb hts hinX7 hown hK hP hX0 eX0 rfl 0 (by decide) (hts (.fieldLink RX7 10 "StorageCharge" "text" "LStorageCharge$Text;") (by decide +kernel)) (fun _ h9 => h9) rfl dX7_readLine_35 ?_
    refine va_calli (va_runV (As := []) (rest := []) ⟨hx, hb, hml, hown, hts⟩ (c_X5_takeNumber l hl0 D y b0 Ls ad g20 f len (tkP f len (tkP f len (nxp len pl))) hTx20) (cwV 0 hts gX7_readLine_X5_takeNumber rfl rfl rfl (by decide +kernel) ⟨(Nat.le_of_ble_eq_true rfl), (Nat.le_of_ble_eq_true rfl)⟩) ⟨WdM_blind, Wd_recv hK hP (ci := 7) rfl ht1 et1, WdM_at hP hK hN hD hS hb0 hT⟩ rfl rfl hl.1 rfl (lv_room (Nat.le_of_ble_eq_true rfl)) dX7_readLine_38 ⟨(Nat.le_of_ble_eq_true rfl), (Nat.le_of_ble_eq_true rfl)⟩) hS (fun _ _ h => h) (fun _ h => h) (fun r_38 u38 t H locs ht hvm hw38 hB hz1 hk1 hS => ?_)
    obtain ⟨hP, hD⟩ := hB
    rw [ht] at hP
    obtain ⟨hs38, g38, rfl, hTx38, hfr38⟩ := hw38
    have hC38 := ChargesAt_fr (fun j h1 h2 => hfr38 j (by omega) (by omega)) hC20
    have frm38 : ∀ j, j ≠ 1 → j ≠ 2 → g38 j = G j := fun j h1 h2 => (hfr38 j h1 h2).trans (frm20 j h1 h2)
    have eX0 := (hfr38 0 (by decide) (by decide)).trans eX0
    obtain ⟨ht1, ht2, et1, et2, -⟩ := id hTx38
    obtain ⟨⟨hc0, -⟩, ec0, -⟩ := id hC38
    refine lv_topi (fun z9 ez9 => ?_)
    obtain rfl : z9 = rlT f len pl := ez9.trans (hs38.trans eT.symm)
    refine lv_topi (fun x_41 ex_41 => ?_)
    refine lv_istore (lv' := [(4, .int x_41), (3, .int r_20), (2, .int r_12), (1, .int r_4), (0, .ref (ad 0))]) hx hb dX7_readLine_41 hl (by decide) rfl (fun ls hl => ?_)
    have e2 : r_12 = rlO f len pl := hs12
    have e3 : r_20 = rlS f len pl := hs20
    refine lv_aload_n hx hb dX7_readLine_43 rfl (lv_at hl 4 rfl) ?_
    refine pv_get (ci := 9) (C := RX7) (T := TX7) (N := 7) hx hb hts hinX7 hown hK hP hX0 eX0 rfl 0 (by decide) (hts (.fieldLink RX7 10 "StorageCharge" "text" "LStorageCharge$Text;") (by decide +kernel)) (fun _ h9 => h9) rfl dX7_readLine_44 ?_
    refine va_calli (va_runV (As := []) (rest := []) ⟨hx, hb, hml, hown, hts⟩ (c_X5_takeSign l hl0 D y b0 Ls ad g38 f len (tkP f len (tkP f len (tkP f len (nxp len pl)))) hTx38) (cwV 0 hts gX7_readLine_X5_takeSign rfl rfl rfl (by decide +kernel) ⟨(Nat.le_of_ble_eq_true rfl), (Nat.le_of_ble_eq_true rfl)⟩) ⟨WdM_blind, Wd_recv hK hP (ci := 7) rfl ht1 et1, WdM_at hP hK hN hD hS hb0 hT⟩ rfl rfl hl.1 rfl (lv_room (Nat.le_of_ble_eq_true rfl)) dX7_readLine_47 ⟨(Nat.le_of_ble_eq_true rfl), (Nat.le_of_ble_eq_true rfl)⟩) hS (fun _ _ h => h) (fun _ h => h) (fun r_47 u47 t H locs ht hvm hw47 hB hz1 hk1 hS => ?_)
    obtain ⟨hP, hD⟩ := hB
    rw [ht] at hP
    obtain ⟨hs47, g47, rfl, hTx47, hfr47⟩ := hw47
    have hC47 := ChargesAt_fr (fun j h1 h2 => hfr47 j (by omega) (by omega)) hC38
    have frm47 : ∀ j, j ≠ 1 → j ≠ 2 → g47 j = G j := fun j h1 h2 => (hfr47 j h1 h2).trans (frm38 j h1 h2)
    have eX0 := (hfr47 0 (by decide) (by decide)).trans eX0
    obtain ⟨ht1, ht2, et1, et2, -⟩ := id hTx47
    obtain ⟨⟨hc0, -⟩, ec0, -⟩ := id hC47
    refine lv_bipush (v := 10) hx hb dX7_readLine_50 (by decide) ?_
    refine lv_icmp_ne (tgt := 74) hx hb dX7_readLine_52 (by decide) (fun c_52 => ?_) (fun c_52 => ?_)
    · refine lv_iconst (v := 0) hx hb dX7_readLine_74 (by decide) ?_
      refine W.widen (k := 0) (n := 0) (Nat.le_of_ble_eq_true rfl) (Nat.le_of_ble_eq_true rfl) ?_
      exact W.zret (v := 0) hx hb hr (by first | rfl | decide | (simp [narrow]; done) | assumption) (fun t ht hW => ⟨⟨0, wl Ls ad g47, rfl, (Or.inr ⟨rfl, (fun h => by first | exact c_52 (hs47.trans (by have h1 := h.1; rw [eC] at h1; exact h1)) | exact hno (by rw [hs4, e2, e3, ex_41]; exact h.2)), g47, _, rfl, hTx47, hC47, fun j h1 h2 _ => frm47 j h1 h2⟩), by rw [ht]; exact hP, hD⟩, hS.F ht⟩) hS.2.2 dX7_readLine_75
    · refine lv_aload_n hx hb dX7_readLine_55 rfl (lv_at hl 4 rfl) ?_
      refine pv_get (ci := 9) (C := RX7) (T := TX7) (N := 7) hx hb hts hinX7 hown hK hP hX0 eX0 rfl 2 (by decide) (hts (.fieldLink RX7 23 "StorageCharge" "draft" "LStorageCharge$Charges;") (by decide +kernel)) (fun _ h9 => h9) rfl dX7_readLine_56 ?_
      refine lv_iload_n hx hb dX7_readLine_59 rfl (lv_at hl 3 rfl) ?_
      refine lv_iload_n hx hb dX7_readLine_60 rfl (lv_at hl 2 rfl) ?_
      refine lv_iload_n hx hb dX7_readLine_61 rfl (lv_at hl 1 rfl) ?_
      refine lv_iload hx hb dX7_readLine_62 (lv_at hl 0 rfl) ?_
      refine va_calli (va_runV (As := [.int r_4, .int r_12, .int r_20, .int x_41]) (rest := []) ⟨hx, hb, hml, hown, hts⟩ (c_X2_tell l hl0 D y b0 Ls ad g47 dr st ha mi dO dD dP nd li ow hC47 r_4 r_12 r_20 x_41) (cwV 4 hts gX7_readLine_X2_tell rfl rfl rfl (by decide +kernel) ⟨(Nat.le_of_ble_eq_true rfl), (Nat.le_of_ble_eq_true rfl)⟩) ⟨WdM_blind, Wd_recv hK hP (ci := 4) rfl hc0 ec0, WdM_at hP hK hN hD hS hb0 hT⟩ rfl rfl hl.1 rfl (lv_room (Nat.le_of_ble_eq_true rfl)) dX7_readLine_64 ⟨(Nat.le_of_ble_eq_true rfl), (Nat.le_of_ble_eq_true rfl)⟩) hS (fun _ _ h => h) (fun _ h => h) (fun r_64 u64 t H locs ht hvm hw64 hB hz1 hk1 hS => ?_)
      obtain ⟨hP, hD⟩ := hB
      rw [ht] at hP
      rcases hw64 with ⟨rfl, hok, g9, rfl, hC9, hfr9⟩ | ⟨rfl, hno, rfl⟩
      · have hokl : rlOK f len pl st ha mi dO dD nd := ⟨by rw [eC]; exact hs47.symm.trans c_52, by rw [hs4, e2, e3, ex_41] at hok; exact hok⟩
        refine lv_if_eq (tgt := 74) hx hb dX7_readLine_67 (by decide) (fun c_67 => ?_) (fun c_67 => ?_)
        · exact absurd c_67 (by decide)
        · refine lv_iconst (v := 1) hx hb dX7_readLine_70 (by decide) ?_
          refine lv_goto (tgt := 75) hx hb dX7_readLine_71 (by decide) ?_
          refine W.widen (k := 0) (n := 0) (Nat.le_of_ble_eq_true rfl) (Nat.le_of_ble_eq_true rfl) ?_
          exact W.zret (v := 1) hx hb hr (by first | rfl | decide | (simp [narrow]; done) | assumption) (fun t ht hW => ⟨⟨1, wl Ls ad g9, rfl, (Or.inl ⟨rfl, hokl, g9, rfl, by rw [eC]; exact TextAt_fr (hfr9 1 (by omega)) (hfr9 2 (by omega)) hTx47, by rw [hs4, e2, e3, ex_41] at hC9; exact hC9, fun j h1 h2 h3 => (hfr9 j h3).trans (frm47 j h1 h2)⟩), by rw [ht]; exact hP, hD⟩, hS.F ht⟩) hS.2.2 dX7_readLine_75
      · refine lv_if_eq (tgt := 74) hx hb dX7_readLine_67 (by decide) (fun c_67 => ?_) (fun c_67 => ?_)
        · refine lv_iconst (v := 0) hx hb dX7_readLine_74 (by decide) ?_
          refine W.widen (k := 0) (n := 0) (Nat.le_of_ble_eq_true rfl) (Nat.le_of_ble_eq_true rfl) ?_
          exact W.zret (v := 0) hx hb hr (by first | rfl | decide | (simp [narrow]; done) | assumption) (fun t ht hW => ⟨⟨0, wl Ls ad g47, rfl, (Or.inr ⟨rfl, (fun h => by first | exact c_52 (hs47.trans (by have h1 := h.1; rw [eC] at h1; exact h1)) | exact hno (by rw [hs4, e2, e3, ex_41]; exact h.2)), g47, _, rfl, hTx47, hC47, fun j h1 h2 _ => frm47 j h1 h2⟩), by rw [ht]; exact hP, hD⟩, hS.F ht⟩) hS.2.2 dX7_readLine_75
        · exact absurd rfl c_67
  · have h77 : nx f len pl = 77 := by rw [← hs4]; exact c_27
    have eT : rlT f len pl = -1 := if_pos h77
    have eC : rlC f len pl = rlB f len pl := if_pos h77
    refine lv_iconst (v := (-1)) hx hb dX7_readLine_30 (by decide) ?_
    refine lv_goto (tgt := 41) hx hb dX7_readLine_31 (by decide) ?_
    refine lv_topi (fun z9 ez9 => ?_)
    obtain rfl : z9 = rlT f len pl := ez9.trans (eT.symm)
    refine lv_topi (fun x_41 ex_41 => ?_)
    refine lv_istore (lv' := [(4, .int x_41), (3, .int r_20), (2, .int r_12), (1, .int r_4), (0, .ref (ad 0))]) hx hb dX7_readLine_41 hl (by decide) rfl (fun ls hl => ?_)
    have e2 : r_12 = rlO f len pl := hs12
    have e3 : r_20 = rlS f len pl := hs20
    refine lv_aload_n hx hb dX7_readLine_43 rfl (lv_at hl 4 rfl) ?_
    refine pv_get (ci := 9) (C := RX7) (T := TX7) (N := 7) hx hb hts hinX7 hown hK hP hX0 eX0 rfl 0 (by decide) (hts (.fieldLink RX7 10 "StorageCharge" "text" "LStorageCharge$Text;") (by decide +kernel)) (fun _ h9 => h9) rfl dX7_readLine_44 ?_
    refine va_calli (va_runV (As := []) (rest := []) ⟨hx, hb, hml, hown, hts⟩ (c_X5_takeSign l hl0 D y b0 Ls ad g20 f len (tkP f len (tkP f len (nxp len pl))) hTx20) (cwV 0 hts gX7_readLine_X5_takeSign rfl rfl rfl (by decide +kernel) ⟨(Nat.le_of_ble_eq_true rfl), (Nat.le_of_ble_eq_true rfl)⟩) ⟨WdM_blind, Wd_recv hK hP (ci := 7) rfl ht1 et1, WdM_at hP hK hN hD hS hb0 hT⟩ rfl rfl hl.1 rfl (lv_room (Nat.le_of_ble_eq_true rfl)) dX7_readLine_47 ⟨(Nat.le_of_ble_eq_true rfl), (Nat.le_of_ble_eq_true rfl)⟩) hS (fun _ _ h => h) (fun _ h => h) (fun r_47 u47 t H locs ht hvm hw47 hB hz1 hk1 hS => ?_)
    obtain ⟨hP, hD⟩ := hB
    rw [ht] at hP
    obtain ⟨hs47, g47, rfl, hTx47, hfr47⟩ := hw47
    have hC47 := ChargesAt_fr (fun j h1 h2 => hfr47 j (by omega) (by omega)) hC20
    have frm47 : ∀ j, j ≠ 1 → j ≠ 2 → g47 j = G j := fun j h1 h2 => (hfr47 j h1 h2).trans (frm20 j h1 h2)
    have eX0 := (hfr47 0 (by decide) (by decide)).trans eX0
    obtain ⟨ht1, ht2, et1, et2, -⟩ := id hTx47
    obtain ⟨⟨hc0, -⟩, ec0, -⟩ := id hC47
    refine lv_bipush (v := 10) hx hb dX7_readLine_50 (by decide) ?_
    refine lv_icmp_ne (tgt := 74) hx hb dX7_readLine_52 (by decide) (fun c_52 => ?_) (fun c_52 => ?_)
    · refine lv_iconst (v := 0) hx hb dX7_readLine_74 (by decide) ?_
      refine W.widen (k := 0) (n := 0) (Nat.le_of_ble_eq_true rfl) (Nat.le_of_ble_eq_true rfl) ?_
      exact W.zret (v := 0) hx hb hr (by first | rfl | decide | (simp [narrow]; done) | assumption) (fun t ht hW => ⟨⟨0, wl Ls ad g47, rfl, (Or.inr ⟨rfl, (fun h => by first | exact c_52 (hs47.trans (by have h1 := h.1; rw [eC] at h1; exact h1)) | exact hno (by rw [hs4, e2, e3, ex_41]; exact h.2)), g47, _, rfl, hTx47, hC47, fun j h1 h2 _ => frm47 j h1 h2⟩), by rw [ht]; exact hP, hD⟩, hS.F ht⟩) hS.2.2 dX7_readLine_75
    · refine lv_aload_n hx hb dX7_readLine_55 rfl (lv_at hl 4 rfl) ?_
      refine pv_get (ci := 9) (C := RX7) (T := TX7) (N := 7) hx hb hts hinX7 hown hK hP hX0 eX0 rfl 2 (by decide) (hts (.fieldLink RX7 23 "StorageCharge" "draft" "LStorageCharge$Charges;") (by decide +kernel)) (fun _ h9 => h9) rfl dX7_readLine_56 ?_
      refine lv_iload_n hx hb dX7_readLine_59 rfl (lv_at hl 3 rfl) ?_
      refine lv_iload_n hx hb dX7_readLine_60 rfl (lv_at hl 2 rfl) ?_
      refine lv_iload_n hx hb dX7_readLine_61 rfl (lv_at hl 1 rfl) ?_
      refine lv_iload hx hb dX7_readLine_62 (lv_at hl 0 rfl) ?_
      refine va_calli (va_runV (As := [.int r_4, .int r_12, .int r_20, .int x_41]) (rest := []) ⟨hx, hb, hml, hown, hts⟩ (c_X2_tell l hl0 D y b0 Ls ad g47 dr st ha mi dO dD dP nd li ow hC47 r_4 r_12 r_20 x_41) (cwV 4 hts gX7_readLine_X2_tell rfl rfl rfl (by decide +kernel) ⟨(Nat.le_of_ble_eq_true rfl), (Nat.le_of_ble_eq_true rfl)⟩) ⟨WdM_blind, Wd_recv hK hP (ci := 4) rfl hc0 ec0, WdM_at hP hK hN hD hS hb0 hT⟩ rfl rfl hl.1 rfl (lv_room (Nat.le_of_ble_eq_true rfl)) dX7_readLine_64 ⟨(Nat.le_of_ble_eq_true rfl), (Nat.le_of_ble_eq_true rfl)⟩) hS (fun _ _ h => h) (fun _ h => h) (fun r_64 u64 t H locs ht hvm hw64 hB hz1 hk1 hS => ?_)
      obtain ⟨hP, hD⟩ := hB
      rw [ht] at hP
      rcases hw64 with ⟨rfl, hok, g9, rfl, hC9, hfr9⟩ | ⟨rfl, hno, rfl⟩
      · have hokl : rlOK f len pl st ha mi dO dD nd := ⟨by rw [eC]; exact hs47.symm.trans c_52, by rw [hs4, e2, e3, ex_41] at hok; exact hok⟩
        refine lv_if_eq (tgt := 74) hx hb dX7_readLine_67 (by decide) (fun c_67 => ?_) (fun c_67 => ?_)
        · exact absurd c_67 (by decide)
        · refine lv_iconst (v := 1) hx hb dX7_readLine_70 (by decide) ?_
          refine lv_goto (tgt := 75) hx hb dX7_readLine_71 (by decide) ?_
          refine W.widen (k := 0) (n := 0) (Nat.le_of_ble_eq_true rfl) (Nat.le_of_ble_eq_true rfl) ?_
          exact W.zret (v := 1) hx hb hr (by first | rfl | decide | (simp [narrow]; done) | assumption) (fun t ht hW => ⟨⟨1, wl Ls ad g9, rfl, (Or.inl ⟨rfl, hokl, g9, rfl, by rw [eC]; exact TextAt_fr (hfr9 1 (by omega)) (hfr9 2 (by omega)) hTx47, by rw [hs4, e2, e3, ex_41] at hC9; exact hC9, fun j h1 h2 h3 => (hfr9 j h3).trans (frm47 j h1 h2)⟩), by rw [ht]; exact hP, hD⟩, hS.F ht⟩) hS.2.2 dX7_readLine_75
      · refine lv_if_eq (tgt := 74) hx hb dX7_readLine_67 (by decide) (fun c_67 => ?_) (fun c_67 => ?_)
        · refine lv_iconst (v := 0) hx hb dX7_readLine_74 (by decide) ?_
          refine W.widen (k := 0) (n := 0) (Nat.le_of_ble_eq_true rfl) (Nat.le_of_ble_eq_true rfl) ?_
          exact W.zret (v := 0) hx hb hr (by first | rfl | decide | (simp [narrow]; done) | assumption) (fun t ht hW => ⟨⟨0, wl Ls ad g47, rfl, (Or.inr ⟨rfl, (fun h => by first | exact c_52 (hs47.trans (by have h1 := h.1; rw [eC] at h1; exact h1)) | exact hno (by rw [hs4, e2, e3, ex_41]; exact h.2)), g47, _, rfl, hTx47, hC47, fun j h1 h2 _ => frm47 j h1 h2⟩), by rw [ht]; exact hP, hD⟩, hS.F ht⟩) hS.2.2 dX7_readLine_75
        · exact absurd rfl c_67
