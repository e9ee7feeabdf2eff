/-! the model's count, print, and its constructor -/
def orF (O : Nat → Int32) (b : Int32) : Nat → Int32
  | 0 => b
  | k + 1 => orF O b k ||| (1 <<< (O k &&& 31))
def mTh (ut : Nat → Int32) : Nat → Int32 := sN (fun u => if ut u = 100000 then 1 else 0)
theorem sN_0 {v : Nat → Int32} (h : ∀ k, v k = 0) : ∀ n, sN v n = 0
  | 0 => rfl
  | n + 1 => by rw [sN, sN_0 h n, h n]; rfl
theorem sN_3 {ut : Nat → Int32} {wh : Int32} (h : wh = 3) (n : Nat) : sN (fun u => if wh = 3 ∧ ut u = 100000 then 1 else 0) n = mTh ut n := by
  rw [mTh]
  refine congrArg (fun v => sN v n) (funext fun u => ?_)
  by_cases h2 : ut u = 100000
  · rw [if_pos ⟨h, h2⟩, if_pos h2]
  · rw [if_neg (fun h3 => h2 h3.2), if_neg h2]
theorem sN_6 {ut : Nat → Int32} {wh : Int32} (h : ¬ wh = 3) (n : Nat) : sN (fun u => if wh = 3 ∧ ut u = 100000 then 1 else 0) n = 0 := sN_0 (fun k => if_neg (fun h2 => h h2.1)) n

theorem cn3 {a0 a1 a2 a3 a4 a5 a6 x r : Int32} (h : x = 3) (hr : r = a3) : r = cnV a0 a1 a2 a3 a4 a5 a6 x := by subst h; exact hr
theorem cn6 {a0 a1 a2 a3 a4 a5 a6 x r : Int32} (h : x = 6) (hr : r = a6) : r = cnV a0 a1 a2 a3 a4 a5 a6 x := by subst h; exact hr

set_option maxHeartbeats 4000000 in
set_option maxRecDepth 100000 in
/-- count -/
theorem c_X8_count (l : Launch) (hl0 : l.stackTraces = false) (D : va_G) (y : Nat → ClassId) (b0 : Nat) (Ls : List Nat) (ad : Nat → Nat) (G : Nat → va_E) (F : Nat → Int32) (A : Nat → Nat → Int32) (hM : ModelAt y Ls ad G F A) (sg : Nat) (h1 : F 1 = nI sg) (nl : Nat) (h3 : F 3 = nI nl) (nu : Nat) (h14 : F 14 = nI nu) (nm : Nat) (h21 : F 21 = nI nm) (pn : Nat) (h32 : F 32 = nI pn) (hnu : nu ≤ 24) (hnl : nl ≤ 60) (wh : Int32) : Met l yX8_count wsX8_count ({ frames := 0, cells := 0, slots := 0, locals := 0 }) (va_Pc [.ref (ad 100), .int wh] (WdM D y b0 (wl Ls ad G))) (va_Qi (fun (r : Int32) (u : va_W) => r = cnV (nI sg) (nI nl) (nI nu) (mTh (A 17) nu) (nI nm) (nI pn) (orF (A 5) 0 nl) wh ∧ ∃ G2, u = wl Ls ad G2 ∧ ModelAt y Ls ad G2 (va_up F 0 0) A ∧ (∀ j, (j < 100 ∨ 134 < j) → G2 j = G j)) (WB D b0) (fun q => b0 ≤ q)) 0 0 (fun q => b0 ≤ q) := by
  refine Met.ofW (cc := cX8_count) (maxL := 4) (ret := (some .int)) (by decide) rfl ?_
  intro p e s m args below meth c s₁ B hml hv
  obtain ⟨rfl, ⟨hP, hK, hN⟩, hD, hb0, hT⟩ := hv
  have hx := B.exec
  have hb := B.bytes
  have hr := B.returns
  have hts := atoms_spec (ws := wsX8_count) B.pre
  have hown : s.vm.findClass RX8 = some m.cls := findClass_of_methodNamed B.named
  have hlocks := B.notSynchronized
  have hS : va_S (fun q => b0 ≤ q) s.heap s.heap [] := va_S.rf
  have hinX8 : ∀ w ∈ wsX80, w ∈ wsX8_count := by decide +kernel
  have eM : G 100 = .inr (10, [.int (F 0), .int (nI sg), .ref (ad 103), .int (nI nl), .ref (ad 105), .ref (ad 106), .ref (ad 107), .ref (ad 108), .int (F 8), .ref (ad 110), .ref (ad 111), .ref (ad 112), .ref (ad 113), .int (F 13), .int (nI nu), .ref (ad 116), .ref (ad 117), .ref (ad 118), .ref (ad 119), .ref (ad 120), .ref (ad 121), .int (nI nm), .ref (ad 123), .ref (ad 124), .ref (ad 125), .ref (ad 126), .int (F 26), .ref (ad 128), .ref (ad 129), .ref (ad 130), .ref (ad 131), .ref (ad 132), .int (nI pn), .ref (ad 134)]) := hM.2.1.trans (by rw [mfs, h1, h3, h14, h21, h32])
  obtain ⟨j17, a17⟩ : 118 ∈ Ls ∧ G 118 = .inl (y 0, 24, .inl (A 17)) := hM.2.2 17 (by decide)
  obtain ⟨j5, a5⟩ : 106 ∈ Ls ∧ G 106 = .inl (y 0, 60, .inl (A 5)) := hM.2.2 5 (by decide)
  have hl := lv_entry ([.ref (ad 100), .int wh]) (n := 4) (Nat.le_of_ble_eq_true rfl)
  rw [lg_entry_eq]
  generalize (lg_sl ([.ref (ad 100), .int wh]) ++ List.replicate (4 - (lg_sl ([.ref (ad 100), .int wh])).length) Slot.unset).toArray = ls at hl ⊢
  have hl : lv_has ls 4 [(0, .ref (ad 100)), (1, .int wh)] := hl
  refine lv_aload_n hx hb dX8_count_0 rfl (lv_at hl 0 rfl) ?_
  refine lv_iconst (v := 0) hx hb dX8_count_1 (by decide) ?_
  refine pv_put (ci := 10) (v := .int 0) (ty := .int) (C := RX8) (T := TX8) (N := 34) hx hb hts hinX8 tyX8 tyX8_ok nmX8 hown hK hP hD hS hM.1 eM rfl 0 (by decide) (hts (.fieldLink RX8 86 "StorageChargeModel" "code" "I") (by decide +kernel)) (fun _ h9 => h9) rfl (by decide +kernel) rfl rfl (Nat.le_of_ble_eq_true rfl) dX8_count_2 (fun H locs hP hD hS => ?_)
  obtain ⟨G_2, eG_2⟩ : ∃ gg9 : Nat → va_E, gg9 = va_up G 100 (.inr (10, [.int 0, .int (nI sg), .ref (ad 103), .int (nI nl), .ref (ad 105), .ref (ad 106), .ref (ad 107), .ref (ad 108), .int (F 8), .ref (ad 110), .ref (ad 111), .ref (ad 112), .ref (ad 113), .int (F 13), .int (nI nu), .ref (ad 116), .ref (ad 117), .ref (ad 118), .ref (ad 119), .ref (ad 120), .ref (ad 121), .int (nI nm), .ref (ad 123), .ref (ad 124), .ref (ad 125), .ref (ad 126), .int (F 26), .ref (ad 128), .ref (ad 129), .ref (ad 130), .ref (ad 131), .ref (ad 132), .int (nI pn), .ref (ad 134)])) := ⟨_, rfl⟩
  have hP : va_P D vwCl (wl Ls ad G_2) H := by rw [eG_2]; exact hP
  have hD : va_D (fun q => b0 ≤ q) (wl Ls ad G_2) := by rw [eG_2]; exact hD
  have a17 : G_2 118 = .inl (y 0, 24, .inl (A 17)) := by rw [eG_2, va_up_ne _ _ (by omega)]; exact a17
  have a5 : G_2 106 = .inl (y 0, 60, .inl (A 5)) := by rw [eG_2, va_up_ne _ _ (by omega)]; exact a5
  have eM : G_2 100 = .inr (10, [.int 0, .int (nI sg), .ref (ad 103), .int (nI nl), .ref (ad 105), .ref (ad 106), .ref (ad 107), .ref (ad 108), .int (F 8), .ref (ad 110), .ref (ad 111), .ref (ad 112), .ref (ad 113), .int (F 13), .int (nI nu), .ref (ad 116), .ref (ad 117), .ref (ad 118), .ref (ad 119), .ref (ad 120), .ref (ad 121), .int (nI nm), .ref (ad 123), .ref (ad 124), .ref (ad 125), .ref (ad 126), .int (F 26), .ref (ad 128), .ref (ad 129), .ref (ad 130), .ref (ad 131), .ref (ad 132), .int (nI pn), .ref (ad 134)]) := by rw [eG_2]; exact va_up_self _ _ _
  refine lv_iload_n hx hb dX8_count_5 rfl (lv_at hl 1 rfl) ?_
  refine lv_if_ne (tgt := 14) hx hb dX8_count_6 (by decide) (fun c_6 => ?_) (fun c_6 => ?_)
  · refine lv_iload_n hx hb dX8_count_14 rfl (lv_at hl 1 rfl) ?_
    refine lv_iconst (v := 1) hx hb dX8_count_15 (by decide) ?_
    refine lv_icmp_ne (tgt := 24) hx hb dX8_count_16 (by decide) (fun c_16 => ?_) (fun c_16 => ?_)
    · refine lv_iload_n hx hb dX8_count_24 rfl (lv_at hl 1 rfl) ?_
      refine lv_iconst (v := 2) hx hb dX8_count_25 (by decide) ?_
      refine lv_icmp_ne (tgt := 34) hx hb dX8_count_26 (by decide) (fun c_26 => ?_) (fun c_26 => ?_)
      · refine lv_iload_n hx hb dX8_count_34 rfl (lv_at hl 1 rfl) ?_
        refine lv_iconst (v := 4) hx hb dX8_count_35 (by decide) ?_
        refine lv_icmp_ne (tgt := 44) hx hb dX8_count_36 (by decide) (fun c_36 => ?_) (fun c_36 => ?_)
        · refine lv_iload_n hx hb dX8_count_44 rfl (lv_at hl 1 rfl) ?_
          refine lv_iconst (v := 5) hx hb dX8_count_45 (by decide) ?_
          refine lv_icmp_ne (tgt := 54) hx hb dX8_count_46 (by decide) (fun c_46 => ?_) (fun c_46 => ?_)
          · have hMc : ModelAt y Ls ad G_2 (va_up F 0 0) A := (ModelAt_w hM (eM.trans (by rw [← h1, ← h3, ← h14, ← h21, ← h32]; rfl)) (fun k hk => Or.inl ⟨by rw [eG_2, va_up_ne _ _ (by omega)], rfl⟩))
            have hfrc : ∀ j, (j < 100 ∨ 134 < j) → G_2 j = G j := (fun j h9 => by rw [eG_2, va_up_ne _ _ (by omega)])
            have loop98 : ∀ (n : Nat) (i : Nat) (k : Int32), i ≤ nl → nl < i + n → k = orF (A 5) (sN (fun u => if wh = 3 ∧ A 17 u = 100000 then 1 else 0) nu) i → (¬ wh = 6 → i = 0) → ∀ (H : Heap) (locs : List Loc), va_P D vwCl (wl Ls ad G_2) H → va_D (fun q => b0 ≤ q) (wl Ls ad G_2) → va_S (fun q => b0 ≤ q) s.heap H locs → ∀ ls : Array Slot, lv_has ls 4 [(0, .ref (ad 100)), (1, .int wh), (2, .int k), (3, .int (nI i))] → W p l e (headSpec wsX8_count ({ frames := 0, cells := 0, slots := 0, locals := 0 })).room s m ([.ref (ad 100), .int wh] : List Value).toArray below meth c H locs 0 0 (MQ below (va_Qi (fun (r : Int32) (u : va_W) => r = cnV (nI sg) (nI nl) (nI nu) (mTh (A 17) nu) (nI nm) (nI pn) (orF (A 5) 0 nl) wh ∧ ∃ G2, u = wl Ls ad G2 ∧ ModelAt y Ls ad G2 (va_up F 0 0) A ∧ (∀ j, (j < 100 ∨ 134 < j) → G2 j = G j)) (WB D b0) (fun q => b0 ≤ q)) ([.ref (ad 100), .int wh] : List Value).toArray s 0 0 (fun q => b0 ≤ q)) (F0 m 98 ls []) := by
              intro n
              induction n with
              | zero =>
                intro i k hi hn; exact absurd hn (by omega)
              | succ n ih98 =>
                intro i k hi hn ek hi0 H locs hP hD hS ls hl
                refine lv_iload_n hx hb dX8_count_98 rfl (lv_at hl 3 rfl) ?_
                refine lv_aload_n hx hb dX8_count_99 rfl (lv_at hl 0 rfl) ?_
                refine pv_get (ci := 10) (C := RX8) (T := TX8) (N := 34) hx hb hts hinX8 hown hK hP hM.1 eM rfl 3 (by decide) (hts (.fieldLink RX8 124 "StorageChargeModel" "lines" "I") (by decide +kernel)) (fun _ h9 => h9) rfl dX8_count_100 ?_
                refine lv_icmp_ge (tgt := 129) hx hb dX8_count_103 (by decide) (fun c_103 => ?_) (fun c_103 => ?_)
                · have hgl : wh = 6 → i = nl := fun _ => by
                    have h8 := Nat.le_of_not_lt (fun h : i < nl => absurd c_103 (nI_ge h (by omega)))
                    omega
                  refine lv_iload_n hx hb dX8_count_129 rfl (lv_at hl 1 rfl) ?_
                  refine lv_iconst (v := 3) hx hb dX8_count_130 (by decide) ?_
                  refine lv_icmp_eq (tgt := 140) hx hb dX8_count_131 (by decide) (fun c_131 => ?_) (fun c_131 => ?_)
                  · refine lv_iload_n hx hb dX8_count_140 rfl (lv_at hl 2 rfl) ?_
                    refine lv_goto (tgt := 145) hx hb dX8_count_141 (by decide) ?_
                    refine W.widen (k := 0) (n := 0) (Nat.le_of_ble_eq_true rfl) (Nat.le_of_ble_eq_true rfl) ?_
                    exact W.iret (v := k) hx hb hr (fun t ht hW => ⟨⟨k, wl Ls ad G_2, rfl, ⟨(by first | exact cn3 c_131 (by have h0 := hi0 (by rw [c_131]; decide); rw [ek, h0]; exact sN_3 c_131 nu) | exact cn6 c_137 (by rw [ek, hgl c_137, sN_6 (by rw [c_137]; decide)])), _, rfl, hMc, hfrc⟩, by rw [ht]; exact hP, hD⟩, hS.F ht⟩) hS.2.2 dX8_count_145
                  · refine lv_iload_n hx hb dX8_count_134 rfl (lv_at hl 1 rfl) ?_
                    refine lv_bipush (v := 6) hx hb dX8_count_135 (by decide) ?_
                    refine lv_icmp_ne (tgt := 144) hx hb dX8_count_137 (by decide) (fun c_137 => ?_) (fun c_137 => ?_)
                    · refine lv_iconst (v := (-1)) hx hb dX8_count_144 (by decide) ?_
                      refine W.widen (k := 0) (n := 0) (Nat.le_of_ble_eq_true rfl) (Nat.le_of_ble_eq_true rfl) ?_
                      exact W.iret (v := (-1)) hx hb hr (fun t ht hW => ⟨⟨(-1), wl Ls ad G_2, rfl, ⟨by rw [cnV, if_neg c_6, if_neg c_16, if_neg c_26, if_neg c_131, if_neg c_36, if_neg c_46, if_neg c_137], _, rfl, hMc, hfrc⟩, by rw [ht]; exact hP, hD⟩, hS.F ht⟩) hS.2.2 dX8_count_145
                    · refine lv_iload_n hx hb dX8_count_140 rfl (lv_at hl 2 rfl) ?_
                      refine lv_goto (tgt := 145) hx hb dX8_count_141 (by decide) ?_
                      refine W.widen (k := 0) (n := 0) (Nat.le_of_ble_eq_true rfl) (Nat.le_of_ble_eq_true rfl) ?_
                      exact W.iret (v := k) hx hb hr (fun t ht hW => ⟨⟨k, wl Ls ad G_2, rfl, ⟨(by first | exact cn3 c_131 (by have h0 := hi0 (by rw [c_131]; decide); rw [ek, h0]; exact sN_3 c_131 nu) | exact cn6 c_137 (by rw [ek, hgl c_137, sN_6 (by rw [c_137]; decide)])), _, rfl, hMc, hfrc⟩, by rw [ht]; exact hP, hD⟩, hS.F ht⟩) hS.2.2 dX8_count_145
                · have hlt : i < nl := Nat.lt_of_not_le fun h => c_103 (nI_le h (by omega))
                  refine lv_iload_n hx hb dX8_count_106 rfl (lv_at hl 1 rfl) ?_
                  refine lv_bipush (v := 6) hx hb dX8_count_107 (by decide) ?_
                  refine lv_icmp_ne (tgt := 129) hx hb dX8_count_109 (by decide) (fun c_109 => ?_) (fun c_109 => ?_)
                  · have hgl : wh = 6 → i = nl := fun h => absurd h c_109
                    refine lv_iload_n hx hb dX8_count_129 rfl (lv_at hl 1 rfl) ?_
                    refine lv_iconst (v := 3) hx hb dX8_count_130 (by decide) ?_
                    refine lv_icmp_eq (tgt := 140) hx hb dX8_count_131 (by decide) (fun c_131 => ?_) (fun c_131 => ?_)
                    · refine lv_iload_n hx hb dX8_count_140 rfl (lv_at hl 2 rfl) ?_
                      refine lv_goto (tgt := 145) hx hb dX8_count_141 (by decide) ?_
                      refine W.widen (k := 0) (n := 0) (Nat.le_of_ble_eq_true rfl) (Nat.le_of_ble_eq_true rfl) ?_
                      exact W.iret (v := k) hx hb hr (fun t ht hW => ⟨⟨k, wl Ls ad G_2, rfl, ⟨(by first | exact cn3 c_131 (by have h0 := hi0 (by rw [c_131]; decide); rw [ek, h0]; exact sN_3 c_131 nu) | exact cn6 c_137 (by rw [ek, hgl c_137, sN_6 (by rw [c_137]; decide)])), _, rfl, hMc, hfrc⟩, by rw [ht]; exact hP, hD⟩, hS.F ht⟩) hS.2.2 dX8_count_145
                    · refine lv_iload_n hx hb dX8_count_134 rfl (lv_at hl 1 rfl) ?_
                      refine lv_bipush (v := 6) hx hb dX8_count_135 (by decide) ?_
                      refine lv_icmp_ne (tgt := 144) hx hb dX8_count_137 (by decide) (fun c_137 => ?_) (fun c_137 => ?_)
                      · refine lv_iconst (v := (-1)) hx hb dX8_count_144 (by decide) ?_
                        refine W.widen (k := 0) (n := 0) (Nat.le_of_ble_eq_true rfl) (Nat.le_of_ble_eq_true rfl) ?_
                        exact W.iret (v := (-1)) hx hb hr (fun t ht hW => ⟨⟨(-1), wl Ls ad G_2, rfl, ⟨by rw [cnV, if_neg c_6, if_neg c_16, if_neg c_26, if_neg c_131, if_neg c_36, if_neg c_46, if_neg c_137], _, rfl, hMc, hfrc⟩, by rw [ht]; exact hP, hD⟩, hS.F ht⟩) hS.2.2 dX8_count_145
                      · refine lv_iload_n hx hb dX8_count_140 rfl (lv_at hl 2 rfl) ?_
                        refine lv_goto (tgt := 145) hx hb dX8_count_141 (by decide) ?_
                        refine W.widen (k := 0) (n := 0) (Nat.le_of_ble_eq_true rfl) (Nat.le_of_ble_eq_true rfl) ?_
                        exact W.iret (v := k) hx hb hr (fun t ht hW => ⟨⟨k, wl Ls ad G_2, rfl, ⟨(by first | exact cn3 c_131 (by have h0 := hi0 (by rw [c_131]; decide); rw [ek, h0]; exact sN_3 c_131 nu) | exact cn6 c_137 (by rw [ek, hgl c_137, sN_6 (by rw [c_137]; decide)])), _, rfl, hMc, hfrc⟩, by rw [ht]; exact hP, hD⟩, hS.F ht⟩) hS.2.2 dX8_count_145
                  · refine lv_iload_n hx hb dX8_count_112 rfl (lv_at hl 2 rfl) ?_
                    refine lv_iconst (v := 1) hx hb dX8_count_113 (by decide) ?_
                    refine lv_aload_n hx hb dX8_count_114 rfl (lv_at hl 0 rfl) ?_
                    refine pv_get (ci := 10) (C := RX8) (T := TX8) (N := 34) hx hb hts hinX8 hown hK hP hM.1 eM rfl 5 (by decide) (hts (.fieldLink RX8 16 "StorageChargeModel" "lineOwner" "[I") (by decide +kernel)) (fun _ h9 => h9) rfl dX8_count_115 ?_
                    refine lv_iload_n hx hb dX8_count_118 rfl (lv_at hl 3 rfl) ?_
                    refine pv_iald hx hb hK hP j5 0 a5 rfl (k := i) rfl (by omega) (by decide) dX8_count_119 ?_
                    refine lv_ishl hx hb dX8_count_120 ?_
                    refine lv_ior hx hb dX8_count_121 ?_
                    refine lv_topi (fun x_122 ex_122 => ?_)
                    refine lv_istore_n (lv' := [(2, .int x_122), (0, .ref (ad 100)), (1, .int wh), (3, .int (nI i))]) hx hb dX8_count_122 rfl hl (by decide) rfl (fun ls hl => ?_)
                    refine lv_iinc (v := nI (i + 1)) (lv' := [(3, .int (nI (i + 1))), (2, .int x_122), (0, .ref (ad 100)), (1, .int wh)]) hx hb dX8_count_123 hl (k := 3) rfl (nI_1 i) (by decide) rfl (fun ls hl => ?_)
                    refine lv_goto (tgt := 98) hx hb dX8_count_126 (by decide) ?_
                    exact ih98 (i + 1) x_122 (by omega) (by omega) (by rw [orF, ex_122, ek]) (fun h => absurd c_109 h) _ _ hP hD hS ls (lv_sub hl [2, 3, 1, 0] rfl)
            have loop58 : ∀ (n : Nat) (i : Nat) (k : Int32), i ≤ nu → nu < i + n → k = sN (fun u => if wh = 3 ∧ A 17 u = 100000 then 1 else 0) i → ∀ (H : Heap) (locs : List Loc), va_P D vwCl (wl Ls ad G_2) H → va_D (fun q => b0 ≤ q) (wl Ls ad G_2) → va_S (fun q => b0 ≤ q) s.heap H locs → ∀ ls : Array Slot, lv_has ls 4 [(0, .ref (ad 100)), (1, .int wh), (2, .int k), (3, .int (nI i))] → W p l e (headSpec wsX8_count ({ frames := 0, cells := 0, slots := 0, locals := 0 })).room s m ([.ref (ad 100), .int wh] : List Value).toArray below meth c H locs 0 0 (MQ below (va_Qi (fun (r : Int32) (u : va_W) => r = cnV (nI sg) (nI nl) (nI nu) (mTh (A 17) nu) (nI nm) (nI pn) (orF (A 5) 0 nl) wh ∧ ∃ G2, u = wl Ls ad G2 ∧ ModelAt y Ls ad G2 (va_up F 0 0) A ∧ (∀ j, (j < 100 ∨ 134 < j) → G2 j = G j)) (WB D b0) (fun q => b0 ≤ q)) ([.ref (ad 100), .int wh] : List Value).toArray s 0 0 (fun q => b0 ≤ q)) (F0 m 58 ls []) := by
              intro n
              induction n with
              | zero =>
                intro i k hi hn; exact absurd hn (by omega)
              | succ n ih58 =>
                intro i k hi hn ek H locs hP hD hS ls hl
                refine lv_iload_n hx hb dX8_count_58 rfl (lv_at hl 3 rfl) ?_
                refine lv_aload_n hx hb dX8_count_59 rfl (lv_at hl 0 rfl) ?_
                refine pv_get (ci := 10) (C := RX8) (T := TX8) (N := 34) hx hb hts hinX8 hown hK hP hM.1 eM rfl 14 (by decide) (hts (.fieldLink RX8 134 "StorageChargeModel" "units" "I") (by decide +kernel)) (fun _ h9 => h9) rfl dX8_count_60 ?_
                refine lv_icmp_ge (tgt := 96) hx hb dX8_count_63 (by decide) (fun c_63 => ?_) (fun c_63 => ?_)
                · have hge : nu = i := by
                    have h8 := Nat.le_of_not_lt (fun h : i < nu => absurd c_63 (nI_ge h (by omega)))
                    omega
                  refine lv_iconst (v := 0) hx hb dX8_count_96 (by decide) ?_
                  refine lv_istore_n (lv' := [(3, .int 0), (0, .ref (ad 100)), (1, .int wh), (2, .int k)]) hx hb dX8_count_97 rfl hl (by decide) rfl (fun ls hl => ?_)
                  exact loop98 (nl + 1) 0 k (by omega) (by omega) (by rw [ek, hge]; rfl) (fun _ => rfl) _ _ hP hD hS ls (lv_sub hl [1, 2, 3, 0] rfl)
                · have hlt : i < nu := Nat.lt_of_not_le fun h => c_63 (nI_le h (by omega))
                  refine lv_iload_n hx hb dX8_count_66 rfl (lv_at hl 2 rfl) ?_
                  refine lv_iload_n hx hb dX8_count_67 rfl (lv_at hl 1 rfl) ?_
                  refine lv_iconst (v := 3) hx hb dX8_count_68 (by decide) ?_
                  refine lv_icmp_ne (tgt := 87) hx hb dX8_count_69 (by decide) (fun c_69 => ?_) (fun c_69 => ?_)
                  · refine lv_iconst (v := 0) hx hb dX8_count_87 (by decide) ?_
                    refine lv_iadd hx hb dX8_count_88 ?_
                    refine lv_topi (fun x_89 ex_89 => ?_)
                    refine lv_istore_n (lv' := [(2, .int x_89), (0, .ref (ad 100)), (1, .int wh), (3, .int (nI i))]) hx hb dX8_count_89 rfl hl (by decide) rfl (fun ls hl => ?_)
                    refine lv_iinc (v := nI (i + 1)) (lv' := [(3, .int (nI (i + 1))), (2, .int x_89), (0, .ref (ad 100)), (1, .int wh)]) hx hb dX8_count_90 hl (k := 3) rfl (nI_1 i) (by decide) rfl (fun ls hl => ?_)
                    refine lv_goto (tgt := 58) hx hb dX8_count_93 (by decide) ?_
                    exact ih58 (i + 1) x_89 (by omega) (by omega) (by first | rw [sN, if_neg (fun h => c_69 h.1), ex_89, ek] | rw [sN, if_neg (fun h => c_80 h.2), ex_89, ek] | rw [sN, if_pos ⟨c_69, c_80⟩, ex_89, ek]) _ _ hP hD hS ls (lv_sub hl [2, 3, 1, 0] rfl)
                  · refine lv_aload_n hx hb dX8_count_72 rfl (lv_at hl 0 rfl) ?_
                    refine pv_get (ci := 10) (C := RX8) (T := TX8) (N := 34) hx hb hts hinX8 hown hK hP hM.1 eM rfl 17 (by decide) (hts (.fieldLink RX8 43 "StorageChargeModel" "to" "[I") (by decide +kernel)) (fun _ h9 => h9) rfl dX8_count_73 ?_
                    refine lv_iload_n hx hb dX8_count_76 rfl (lv_at hl 3 rfl) ?_
                    refine pv_iald hx hb hK hP j17 0 a17 rfl (k := i) rfl (by omega) (by decide) dX8_count_77 ?_
                    refine lv_ldc (v := 100000) hx hb hown (hts (.constant RX8 137 (100000)) (by decide +kernel)) dX8_count_78 ?_
                    refine lv_icmp_ne (tgt := 87) hx hb dX8_count_80 (by decide) (fun c_80 => ?_) (fun c_80 => ?_)
                    · refine lv_iconst (v := 0) hx hb dX8_count_87 (by decide) ?_
                      refine lv_iadd hx hb dX8_count_88 ?_
                      refine lv_topi (fun x_89 ex_89 => ?_)
                      refine lv_istore_n (lv' := [(2, .int x_89), (0, .ref (ad 100)), (1, .int wh), (3, .int (nI i))]) hx hb dX8_count_89 rfl hl (by decide) rfl (fun ls hl => ?_)
                      refine lv_iinc (v := nI (i + 1)) (lv' := [(3, .int (nI (i + 1))), (2, .int x_89), (0, .ref (ad 100)), (1, .int wh)]) hx hb dX8_count_90 hl (k := 3) rfl (nI_1 i) (by decide) rfl (fun ls hl => ?_)
                      refine lv_goto (tgt := 58) hx hb dX8_count_93 (by decide) ?_
                      exact ih58 (i + 1) x_89 (by omega) (by omega) (by first | rw [sN, if_neg (fun h => c_69 h.1), ex_89, ek] | rw [sN, if_neg (fun h => c_80 h.2), ex_89, ek] | rw [sN, if_pos ⟨c_69, c_80⟩, ex_89, ek]) _ _ hP hD hS ls (lv_sub hl [2, 3, 1, 0] rfl)
                    · refine lv_iconst (v := 1) hx hb dX8_count_83 (by decide) ?_
                      refine lv_goto (tgt := 88) hx hb dX8_count_84 (by decide) ?_
                      refine lv_iadd hx hb dX8_count_88 ?_
                      refine lv_topi (fun x_89 ex_89 => ?_)
                      refine lv_istore_n (lv' := [(2, .int x_89), (0, .ref (ad 100)), (1, .int wh), (3, .int (nI i))]) hx hb dX8_count_89 rfl hl (by decide) rfl (fun ls hl => ?_)
                      refine lv_iinc (v := nI (i + 1)) (lv' := [(3, .int (nI (i + 1))), (2, .int x_89), (0, .ref (ad 100)), (1, .int wh)]) hx hb dX8_count_90 hl (k := 3) rfl (nI_1 i) (by decide) rfl (fun ls hl => ?_)
                      refine lv_goto (tgt := 58) hx hb dX8_count_93 (by decide) ?_
                      exact ih58 (i + 1) x_89 (by omega) (by omega) (by first | rw [sN, if_neg (fun h => c_69 h.1), ex_89, ek] | rw [sN, if_neg (fun h => c_80 h.2), ex_89, ek] | rw [sN, if_pos ⟨c_69, c_80⟩, ex_89, ek]) _ _ hP hD hS ls (lv_sub hl [2, 3, 1, 0] rfl)
            refine lv_iconst (v := 0) hx hb dX8_count_54 (by decide) ?_
            refine lv_istore_n (lv' := [(2, .int 0), (0, .ref (ad 100)), (1, .int wh)]) hx hb dX8_count_55 rfl hl (by decide) rfl (fun ls hl => ?_)
            refine lv_iconst (v := 0) hx hb dX8_count_56 (by decide) ?_
            refine lv_istore_n (lv' := [(3, .int 0), (2, .int 0), (0, .ref (ad 100)), (1, .int wh)]) hx hb dX8_count_57 rfl hl (by decide) rfl (fun ls hl => ?_)
            exact loop58 (nu + 1) 0 0 (by omega) (by omega) rfl _ _ hP hD hS ls (lv_sub hl [2, 3, 1, 0] rfl)
          · refine lv_aload_n hx hb dX8_count_49 rfl (lv_at hl 0 rfl) ?_
            refine pv_get (ci := 10) (C := RX8) (T := TX8) (N := 34) hx hb hts hinX8 hown hK hP hM.1 eM rfl 32 (by decide) (hts (.fieldLink RX8 180 "StorageChargeModel" "printed" "I") (by decide +kernel)) (fun _ h9 => h9) rfl dX8_count_50 ?_
            refine W.widen (k := 0) (n := 0) (Nat.le_of_ble_eq_true rfl) (Nat.le_of_ble_eq_true rfl) ?_
            exact W.iret (v := nI pn) hx hb hr (fun t ht hW => ⟨⟨nI pn, wl Ls ad G_2, rfl, ⟨(by rw [c_46]; rfl), _, rfl, (ModelAt_w hM (eM.trans (by rw [← h1, ← h3, ← h14, ← h21, ← h32]; rfl)) (fun k hk => Or.inl ⟨by rw [eG_2, va_up_ne _ _ (by omega)], rfl⟩)), (fun j h9 => by rw [eG_2, va_up_ne _ _ (by omega)])⟩, by rw [ht]; exact hP, hD⟩, hS.F ht⟩) hS.2.2 dX8_count_53
        · refine lv_aload_n hx hb dX8_count_39 rfl (lv_at hl 0 rfl) ?_
          refine pv_get (ci := 10) (C := RX8) (T := TX8) (N := 34) hx hb hts hinX8 hown hK hP hM.1 eM rfl 21 (by decide) (hts (.fieldLink RX8 145 "StorageChargeModel" "moves" "I") (by decide +kernel)) (fun _ h9 => h9) rfl dX8_count_40 ?_
          refine W.widen (k := 0) (n := 0) (Nat.le_of_ble_eq_true rfl) (Nat.le_of_ble_eq_true rfl) ?_
          exact W.iret (v := nI nm) hx hb hr (fun t ht hW => ⟨⟨nI nm, wl Ls ad G_2, rfl, ⟨(by rw [c_36]; rfl), _, rfl, (ModelAt_w hM (eM.trans (by rw [← h1, ← h3, ← h14, ← h21, ← h32]; rfl)) (fun k hk => Or.inl ⟨by rw [eG_2, va_up_ne _ _ (by omega)], rfl⟩)), (fun j h9 => by rw [eG_2, va_up_ne _ _ (by omega)])⟩, by rw [ht]; exact hP, hD⟩, hS.F ht⟩) hS.2.2 dX8_count_43
      · refine lv_aload_n hx hb dX8_count_29 rfl (lv_at hl 0 rfl) ?_
        refine pv_get (ci := 10) (C := RX8) (T := TX8) (N := 34) hx hb hts hinX8 hown hK hP hM.1 eM rfl 14 (by decide) (hts (.fieldLink RX8 134 "StorageChargeModel" "units" "I") (by decide +kernel)) (fun _ h9 => h9) rfl dX8_count_30 ?_
        refine W.widen (k := 0) (n := 0) (Nat.le_of_ble_eq_true rfl) (Nat.le_of_ble_eq_true rfl) ?_
        exact W.iret (v := nI nu) hx hb hr (fun t ht hW => ⟨⟨nI nu, wl Ls ad G_2, rfl, ⟨(by rw [c_26]; rfl), _, rfl, (ModelAt_w hM (eM.trans (by rw [← h1, ← h3, ← h14, ← h21, ← h32]; rfl)) (fun k hk => Or.inl ⟨by rw [eG_2, va_up_ne _ _ (by omega)], rfl⟩)), (fun j h9 => by rw [eG_2, va_up_ne _ _ (by omega)])⟩, by rw [ht]; exact hP, hD⟩, hS.F ht⟩) hS.2.2 dX8_count_33
    · refine lv_aload_n hx hb dX8_count_19 rfl (lv_at hl 0 rfl) ?_
      refine pv_get (ci := 10) (C := RX8) (T := TX8) (N := 34) hx hb hts hinX8 hown hK hP hM.1 eM rfl 3 (by decide) (hts (.fieldLink RX8 124 "StorageChargeModel" "lines" "I") (by decide +kernel)) (fun _ h9 => h9) rfl dX8_count_20 ?_
      refine W.widen (k := 0) (n := 0) (Nat.le_of_ble_eq_true rfl) (Nat.le_of_ble_eq_true rfl) ?_
      exact W.iret (v := nI nl) hx hb hr (fun t ht hW => ⟨⟨nI nl, wl Ls ad G_2, rfl, ⟨(by rw [c_16]; rfl), _, rfl, (ModelAt_w hM (eM.trans (by rw [← h1, ← h3, ← h14, ← h21, ← h32]; rfl)) (fun k hk => Or.inl ⟨by rw [eG_2, va_up_ne _ _ (by omega)], rfl⟩)), (fun j h9 => by rw [eG_2, va_up_ne _ _ (by omega)])⟩, by rw [ht]; exact hP, hD⟩, hS.F ht⟩) hS.2.2 dX8_count_23
  · refine lv_aload_n hx hb dX8_count_9 rfl (lv_at hl 0 rfl) ?_
    refine pv_get (ci := 10) (C := RX8) (T := TX8) (N := 34) hx hb hts hinX8 hown hK hP hM.1 eM rfl 1 (by decide) (hts (.fieldLink RX8 94 "StorageChargeModel" "signs" "I") (by decide +kernel)) (fun _ h9 => h9) rfl dX8_count_10 ?_
    refine W.widen (k := 0) (n := 0) (Nat.le_of_ble_eq_true rfl) (Nat.le_of_ble_eq_true rfl) ?_
    exact W.iret (v := nI sg) hx hb hr (fun t ht hW => ⟨⟨nI sg, wl Ls ad G_2, rfl, ⟨(by rw [c_6]; rfl), _, rfl, (ModelAt_w hM (eM.trans (by rw [← h1, ← h3, ← h14, ← h21, ← h32]; rfl)) (fun k hk => Or.inl ⟨by rw [eG_2, va_up_ne _ _ (by omega)], rfl⟩)), (fun j h9 => by rw [eG_2, va_up_ne _ _ (by omega)])⟩, by rw [ht]; exact hP, hD⟩, hS.F ht⟩) hS.2.2 dX8_count_13

/-- so much is printed: L from the place pn on -/
abbrev PrM (y : Nat → ClassId) (Ls : List Nat) (ad : Nat → Nat) (G : Nat → va_E) (F : Nat → Int32) (A : Nat → Nat → Int32) (L : List Int32) : Prop := ModelAt y Ls ad G (va_up F 32 (nI L.length)) (va_up A 33 (wrL (A 33) 0 L))
def pI : Nat → Int32
  | 0 => 0
  | k + 1 => nI (10 ^ k)
theorem p10 {k : Nat} (h : k ≤ 9) : 10 ^ k < 2 ^ 31 := Nat.lt_of_le_of_lt (Nat.pow_le_pow_right (by decide) h) (by decide)
theorem pI_div {k : Nat} (h : k ≤ 9) : nI (10 ^ k) / 10 = pI k := by
  rw [show (10 : Int32) = nI 10 from rfl, pk_div (p10 h) (by decide) (by decide)]
  cases k with
  | zero => rfl
  | succ k => rw [Nat.pow_succ, Nat.mul_div_cancel _ (by decide)]; rfl
theorem pI_pos {k : Nat} (h : k ≤ 10) (hk : ¬ pI k ≤ 0) : ∃ j, k = j + 1 := by
  cases k with
  | zero => exact absurd (by decide) hk
  | succ k => exact ⟨k, rfl⟩
theorem pI_0 {k : Nat} (h : k ≤ 10) (hk : pI k ≤ 0) : k = 0 := by
  cases k with
  | zero => rfl
  | succ k => exact absurd hk (nI_ge (a := 0) (Nat.pow_pos (by decide)) (p10 (by omega)))
theorem pI_ne {k : Nat} (h : k ≤ 9) : ¬ pI (k + 1) = 0 := fun e => absurd ((nI_eq (b := 0) (p10 h) (by decide)).mp e) (Nat.ne_of_gt (Nat.pow_pos (by decide)))
theorem dgR_skip {z k : Nat} (hz : z < 10 ^ (k + 1)) : ∀ j, dgR z (k + 1 + j) = dgR z (k + 1)
  | 0 => rfl
  | j + 1 => by
    rw [← Nat.add_assoc, dgR, if_neg, dgR_skip hz j]
    rintro (h | h)
    · have : 10 ^ (k + 1) ≤ 10 ^ (k + 1 + j) := Nat.pow_le_pow_right (by decide) (by omega)
      omega
    · omega
theorem dg_val {z k : Nat} (hz : z < 10 ^ 8) (hk : k ≤ 8) : 48 + (nI z / pI (k + 1) - nI z / pI (k + 1) / 10 * 10) = nI (48 + z / 10 ^ k % 10) := by
  have hz2 : z < 2 ^ 31 := by omega
  have h1 : nI z / pI (k + 1) = nI (z / 10 ^ k) := pk_div hz2 (Nat.pow_pos (by decide)) (p10 (by omega))
  have h2 : z / 10 ^ k < 2 ^ 31 := Nat.lt_of_le_of_lt (Nat.div_le_self _ _) hz2
  rw [h1, show (10 : Int32) = nI 10 from rfl, pk_rem h2 (by decide) (by decide), show (48 : Int32) = nI 48 from rfl, nI_add]
theorem dg_9 {z k : Nat} (hz : z < 10 ^ 8) (hk : k ≤ 8) : nI z / nI (10 ^ k) ≤ 9 ↔ z < 10 ^ (k + 1) := by
  have hz2 : z < 2 ^ 31 := by omega
  have h2 : z / 10 ^ k < 2 ^ 31 := Nat.lt_of_le_of_lt (Nat.div_le_self _ _) hz2
  rw [pk_div hz2 (Nat.pow_pos (by decide)) (p10 (by omega)), show (9 : Int32) = nI 9 from rfl, nI_leI h2 (by decide), Nat.pow_succ]
  constructor
  · intro h
    have := Nat.lt_mul_div_succ z (Nat.pow_pos (by decide) : 0 < 10 ^ k)
    have h3 : 10 ^ k * (z / 10 ^ k + 1) ≤ 10 ^ k * 10 := Nat.mul_le_mul_left _ (by omega)
    omega
  · intro h
    exact Nat.le_of_lt_succ (Nat.div_lt_of_lt_mul h)
theorem neg_nI {z : Nat} (h : z < 2 ^ 30) (h0 : 0 < z) : (-nI z) < 0 := by
  rw [Int32.lt_iff_toInt_lt, Int32.toInt_neg, nI_toInt (by omega), Int.bmod_eq_of_le (by omega) (by omega)]
  show -(z : Int) < 0
  omega
theorem i_neg_neg (x : Int32) : - -x = x := Int32.neg_neg

set_option maxHeartbeats 4000000 in
set_option maxRecDepth 100000 in
/-- put -/
theorem c_X8_put (l : Launch) (hl0 : l.stackTraces = false) (D : va_G) (y : Nat → ClassId) (b0 : Nat) (Ls : List Nat) (ad : Nat → Nat) (G : Nat → va_E) (F : Nat → Int32) (A : Nat → Nat → Int32) (L : List Int32) (hM : PrM y Ls ad G F A L) (hroom : L.length < 9000) (c0 : Int32) : Met l yX8_put wsX8_put ({ frames := 0, cells := 0, slots := 0, locals := 0 }) (va_Pc [.ref (ad 100), .int c0] (WdM D y b0 (wl Ls ad G))) (va_Qv (fun (u : va_W) => ∃ G2, u = wl Ls ad G2 ∧ PrM y Ls ad G2 F A (L ++ [c0]) ∧ (∀ j, (j < 100 ∨ 134 < j) → G2 j = G j)) (WB D b0) (fun q => b0 ≤ q)) 0 0 (fun q => b0 ≤ q) := by
  refine Met.ofW (cc := cX8_put) (maxL := 2) (ret := none) (by decide) rfl ?_
  intro p e s m args below meth c s₁ B hml hv
  obtain ⟨rfl, ⟨hP, hK, hN⟩, hD, hb0, hT⟩ := hv
  have hx := B.exec
  have hb := B.bytes
  have hr := B.returns
  have hts := atoms_spec (ws := wsX8_put) B.pre
  have hown : s.vm.findClass RX8 = some m.cls := findClass_of_methodNamed B.named
  have hlocks := B.notSynchronized
  have hS : va_S (fun q => b0 ≤ q) s.heap s.heap [] := va_S.rf
  have hinX8 : ∀ w ∈ wsX80, w ∈ wsX8_put := by decide +kernel
  have eM : G 100 = .inr (10, [.int (F 0), .int (F 1), .ref (ad 103), .int (F 3), .ref (ad 105), .ref (ad 106), .ref (ad 107), .ref (ad 108), .int (F 8), .ref (ad 110), .ref (ad 111), .ref (ad 112), .ref (ad 113), .int (F 13), .int (F 14), .ref (ad 116), .ref (ad 117), .ref (ad 118), .ref (ad 119), .ref (ad 120), .ref (ad 121), .int (F 21), .ref (ad 123), .ref (ad 124), .ref (ad 125), .ref (ad 126), .int (F 26), .ref (ad 128), .ref (ad 129), .ref (ad 130), .ref (ad 131), .ref (ad 132), .int (nI L.length), .ref (ad 134)]) := hM.2.1
  obtain ⟨j33, a33⟩ : 134 ∈ Ls ∧ G 134 = .inl (y 0, 9000, .inl (wrL (A 33) 0 L)) := hM.2.2 33 (by decide)
  have hl := lv_entry ([.ref (ad 100), .int c0]) (n := 2) (Nat.le_of_ble_eq_true rfl)
  rw [lg_entry_eq]
  generalize (lg_sl ([.ref (ad 100), .int c0]) ++ List.replicate (2 - (lg_sl ([.ref (ad 100), .int c0])).length) Slot.unset).toArray = ls at hl ⊢
  have hl : lv_has ls 2 [(0, .ref (ad 100)), (1, .int c0)] := hl
  refine lv_aload_n hx hb dX8_put_0 rfl (lv_at hl 0 rfl) ?_
  refine pv_get (ci := 10) (C := RX8) (T := TX8) (N := 34) hx hb hts hinX8 hown hK hP hM.1 eM rfl 33 (by decide) (hts (.fieldLink RX8 83 "StorageChargeModel" "print" "[I") (by decide +kernel)) (fun _ h9 => h9) rfl dX8_put_1 ?_
  refine lv_aload_n hx hb dX8_put_4 rfl (lv_at hl 0 rfl) ?_
  refine pv_get (ci := 10) (C := RX8) (T := TX8) (N := 34) hx hb hts hinX8 hown hK hP hM.1 eM rfl 32 (by decide) (hts (.fieldLink RX8 180 "StorageChargeModel" "printed" "I") (by decide +kernel)) (fun _ h9 => h9) rfl dX8_put_5 ?_
  refine lv_iload_n hx hb dX8_put_8 rfl (lv_at hl 1 rfl) ?_
  refine pv_iast hx hb hK hP hD hS j33 0 a33 rfl (k := L.length) rfl (by omega) (by decide) dX8_put_9 (fun H locs hP hD hS => ?_)
  obtain ⟨G_9, eG_9⟩ : ∃ gg9 : Nat → va_E, gg9 = va_up G 134 (.inl (y 0, 9000, .inl (upd (wrL (A 33) 0 L) L.length c0))) := ⟨_, rfl⟩
  have hP : va_P D vwCl (wl Ls ad G_9) H := by rw [eG_9]; exact hP
  have hD : va_D (fun q => b0 ≤ q) (wl Ls ad G_9) := by rw [eG_9]; exact hD
  have eM : G_9 100 = .inr (10, [.int (F 0), .int (F 1), .ref (ad 103), .int (F 3), .ref (ad 105), .ref (ad 106), .ref (ad 107), .ref (ad 108), .int (F 8), .ref (ad 110), .ref (ad 111), .ref (ad 112), .ref (ad 113), .int (F 13), .int (F 14), .ref (ad 116), .ref (ad 117), .ref (ad 118), .ref (ad 119), .ref (ad 120), .ref (ad 121), .int (F 21), .ref (ad 123), .ref (ad 124), .ref (ad 125), .ref (ad 126), .int (F 26), .ref (ad 128), .ref (ad 129), .ref (ad 130), .ref (ad 131), .ref (ad 132), .int (nI L.length), .ref (ad 134)]) := by rw [eG_9, va_up_ne _ _ (by omega)]; exact eM
  have a33 : G_9 134 = .inl (y 0, 9000, .inl (upd (wrL (A 33) 0 L) L.length c0)) := by rw [eG_9]; exact va_up_self _ _ _
  refine lv_aload_n hx hb dX8_put_10 rfl (lv_at hl 0 rfl) ?_
  refine lv_dup hx hb dX8_put_11 rfl ?_
  refine pv_get (ci := 10) (C := RX8) (T := TX8) (N := 34) hx hb hts hinX8 hown hK hP hM.1 eM rfl 32 (by decide) (hts (.fieldLink RX8 180 "StorageChargeModel" "printed" "I") (by decide +kernel)) (fun _ h9 => h9) rfl dX8_put_12 ?_
  refine lv_iconst (v := 1) hx hb dX8_put_15 (by decide) ?_
  refine lv_iadd hx hb dX8_put_16 ?_
  refine lv_topi (fun z9 ez9 => ?_)
  obtain rfl : z9 = nI (L ++ [c0]).length := ez9.trans (by rw [List.length_append]; exact nI_1 _)
  refine pv_put (ci := 10) (v := .int (nI (L ++ [c0]).length)) (ty := .int) (C := RX8) (T := TX8) (N := 34) hx hb hts hinX8 tyX8 tyX8_ok nmX8 hown hK hP hD hS hM.1 eM rfl 32 (by decide) (hts (.fieldLink RX8 180 "StorageChargeModel" "printed" "I") (by decide +kernel)) (fun _ h9 => h9) rfl (by decide +kernel) rfl rfl (Nat.le_of_ble_eq_true rfl) dX8_put_17 (fun H locs hP hD hS => ?_)
  obtain ⟨G_17, eG_17⟩ : ∃ gg9 : Nat → va_E, gg9 = va_up G_9 100 (.inr (10, [.int (F 0), .int (F 1), .ref (ad 103), .int (F 3), .ref (ad 105), .ref (ad 106), .ref (ad 107), .ref (ad 108), .int (F 8), .ref (ad 110), .ref (ad 111), .ref (ad 112), .ref (ad 113), .int (F 13), .int (F 14), .ref (ad 116), .ref (ad 117), .ref (ad 118), .ref (ad 119), .ref (ad 120), .ref (ad 121), .int (F 21), .ref (ad 123), .ref (ad 124), .ref (ad 125), .ref (ad 126), .int (F 26), .ref (ad 128), .ref (ad 129), .ref (ad 130), .ref (ad 131), .ref (ad 132), .int (nI (L ++ [c0]).length), .ref (ad 134)])) := ⟨_, rfl⟩
  have hP : va_P D vwCl (wl Ls ad G_17) H := by rw [eG_17]; exact hP
  have hD : va_D (fun q => b0 ≤ q) (wl Ls ad G_17) := by rw [eG_17]; exact hD
  have a33 : G_17 134 = .inl (y 0, 9000, .inl (upd (wrL (A 33) 0 L) L.length c0)) := by rw [eG_17, va_up_ne _ _ (by omega)]; exact a33
  have eM : G_17 100 = .inr (10, [.int (F 0), .int (F 1), .ref (ad 103), .int (F 3), .ref (ad 105), .ref (ad 106), .ref (ad 107), .ref (ad 108), .int (F 8), .ref (ad 110), .ref (ad 111), .ref (ad 112), .ref (ad 113), .int (F 13), .int (F 14), .ref (ad 116), .ref (ad 117), .ref (ad 118), .ref (ad 119), .ref (ad 120), .ref (ad 121), .int (F 21), .ref (ad 123), .ref (ad 124), .ref (ad 125), .ref (ad 126), .int (F 26), .ref (ad 128), .ref (ad 129), .ref (ad 130), .ref (ad 131), .ref (ad 132), .int (nI (L ++ [c0]).length), .ref (ad 134)]) := by rw [eG_17]; exact va_up_self _ _ _
  refine W.widen (k := 0) (n := 0) (Nat.le_of_ble_eq_true rfl) (Nat.le_of_ble_eq_true rfl) ?_
  exact W.vret hx hb hr (fun t ht hW => ⟨⟨wl Ls ad G_17, rfl, ⟨_, rfl, ModelAt_w hM eM (fun k hk => if h339 : k = 33 then Or.inr (by subst h339; show _ = Sum.inl (y 0, 9000, Sum.inl (wrL (A 33) 0 (L ++ [c0]))); rw [wrL_app, Nat.zero_add]; exact a33) else Or.inl ⟨by rw [eG_17, va_up_ne _ _ (by omega), eG_9, va_up_ne _ _ (by omega)], by rw [va_up_ne _ _ h339, va_up_ne _ _ h339]⟩), (fun j h9 => by rw [eG_17, va_up_ne _ _ (by omega), eG_9, va_up_ne _ _ (by omega)])⟩, by rw [ht]; exact hP, hD⟩, hS.F ht⟩) hS.2.2 dX8_put_20

theorem nI_mul (a b : Nat) : nI a * nI b = nI (a * b) := pk_mul a b

set_option maxHeartbeats 4000000 in
set_option maxRecDepth 100000 in
/-- putNumber -/
theorem c_X8_putNumber (l : Launch) (hl0 : l.stackTraces = false) (D : va_G) (y : Nat → ClassId) (b0 : Nat) (Ls : List Nat) (ad : Nat → Nat) (G : Nat → va_E) (F : Nat → Int32) (A : Nat → Nat → Int32) (L : List Int32) (hM : PrM y Ls ad G F A L) (v : Int32) (z : Nat) (hz : z < 10 ^ 8) (hv : v = nI z ∨ (0 < z ∧ v = -nI z)) (hroom : L.length + (numC v z).length ≤ 9000) : Met l yX8_putNumber wsX8_putNumber ({ frames := 1, cells := 0, slots := 0, locals := 21 }) (va_Pc [.ref (ad 100), .int v] (WdM D y b0 (wl Ls ad G))) (va_Qv (fun (u : va_W) => ∃ G2, u = wl Ls ad G2 ∧ PrM y Ls ad G2 F A (L ++ numC v z) ∧ (∀ j, (j < 100 ∨ 134 < j) → G2 j = G j)) (WB D b0) (fun q => b0 ≤ q)) 0 0 (fun q => b0 ≤ q) := by
  refine Met.ofW (cc := cX8_putNumber) (maxL := 4) (ret := none) (by decide) rfl ?_
  intro p e s m args below meth c s₁ B hml hv
  obtain ⟨rfl, ⟨hP, hK, hN⟩, hD, hb0, hT⟩ := hv
  have hx := B.exec
  have hb := B.bytes
  have hr := B.returns
  have hts := atoms_spec (ws := wsX8_putNumber) B.pre
  have hown : s.vm.findClass RX8 = some m.cls := findClass_of_methodNamed B.named
  have hlocks := B.notSynchronized
  have hS : va_S (fun q => b0 ≤ q) s.heap s.heap [] := va_S.rf
  have eM : G 100 = .inr (10, [.int (F 0), .int (F 1), .ref (ad 103), .int (F 3), .ref (ad 105), .ref (ad 106), .ref (ad 107), .ref (ad 108), .int (F 8), .ref (ad 110), .ref (ad 111), .ref (ad 112), .ref (ad 113), .int (F 13), .int (F 14), .ref (ad 116), .ref (ad 117), .ref (ad 118), .ref (ad 119), .ref (ad 120), .ref (ad 121), .int (F 21), .ref (ad 123), .ref (ad 124), .ref (ad 125), .ref (ad 126), .int (F 26), .ref (ad 128), .ref (ad 129), .ref (ad 130), .ref (ad 131), .ref (ad 132), .int (nI L.length), .ref (ad 134)]) := hM.2.1
  have hn1 : 2 ≤ (numC v z).length := by
    have h9 : 1 ≤ (dgR z 10).length := dgR_1 z 9
    rw [numC]; split <;> simp only [List.length_cons] <;> omega
  have hn3 : v < 0 → 3 ≤ (numC v z).length := fun h => by
    have h9 : 1 ≤ (dgR z 10).length := dgR_1 z 9
    rw [numC, if_pos h]; simp only [List.length_cons]; omega
  have loop45 : ∀ (n : Nat) (k : Nat) (Lx : List Int32) (G1 : Nat → va_E), k ≤ 9 → k < n → (10 ^ (k - 1) ≤ z ∨ k ≤ 1) → Lx ++ dgR z k = L ++ numC v z → PrM y Ls ad G1 F A Lx → (∀ j, (j < 100 ∨ 134 < j) → G1 j = G j) → ∀ (H : Heap) (locs : List Loc), va_P D vwCl (wl Ls ad G1) H → va_D (fun q => b0 ≤ q) (wl Ls ad G1) → va_S (fun q => b0 ≤ q) s.heap H locs → ∀ ls : Array Slot, lv_has ls 4 [(0, .ref (ad 100)), (2, .int (nI z)), (3, .int (pI k))] → W p l e (headSpec wsX8_putNumber ({ frames := 1, cells := 0, slots := 0, locals := 21 })).room s m ([.ref (ad 100), .int v] : List Value).toArray below meth c H locs 0 0 (MQ below (va_Qv (fun (u : va_W) => ∃ G2, u = wl Ls ad G2 ∧ PrM y Ls ad G2 F A (L ++ numC v z) ∧ (∀ j, (j < 100 ∨ 134 < j) → G2 j = G j)) (WB D b0) (fun q => b0 ≤ q)) ([.ref (ad 100), .int v] : List Value).toArray s 0 0 (fun q => b0 ≤ q)) (F0 m 45 ls []) := by
    intro n
    induction n with
    | zero =>
      intro k Lx G1 hk hn; exact absurd hn (Nat.not_lt_zero _)
    | succ n ih45 =>
      intro k Lx G1 hk hn hkz hLx hM1 hfr1 H locs hP hD hS ls hl
      have eM : G1 100 = .inr (10, [.int (F 0), .int (F 1), .ref (ad 103), .int (F 3), .ref (ad 105), .ref (ad 106), .ref (ad 107), .ref (ad 108), .int (F 8), .ref (ad 110), .ref (ad 111), .ref (ad 112), .ref (ad 113), .int (F 13), .int (F 14), .ref (ad 116), .ref (ad 117), .ref (ad 118), .ref (ad 119), .ref (ad 120), .ref (ad 121), .int (F 21), .ref (ad 123), .ref (ad 124), .ref (ad 125), .ref (ad 126), .int (F 26), .ref (ad 128), .ref (ad 129), .ref (ad 130), .ref (ad 131), .ref (ad 132), .int (nI Lx.length), .ref (ad 134)]) := hM1.2.1
      refine lv_iload_n hx hb dX8_putNumber_45 rfl (lv_at hl 2 rfl) ?_
      refine lv_if_le (tgt := 70) hx hb dX8_putNumber_46 (by decide) (fun c_46 => ?_) (fun c_46 => ?_)
      · obtain rfl := pI_0 (by omega) c_46
        refine W.widen (k := 0) (n := 0) (Nat.le_of_ble_eq_true rfl) (Nat.le_of_ble_eq_true rfl) ?_
        exact W.vret hx hb hr (fun t ht hW => ⟨⟨wl Ls ad G1, rfl, ⟨G1, rfl, by rw [← hLx, dgR, List.append_nil]; exact hM1, hfr1⟩, by rw [ht]; exact hP, hD⟩, hS.F ht⟩) hS.2.2 dX8_putNumber_70
      · obtain ⟨j, rfl⟩ := pI_pos (by omega) c_46
        have hc9 : 10 ^ j ≤ z ∨ j = 0 := by rcases hkz with h | h; exact Or.inl h; exact Or.inr (by omega)
        have hkj : 10 ^ (j - 1) ≤ z ∨ j ≤ 1 := by
          rcases hc9 with h | h
          · exact Or.inl (Nat.le_trans (Nat.pow_le_pow_right (by decide) (by omega)) h)
          · exact Or.inr (by omega)
        have hLj : Lx ++ [nI (48 + z / 10 ^ j % 10)] ++ dgR z j = L ++ numC v z := by
          rw [← hLx, dgR, if_pos hc9, List.append_assoc]; rfl
        refine lv_aload_n hx hb dX8_putNumber_49 rfl (lv_at hl 0 rfl) ?_
        refine lv_bipush (v := 48) hx hb dX8_putNumber_50 (by decide) ?_
        refine lv_iload_n hx hb dX8_putNumber_52 rfl (lv_at hl 1 rfl) ?_
        refine lv_iload_n hx hb dX8_putNumber_53 rfl (lv_at hl 2 rfl) ?_
        refine lv_idiv hx hb dX8_putNumber_54 (pI_ne (by omega)) ?_
        refine lv_bipush (v := 10) hx hb dX8_putNumber_55 (by decide) ?_
        refine lv_irem hx hb dX8_putNumber_57 (by decide) ?_
        refine lv_iadd hx hb dX8_putNumber_58 ?_
        refine lv_topi (fun z9 ez9 => ?_)
        obtain rfl : z9 = nI (48 + z / 10 ^ j % 10) := ez9.trans (dg_val hz (by omega))
        refine va_callv (va_runV (As := [.int (nI (48 + z / 10 ^ j % 10))]) (rest := []) ⟨hx, hb, hml, hown, hts⟩ (c_X8_put l hl0 D y b0 Ls ad G1 F A (Lx) hM1 (by have h9 := congrArg List.length hLj; simp only [List.length_append, List.length_singleton] at h9; omega) (nI (48 + z / 10 ^ j % 10))) (cwV 1 hts gX8_putNumber_X8_put rfl rfl rfl (by decide +kernel) ⟨(Nat.le_of_ble_eq_true rfl), (Nat.le_of_ble_eq_true rfl)⟩) ⟨WdM_blind, Wd_recv hK hP (ci := 10) rfl hM.1 eM, WdM_at hP hK hN hD hS hb0 hT⟩ rfl rfl hl.1 rfl (lv_room (Nat.le_of_ble_eq_true rfl)) dX8_putNumber_59 ⟨(Nat.le_of_ble_eq_true rfl), (Nat.le_of_ble_eq_true rfl)⟩) hS (fun _ _ h => h) (fun _ h => h) (fun u59 t H locs ht hvm hw59 hB hz1 hk1 hS => ?_)
        obtain ⟨hP, hD⟩ := hB
        rw [ht] at hP
        obtain ⟨g59, rfl, hM59, hfr59⟩ := hw59
        have hfr59 : ∀ j, (j < 100 ∨ 134 < j) → g59 j = G j := fun j h9 => (hfr59 j h9).trans (hfr1 j h9)
        have eM : g59 100 = .inr (10, [.int (F 0), .int (F 1), .ref (ad 103), .int (F 3), .ref (ad 105), .ref (ad 106), .ref (ad 107), .ref (ad 108), .int (F 8), .ref (ad 110), .ref (ad 111), .ref (ad 112), .ref (ad 113), .int (F 13), .int (F 14), .ref (ad 116), .ref (ad 117), .ref (ad 118), .ref (ad 119), .ref (ad 120), .ref (ad 121), .int (F 21), .ref (ad 123), .ref (ad 124), .ref (ad 125), .ref (ad 126), .int (F 26), .ref (ad 128), .ref (ad 129), .ref (ad 130), .ref (ad 131), .ref (ad 132), .int (nI (Lx ++ [nI (48 + z / 10 ^ j % 10)]).length), .ref (ad 134)]) := hM59.2.1
        refine lv_iload_n hx hb dX8_putNumber_62 rfl (lv_at hl 2 rfl) ?_
        refine lv_bipush (v := 10) hx hb dX8_putNumber_63 (by decide) ?_
        refine lv_idiv hx hb dX8_putNumber_65 (by decide) ?_
        refine lv_topi (fun z9 ez9 => ?_)
        obtain rfl : z9 = pI j := ez9.trans (pI_div (by omega))
        refine lv_istore_n (lv' := [(3, .int (pI j)), (0, .ref (ad 100)), (2, .int (nI z))]) hx hb dX8_putNumber_66 rfl hl (by decide) rfl (fun ls hl => ?_)
        refine lv_goto (tgt := 45) hx hb dX8_putNumber_67 (by decide) ?_
        exact ih45 j (Lx ++ [nI (48 + z / 10 ^ j % 10)]) g59 (by omega) (by omega) hkj hLj hM59 hfr59 _ _ hP hD hS ls (lv_sub hl [1, 2, 0] rfl)
  have loop29 : ∀ (n : Nat) (k : Nat) (Lx : List Int32) (G1 : Nat → va_E), k ≤ 8 → 8 < k + n → (10 ^ k ≤ z ∨ k = 0) → Lx ++ dgR z 10 = L ++ numC v z → PrM y Ls ad G1 F A Lx → (∀ j, (j < 100 ∨ 134 < j) → G1 j = G j) → ∀ (H : Heap) (locs : List Loc), va_P D vwCl (wl Ls ad G1) H → va_D (fun q => b0 ≤ q) (wl Ls ad G1) → va_S (fun q => b0 ≤ q) s.heap H locs → ∀ ls : Array Slot, lv_has ls 4 [(0, .ref (ad 100)), (2, .int (nI z)), (3, .int (nI (10 ^ k)))] → W p l e (headSpec wsX8_putNumber ({ frames := 1, cells := 0, slots := 0, locals := 21 })).room s m ([.ref (ad 100), .int v] : List Value).toArray below meth c H locs 0 0 (MQ below (va_Qv (fun (u : va_W) => ∃ G2, u = wl Ls ad G2 ∧ PrM y Ls ad G2 F A (L ++ numC v z) ∧ (∀ j, (j < 100 ∨ 134 < j) → G2 j = G j)) (WB D b0) (fun q => b0 ≤ q)) ([.ref (ad 100), .int v] : List Value).toArray s 0 0 (fun q => b0 ≤ q)) (F0 m 29 ls []) := by
    intro n
    induction n with
    | zero =>
      intro k Lx G1 hk hn; exact absurd hn (by omega)
    | succ n ih29 =>
      intro k Lx G1 hk hn hkz hLx hM1 hfr1 H locs hP hD hS ls hl
      have eM : G1 100 = .inr (10, [.int (F 0), .int (F 1), .ref (ad 103), .int (F 3), .ref (ad 105), .ref (ad 106), .ref (ad 107), .ref (ad 108), .int (F 8), .ref (ad 110), .ref (ad 111), .ref (ad 112), .ref (ad 113), .int (F 13), .int (F 14), .ref (ad 116), .ref (ad 117), .ref (ad 118), .ref (ad 119), .ref (ad 120), .ref (ad 121), .int (F 21), .ref (ad 123), .ref (ad 124), .ref (ad 125), .ref (ad 126), .int (F 26), .ref (ad 128), .ref (ad 129), .ref (ad 130), .ref (ad 131), .ref (ad 132), .int (nI Lx.length), .ref (ad 134)]) := hM1.2.1
      refine lv_iload_n hx hb dX8_putNumber_29 rfl (lv_at hl 1 rfl) ?_
      refine lv_iload_n hx hb dX8_putNumber_30 rfl (lv_at hl 2 rfl) ?_
      refine lv_idiv hx hb dX8_putNumber_31 (fun e => absurd ((nI_eq (b := 0) (p10 (by omega)) (by decide)).mp e) (Nat.ne_of_gt (Nat.pow_pos (by decide)))) ?_
      refine lv_bipush (v := 9) hx hb dX8_putNumber_32 (by decide) ?_
      refine lv_icmp_le (tgt := 45) hx hb dX8_putNumber_34 (by decide) (fun c_34 => ?_) (fun c_34 => ?_)
      · have hzs : z < 10 ^ (k + 1) := (dg_9 hz hk).mp c_34
        exact loop45 11 (k + 1) Lx G1 (by omega) (by omega) (by rcases hkz with h | h; exact Or.inl h; exact Or.inr (by omega)) (by have h9 := dgR_skip hzs (9 - k); rw [show k + 1 + (9 - k) = 10 by omega] at h9; rw [← h9]; exact hLx) hM1 hfr1 _ _ hP hD hS ls (lv_sub hl [0, 1, 2] rfl)
      · have hz9 : 10 ^ (k + 1) ≤ z := Nat.le_of_not_lt fun h => c_34 ((dg_9 hz hk).mpr h)
        have hk8 : k + 1 ≤ 8 := by
          have h9 : k + 1 < 8 := (Nat.pow_lt_pow_iff_right (by decide : 1 < 10)).mp (Nat.lt_of_le_of_lt hz9 hz)
          omega
        refine lv_iload_n hx hb dX8_putNumber_37 rfl (lv_at hl 2 rfl) ?_
        refine lv_bipush (v := 10) hx hb dX8_putNumber_38 (by decide) ?_
        refine lv_imul hx hb dX8_putNumber_40 ?_
        refine lv_topi (fun z9 ez9 => ?_)
        obtain rfl : z9 = nI (10 ^ (k + 1)) := ez9.trans (by rw [Nat.pow_succ, ← nI_mul]; rfl)
        refine lv_istore_n (lv' := [(3, .int (nI (10 ^ (k + 1)))), (0, .ref (ad 100)), (2, .int (nI z))]) hx hb dX8_putNumber_41 rfl hl (by decide) rfl (fun ls hl => ?_)
        refine lv_goto (tgt := 29) hx hb dX8_putNumber_42 (by decide) ?_
        exact ih29 (k + 1) Lx G1 hk8 (by omega) (Or.inl hz9) hLx hM1 hfr1 _ _ hP hD hS ls (lv_sub hl [1, 2, 0] rfl)
  have loop27 : ∀ (n : Nat) (Lx : List Int32) (G1 : Nat → va_E), 0 < n → Lx ++ dgR z 10 = L ++ numC v z → PrM y Ls ad G1 F A Lx → (∀ j, (j < 100 ∨ 134 < j) → G1 j = G j) → ∀ (H : Heap) (locs : List Loc), va_P D vwCl (wl Ls ad G1) H → va_D (fun q => b0 ≤ q) (wl Ls ad G1) → va_S (fun q => b0 ≤ q) s.heap H locs → ∀ ls : Array Slot, lv_has ls 4 [(0, .ref (ad 100)), (2, .int (nI z))] → W p l e (headSpec wsX8_putNumber ({ frames := 1, cells := 0, slots := 0, locals := 21 })).room s m ([.ref (ad 100), .int v] : List Value).toArray below meth c H locs 0 0 (MQ below (va_Qv (fun (u : va_W) => ∃ G2, u = wl Ls ad G2 ∧ PrM y Ls ad G2 F A (L ++ numC v z) ∧ (∀ j, (j < 100 ∨ 134 < j) → G2 j = G j)) (WB D b0) (fun q => b0 ≤ q)) ([.ref (ad 100), .int v] : List Value).toArray s 0 0 (fun q => b0 ≤ q)) (F0 m 27 ls []) := by
    intro n
    induction n with
    | zero =>
      intro Lx G1 hn; exact absurd hn (by decide)
    | succ n ih27 =>
      intro Lx G1 hn hLx hM1 hfr1 H locs hP hD hS ls hl
      have eM : G1 100 = .inr (10, [.int (F 0), .int (F 1), .ref (ad 103), .int (F 3), .ref (ad 105), .ref (ad 106), .ref (ad 107), .ref (ad 108), .int (F 8), .ref (ad 110), .ref (ad 111), .ref (ad 112), .ref (ad 113), .int (F 13), .int (F 14), .ref (ad 116), .ref (ad 117), .ref (ad 118), .ref (ad 119), .ref (ad 120), .ref (ad 121), .int (F 21), .ref (ad 123), .ref (ad 124), .ref (ad 125), .ref (ad 126), .int (F 26), .ref (ad 128), .ref (ad 129), .ref (ad 130), .ref (ad 131), .ref (ad 132), .int (nI Lx.length), .ref (ad 134)]) := hM1.2.1
      refine lv_iconst (v := 1) hx hb dX8_putNumber_27 (by decide) ?_
      refine lv_istore_n (lv' := [(3, .int 1), (0, .ref (ad 100)), (2, .int (nI z))]) hx hb dX8_putNumber_28 rfl hl (by decide) rfl (fun ls hl => ?_)
      exact loop29 9 0 Lx G1 (by decide) (by decide) (Or.inr rfl) hLx hM1 hfr1 _ _ hP hD hS ls (lv_sub hl [1, 2, 0] rfl)
  have hl := lv_entry ([.ref (ad 100), .int v]) (n := 4) (Nat.le_of_ble_eq_true rfl)
  rw [lg_entry_eq]
  generalize (lg_sl ([.ref (ad 100), .int v]) ++ List.replicate (4 - (lg_sl ([.ref (ad 100), .int v])).length) Slot.unset).toArray = ls at hl ⊢
  have hl : lv_has ls 4 [(0, .ref (ad 100)), (1, .int v)] := hl
  refine lv_aload_n hx hb dX8_putNumber_0 rfl (lv_at hl 0 rfl) ?_
  refine lv_bipush (v := 32) hx hb dX8_putNumber_1 (by decide) ?_
  refine va_callv (va_runV (As := [.int 32]) (rest := []) ⟨hx, hb, hml, hown, hts⟩ (c_X8_put l hl0 D y b0 Ls ad G F A (L) hM (by omega) (32)) (cwV 1 hts gX8_putNumber_X8_put rfl rfl rfl (by decide +kernel) ⟨(Nat.le_of_ble_eq_true rfl), (Nat.le_of_ble_eq_true rfl)⟩) ⟨WdM_blind, Wd_recv hK hP (ci := 10) rfl hM.1 eM, WdM_at hP hK hN hD hS hb0 hT⟩ rfl rfl hl.1 rfl (lv_room (Nat.le_of_ble_eq_true rfl)) dX8_putNumber_3 ⟨(Nat.le_of_ble_eq_true rfl), (Nat.le_of_ble_eq_true rfl)⟩) hS (fun _ _ h => h) (fun _ h => h) (fun u3 t H locs ht hvm hw3 hB hz1 hk1 hS => ?_)
  obtain ⟨hP, hD⟩ := hB
  rw [ht] at hP
  obtain ⟨g3, rfl, hM3, hfr3⟩ := hw3
  have hfr3 : ∀ j, (j < 100 ∨ 134 < j) → g3 j = G j := fun j h9 => (hfr3 j h9).trans (rfl)
  have eM : g3 100 = .inr (10, [.int (F 0), .int (F 1), .ref (ad 103), .int (F 3), .ref (ad 105), .ref (ad 106), .ref (ad 107), .ref (ad 108), .int (F 8), .ref (ad 110), .ref (ad 111), .ref (ad 112), .ref (ad 113), .int (F 13), .int (F 14), .ref (ad 116), .ref (ad 117), .ref (ad 118), .ref (ad 119), .ref (ad 120), .ref (ad 121), .int (F 21), .ref (ad 123), .ref (ad 124), .ref (ad 125), .ref (ad 126), .int (F 26), .ref (ad 128), .ref (ad 129), .ref (ad 130), .ref (ad 131), .ref (ad 132), .int (nI (L ++ [32]).length), .ref (ad 134)]) := hM3.2.1
  refine lv_iload_n hx hb dX8_putNumber_6 rfl (lv_at hl 1 rfl) ?_
  refine lv_if_ge (tgt := 15) hx hb dX8_putNumber_7 (by decide) (fun c_7 => ?_) (fun c_7 => ?_)
  · have hv0 : ¬ v < 0 := Int32.not_lt.mpr c_7
    obtain rfl : v = nI z := hv.elim (fun h => h) (fun h => absurd (by rw [h.2]; exact neg_nI (by omega) h.1) hv0)
    refine lv_iload_n hx hb dX8_putNumber_15 rfl (lv_at hl 1 rfl) ?_
    refine lv_topi (fun z9 ez9 => ?_)
    obtain rfl : z9 = nI z := ez9.trans (rfl)
    refine lv_istore_n (lv' := [(2, .int (nI z)), (0, .ref (ad 100)), (1, .int (nI z))]) hx hb dX8_putNumber_16 rfl hl (by decide) rfl (fun ls hl => ?_)
    refine lv_iload_n hx hb dX8_putNumber_17 rfl (lv_at hl 2 rfl) ?_
    refine lv_if_ge (tgt := 27) hx hb dX8_putNumber_18 (by decide) (fun c_18 => ?_) (fun c_18 => ?_)
    · exact loop27 1 (L ++ [32]) g3 (by decide) (by rw [numC, if_neg hv0, List.append_assoc]; rfl) hM3 hfr3 _ _ hP hD hS ls (lv_sub hl [1, 0] rfl)
    · exact absurd c_7 c_18
  · have hv0 : v < 0 := Int32.not_le.mp c_7
    have hn4 := hn3 hv0
    obtain ⟨hz0, rfl⟩ : 0 < z ∧ v = -nI z := hv.elim (fun h => absurd (by rw [← h]; exact hv0) (nI_nneg (by omega))) (fun h => h)
    refine lv_iload_n hx hb dX8_putNumber_10 rfl (lv_at hl 1 rfl) ?_
    refine lv_ineg hx hb dX8_putNumber_11 ?_
    refine lv_goto (tgt := 16) hx hb dX8_putNumber_12 (by decide) ?_
    refine lv_topi (fun z9 ez9 => ?_)
    obtain rfl : z9 = nI z := ez9.trans (i_neg_neg _)
    refine lv_istore_n (lv' := [(2, .int (nI z)), (0, .ref (ad 100)), (1, .int (-nI z))]) hx hb dX8_putNumber_16 rfl hl (by decide) rfl (fun ls hl => ?_)
    refine lv_iload_n hx hb dX8_putNumber_17 rfl (lv_at hl 2 rfl) ?_
    refine lv_if_ge (tgt := 27) hx hb dX8_putNumber_18 (by decide) (fun c_18 => ?_) (fun c_18 => ?_)
    · exact absurd c_18 c_7
    · refine lv_aload_n hx hb dX8_putNumber_21 rfl (lv_at hl 1 rfl) ?_
      refine lv_bipush (v := 45) hx hb dX8_putNumber_22 (by decide) ?_
      refine va_callv (va_runV (As := [.int 45]) (rest := []) ⟨hx, hb, hml, hown, hts⟩ (c_X8_put l hl0 D y b0 Ls ad g3 F A (L ++ [32]) hM3 (by simp only [List.length_append, List.length_singleton]; omega) (45)) (cwV 1 hts gX8_putNumber_X8_put rfl rfl rfl (by decide +kernel) ⟨(Nat.le_of_ble_eq_true rfl), (Nat.le_of_ble_eq_true rfl)⟩) ⟨WdM_blind, Wd_recv hK hP (ci := 10) rfl hM.1 eM, WdM_at hP hK hN hD hS hb0 hT⟩ rfl rfl hl.1 rfl (lv_room (Nat.le_of_ble_eq_true rfl)) dX8_putNumber_24 ⟨(Nat.le_of_ble_eq_true rfl), (Nat.le_of_ble_eq_true rfl)⟩) hS (fun _ _ h => h) (fun _ h => h) (fun u24 t H locs ht hvm hw24 hB hz1 hk1 hS => ?_)
      obtain ⟨hP, hD⟩ := hB
      rw [ht] at hP
      obtain ⟨g24, rfl, hM24, hfr24⟩ := hw24
      have hfr24 : ∀ j, (j < 100 ∨ 134 < j) → g24 j = G j := fun j h9 => (hfr24 j h9).trans (hfr3 j h9)
      have eM : g24 100 = .inr (10, [.int (F 0), .int (F 1), .ref (ad 103), .int (F 3), .ref (ad 105), .ref (ad 106), .ref (ad 107), .ref (ad 108), .int (F 8), .ref (ad 110), .ref (ad 111), .ref (ad 112), .ref (ad 113), .int (F 13), .int (F 14), .ref (ad 116), .ref (ad 117), .ref (ad 118), .ref (ad 119), .ref (ad 120), .ref (ad 121), .int (F 21), .ref (ad 123), .ref (ad 124), .ref (ad 125), .ref (ad 126), .int (F 26), .ref (ad 128), .ref (ad 129), .ref (ad 130), .ref (ad 131), .ref (ad 132), .int (nI (L ++ [32] ++ [45]).length), .ref (ad 134)]) := hM24.2.1
      exact loop27 1 (L ++ [32] ++ [45]) g24 (by decide) (by rw [numC, if_pos hv0, List.append_assoc, List.append_assoc]; rfl) hM24 hfr24 _ _ hP hD hS ls (lv_sub hl [1, 0] rfl)
