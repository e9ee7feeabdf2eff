/-! the paper -/
def PaperAt (y : Nat → ClassId) (Ls : List Nat) (ad : Nat → Nat) (G : Nat → va_E) (pf : Nat → Int32) (pn : Nat) : Prop :=
  30 ∈ Ls ∧ 31 ∈ Ls ∧ G 30 = .inr (6, [.ref (ad 31), .int (nI pn)]) ∧ G 31 = .inl (y 1, 8192, .inl pf) ∧ pn ≤ 8192
def wrL (pf : Nat → Int32) (n : Nat) : List Int32 → (Nat → Int32)
  | [] => pf
  | c :: cs => wrL (upd pf n c) (n + 1) cs
theorem wrL_app (a b : List Int32) : ∀ (pf : Nat → Int32) (n : Nat), wrL pf n (a ++ b) = wrL (wrL pf n a) (n + a.length) b := by
  induction a with
  | nil => intro pf n; rfl
  | cons c cs ih =>
    intro pf n
    show wrL (upd pf n c) (n + 1) (cs ++ b) = wrL (wrL (upd pf n c) (n + 1) cs) (n + (cs.length + 1)) b
    rw [ih, show n + 1 + cs.length = n + (cs.length + 1) by omega]
def pw : Nat → Int64
  | 0 => 0
  | k + 1 => lN (10 ^ k)
/-- the digits from the place k - 1 down -/
def dgR (z : Nat) : Nat → List Int32
  | 0 => []
  | k + 1 => if 10 ^ k ≤ z ∨ k = 0 then nI (48 + z / 10 ^ k % 10) :: dgR z k else dgR z k
def numC (v : Int32) (z : Nat) : List Int32 := if v < 0 then 32 :: 45 :: dgR z 10 else 32 :: dgR z 10
theorem dgR_len {z : Nat} : ∀ {k d : Nat}, z < 10 ^ d → 1 ≤ d → (dgR z k).length ≤ d := by
  intro k
  induction k with
  | zero => intro d _ _; exact Nat.zero_le _
  | succ k ih =>
    intro d hz hd
    rw [dgR]
    by_cases h : 10 ^ k ≤ z ∨ k = 0
    · rw [if_pos h, List.length_cons]
      rcases h with h | h
      · have hk : k < d := (Nat.pow_lt_pow_iff_right (by decide : 1 < 10)).mp (Nat.lt_of_le_of_lt h hz)
        have : (dgR z k).length ≤ k := by
          clear ih hd hz h
          induction k with
          | zero => exact Nat.le_refl 0
          | succ k ih2 =>
            rw [dgR]
            have := ih2 (by omega)
            split
            · rw [List.length_cons]; omega
            · omega
        omega
      · subst h; exact hd
    · rw [if_neg h]; exact ih hz hd
theorem pw_div : ∀ k, k < 10 → pw (k + 1) / 10 = pw k := by
  intro k hk
  match k with
  | 0 => rfl
  | k + 1 =>
    show lN (10 ^ (k + 1)) / lN 10 = lN (10 ^ k)
    have h9 : 10 ^ (k + 1) ≤ 10 ^ 9 := Nat.pow_le_pow_right (by decide) (by omega)
    rw [pk_lDiv (by omega) (by decide) (by decide), Nat.pow_succ, Nat.mul_div_cancel _ (by decide)]
theorem pw_pos {k : Nat} (h : k < 10) : ¬ pw (k + 1) ≤ 0 := by
  have h9 : 10 ^ k ≤ 10 ^ 9 := Nat.pow_le_pow_right (by decide) (by omega)
  have h1 : 0 < 10 ^ k := Nat.pow_pos (by decide)
  show ¬ lN (10 ^ k) ≤ lN 0
  rw [lN_le (by omega) (by decide)]
  omega
theorem negL {z : Nat} (h : z < 2 ^ 30) : (-nI z).toInt64 = -(lN z) := by
  apply Int64.toInt_inj.mp
  rw [Int32.toInt_toInt64, sb_negT (by omega), Int64.toInt_neg, lN_toInt (by omega)]
  rw [Int.bmod_eq_of_le (by omega) (by omega)]
theorem absL {v : Int32} {z : Nat} (h : z < 2 ^ 30) (hv : v = nI z ∨ (0 < z ∧ v = -nI z)) : (if 0 < v.toInt64 then v.toInt64 else -v.toInt64) = lN z := by
  rcases hv with rfl | ⟨h0, rfl⟩
  · rw [nI_l (by omega)]
    by_cases hz : 0 < z
    · rw [if_pos (show (0 : Int64) < lN z from (lN_lt (a := 0) (by decide) (by omega)).mpr hz)]
    · obtain rfl : z = 0 := by omega
      rfl
  · rw [negL h]
    have h1 : ¬ (0 : Int64) < -(lN z) := by
      rw [Int64.lt_iff_toInt_lt, Int64.toInt_neg, lN_toInt (by omega), Int.bmod_eq_of_le (by omega) (by omega)]
      show ¬ (0 : Int) < _
      omega
    rw [if_neg h1, Int64.neg_neg]
theorem digL {z k : Nat} (hz : z < 2 ^ 30) (hk : k < 10) : ((48 : Int64) + (lN z / pw (k + 1) - lN z / pw (k + 1) / 10 * 10)).toInt32 = nI (48 + z / 10 ^ k % 10) := by
  have h9 : 10 ^ k ≤ 10 ^ 9 := Nat.pow_le_pow_right (by decide) (by omega)
  have h1 : 0 < 10 ^ k := Nat.pow_pos (by decide)
  have hd : z / 10 ^ k ≤ z := Nat.div_le_self _ _
  show (lN 48 + (lN z / lN (10 ^ k) - lN z / lN (10 ^ k) / lN 10 * lN 10)).toInt32 = _
  rw [pk_lDiv (by omega) h1 (by omega), pk_lRem (by omega) (by decide) (by decide), lN_add, lN_i]
theorem ch16_nI {v : Nat} (h : v < 256) : ch16 (nI v) = nI v := ch16_in ⟨nI_pos' (by omega), nI_le (b := 255) (by omega) (by decide)⟩
theorem negz {v : Int32} {z : Nat} (h : z < 2 ^ 30) (hv : v = nI z ∨ (0 < z ∧ v = -nI z)) : v < 0 ↔ ¬ v = nI z := by
  rcases hv with rfl | ⟨h0, rfl⟩
  · simp [nI_pos (show z < 2 ^ 31 by omega)]
  · constructor
    · intro h1 h2
      rw [h2] at h1
      exact nI_pos (by omega) h1
    · intro _
      rw [Int32.lt_iff_toInt_lt, sb_negT (by omega)]
      show _ < (0 : Int)
      omega

theorem dgR_1 (z : Nat) : ∀ k, 1 ≤ (dgR z (k + 1)).length := by
  intro k
  induction k with
  | zero => rw [dgR, if_pos (Or.inr rfl), List.length_cons]; omega
  | succ k ih =>
    rw [dgR]
    split
    · rw [List.length_cons]; omega
    · exact ih

set_option maxHeartbeats 4000000 in
set_option maxRecDepth 100000 in
/-- Paper.clear -/
theorem c_X4_clear (l : Launch) (hl0 : l.stackTraces = false) (D : va_G) (y : Nat → ClassId) (b0 : Nat) (Ls : List Nat) (ad : Nat → Nat) (G : Nat → va_E) (pf : Nat → Int32) (pn : Nat) (hPa : PaperAt y Ls ad G pf pn) : Met l yX4_clear wsX4_clear ({ frames := 0, cells := 0, slots := 0, locals := 0 }) (va_Pc [.ref (ad 30)] (WdM D y b0 (wl Ls ad G))) (va_Qv (fun (u : va_W) => ∃ G2, u = wl Ls ad G2 ∧ PaperAt y Ls ad G2 pf 0 ∧ (∀ j, j ≠ 30 → j ≠ 31 → G2 j = G j)) (WB D b0) (fun q => b0 ≤ q)) 0 0 (fun q => b0 ≤ q) := by
  refine Met.ofW (cc := cX4_clear) (maxL := 1) (ret := none) (by decide) rfl ?_
  intro p e s m args below meth c s₁ B hml hv
  obtain ⟨rfl, ⟨hP, hK, hN⟩, hD, hb0, hT⟩ := hv
  have hx := B.exec
  have hb := B.bytes
  have hr := B.returns
  have hts := atoms_spec (ws := wsX4_clear) B.pre
  have hown : s.vm.findClass RX4 = some m.cls := findClass_of_methodNamed B.named
  have hlocks := B.notSynchronized
  have hS : va_S (fun q => b0 ≤ q) s.heap s.heap [] := va_S.rf
  have hinX4 : ∀ w ∈ wsX40, w ∈ wsX4_clear := by decide +kernel
  obtain ⟨hp0, hp1, ep0, ep1, hpn⟩ := id hPa
  have hl := lv_entry ([.ref (ad 30)]) (n := 1) (Nat.le_of_ble_eq_true rfl)
  rw [lg_entry_eq]
  generalize (lg_sl ([.ref (ad 30)]) ++ List.replicate (1 - (lg_sl ([.ref (ad 30)])).length) Slot.unset).toArray = ls at hl ⊢
  have hl : lv_has ls 1 [(0, .ref (ad 30))] := hl
  refine lv_aload_n hx hb dX4_clear_0 rfl (lv_at hl 0 rfl) ?_
  refine lv_iconst (v := 0) hx hb dX4_clear_1 (by decide) ?_
  refine lv_topi (fun z9 ez9 => ?_)
  obtain rfl : z9 = nI 0 := ez9.trans (nI_0.symm)
  refine pv_put (ci := 6) (v := .int (nI 0)) (ty := .int) (C := RX4) (T := TX4) (N := 2) hx hb hts hinX4 tyX4 tyX4_ok nmX4 hown hK hP hD hS hp0 ep0 rfl 1 (by decide) (hts (.fieldLink RX4 15 "StorageCharge$Paper" "length" "I") (by decide +kernel)) (fun _ h9 => h9) rfl (by decide +kernel) rfl rfl (Nat.le_of_ble_eq_true rfl) dX4_clear_2 (fun H locs hP hD hS => ?_)
  obtain ⟨G_2, eG_2⟩ : ∃ gg9 : Nat → va_E, gg9 = va_up G 30 (.inr (6, [.ref (ad 31), .int (nI 0)])) := ⟨_, rfl⟩
  have hP : va_P D vwCl (wl Ls ad G_2) H := by rw [eG_2]; exact hP
  have hD : va_D (fun q => b0 ≤ q) (wl Ls ad G_2) := by rw [eG_2]; exact hD
  have ep1 : G_2 31 = .inl (y 1, 8192, .inl pf) := by rw [eG_2, va_up_ne _ _ (by omega)]; exact ep1
  have ep0 : G_2 30 = .inr (6, [.ref (ad 31), .int (nI 0)]) := by rw [eG_2]; exact va_up_self _ _ _
  refine W.widen (k := 0) (n := 0) (Nat.le_of_ble_eq_true rfl) (Nat.le_of_ble_eq_true rfl) ?_
  exact W.vret hx hb hr (fun t ht hW => ⟨⟨wl Ls ad G_2, rfl, ⟨G_2, rfl, ⟨hp0, hp1, ep0, ep1, Nat.zero_le _⟩, fun j h1 h2 => by rw [eG_2, va_up_ne _ _ (by assumption)]⟩, by rw [ht]; exact hP, hD⟩, hS.F ht⟩) hS.2.2 dX4_clear_5

set_option maxHeartbeats 4000000 in
set_option maxRecDepth 100000 in
/-- Paper.put -/
theorem c_X4_put (l : Launch) (hl0 : l.stackTraces = false) (D : va_G) (y : Nat → ClassId) (b0 : Nat) (Ls : List Nat) (ad : Nat → Nat) (G : Nat → va_E) (pf : Nat → Int32) (pn : Nat) (hPa : PaperAt y Ls ad G pf pn) (c0 : Int32) (hroom : pn < 8192) (hc9 : ch16 c0 = c0) : Met l yX4_put wsX4_put ({ frames := 0, cells := 0, slots := 0, locals := 0 }) (va_Pc [.ref (ad 30), .int c0] (WdM D y b0 (wl Ls ad G))) (va_Qv (fun (u : va_W) => ∃ G2, u = wl Ls ad G2 ∧ PaperAt y Ls ad G2 (upd pf pn c0) (pn + 1) ∧ (∀ j, j ≠ 30 → j ≠ 31 → G2 j = G j)) (WB D b0) (fun q => b0 ≤ q)) 0 0 (fun q => b0 ≤ q) := by
  refine Met.ofW (cc := cX4_put) (maxL := 2) (ret := none) (by decide) rfl ?_
  intro p e s m args below meth c s₁ B hml hv
  obtain ⟨rfl, ⟨hP, hK, hN⟩, hD, hb0, hT⟩ := hv
  have hx := B.exec
  have hb := B.bytes
  have hr := B.returns
  have hts := atoms_spec (ws := wsX4_put) B.pre
  have hown : s.vm.findClass RX4 = some m.cls := findClass_of_methodNamed B.named
  have hlocks := B.notSynchronized
  have hS : va_S (fun q => b0 ≤ q) s.heap s.heap [] := va_S.rf
  have hinX4 : ∀ w ∈ wsX40, w ∈ wsX4_put := by decide +kernel
  obtain ⟨hp0, hp1, ep0, ep1, hpn⟩ := id hPa
  have hl := lv_entry ([.ref (ad 30), .int c0]) (n := 2) (Nat.le_of_ble_eq_true rfl)
  rw [lg_entry_eq]
  generalize (lg_sl ([.ref (ad 30), .int c0]) ++ List.replicate (2 - (lg_sl ([.ref (ad 30), .int c0])).length) Slot.unset).toArray = ls at hl ⊢
  have hl : lv_has ls 2 [(0, .ref (ad 30)), (1, .int c0)] := hl
  refine lv_aload_n hx hb dX4_put_0 rfl (lv_at hl 0 rfl) ?_
  refine pv_get (ci := 6) (C := RX4) (T := TX4) (N := 2) hx hb hts hinX4 hown hK hP hp0 ep0 rfl 1 (by decide) (hts (.fieldLink RX4 15 "StorageCharge$Paper" "length" "I") (by decide +kernel)) (fun _ h9 => h9) rfl dX4_put_1 ?_
  refine lv_aload_n hx hb dX4_put_4 rfl (lv_at hl 0 rfl) ?_
  refine pv_get (ci := 6) (C := RX4) (T := TX4) (N := 2) hx hb hts hinX4 hown hK hP hp0 ep0 rfl 0 (by decide) (hts (.fieldLink RX4 9 "StorageCharge$Paper" "signs" "[C") (by decide +kernel)) (fun _ h9 => h9) rfl dX4_put_5 ?_
  refine pv_alen (n := 8192) hx hb hK hP hp1 1 ep1 rfl rfl dX4_put_8 ?_
  refine lv_icmp_ge (tgt := 33) hx hb dX4_put_9 (by decide) (fun c_9 => ?_) (fun c_9 => ?_)
  · exact absurd c_9 (nI_ge hroom (by decide))
  · refine lv_aload_n hx hb dX4_put_12 rfl (lv_at hl 0 rfl) ?_
    refine pv_get (ci := 6) (C := RX4) (T := TX4) (N := 2) hx hb hts hinX4 hown hK hP hp0 ep0 rfl 0 (by decide) (hts (.fieldLink RX4 9 "StorageCharge$Paper" "signs" "[C") (by decide +kernel)) (fun _ h9 => h9) rfl dX4_put_13 ?_
    refine lv_aload_n hx hb dX4_put_16 rfl (lv_at hl 0 rfl) ?_
    refine pv_get (ci := 6) (C := RX4) (T := TX4) (N := 2) hx hb hts hinX4 hown hK hP hp0 ep0 rfl 1 (by decide) (hts (.fieldLink RX4 15 "StorageCharge$Paper" "length" "I") (by decide +kernel)) (fun _ h9 => h9) rfl dX4_put_17 ?_
    refine lv_iload_n hx hb dX4_put_20 rfl (lv_at hl 1 rfl) ?_
    refine lv_i2c hx hb dX4_put_21 rfl ?_
    refine pv_cast hx hb hK hP hD hS hp1 1 ep1 rfl (k := pn) rfl hroom (by decide) dX4_put_22 (fun H locs hP hD hS => ?_)
    obtain ⟨G_22, eG_22⟩ : ∃ gg9 : Nat → va_E, gg9 = va_up G 31 (.inl (y 1, 8192, .inl (upd pf pn (vp_nar .char ((c0.toUInt32 % 65536).toInt32))))) := ⟨_, rfl⟩
    have hP : va_P D vwCl (wl Ls ad G_22) H := by rw [eG_22]; exact hP
    have hD : va_D (fun q => b0 ≤ q) (wl Ls ad G_22) := by rw [eG_22]; exact hD
    have ep0 : G_22 30 = .inr (6, [.ref (ad 31), .int (nI pn)]) := by rw [eG_22, va_up_ne _ _ (by omega)]; exact ep0
    have ep1 : G_22 31 = .inl (y 1, 8192, .inl (upd pf pn (vp_nar .char ((c0.toUInt32 % 65536).toInt32)))) := by rw [eG_22]; exact va_up_self _ _ _
    refine lv_aload_n hx hb dX4_put_23 rfl (lv_at hl 0 rfl) ?_
    refine lv_dup hx hb dX4_put_24 rfl ?_
    refine pv_get (ci := 6) (C := RX4) (T := TX4) (N := 2) hx hb hts hinX4 hown hK hP hp0 ep0 rfl 1 (by decide) (hts (.fieldLink RX4 15 "StorageCharge$Paper" "length" "I") (by decide +kernel)) (fun _ h9 => h9) rfl dX4_put_25 ?_
    refine lv_iconst (v := 1) hx hb dX4_put_28 (by decide) ?_
    refine lv_iadd hx hb dX4_put_29 ?_
    refine lv_topi (fun z9 ez9 => ?_)
    obtain rfl : z9 = nI (pn + 1) := ez9.trans (nI_1 pn)
    refine pv_put (ci := 6) (v := .int (nI (pn + 1))) (ty := .int) (C := RX4) (T := TX4) (N := 2) hx hb hts hinX4 tyX4 tyX4_ok nmX4 hown hK hP hD hS hp0 ep0 rfl 1 (by decide) (hts (.fieldLink RX4 15 "StorageCharge$Paper" "length" "I") (by decide +kernel)) (fun _ h9 => h9) rfl (by decide +kernel) rfl rfl (Nat.le_of_ble_eq_true rfl) dX4_put_30 (fun H locs hP hD hS => ?_)
    obtain ⟨G_30, eG_30⟩ : ∃ gg9 : Nat → va_E, gg9 = va_up G_22 30 (.inr (6, [.ref (ad 31), .int (nI (pn + 1))])) := ⟨_, rfl⟩
    have hP : va_P D vwCl (wl Ls ad G_30) H := by rw [eG_30]; exact hP
    have hD : va_D (fun q => b0 ≤ q) (wl Ls ad G_30) := by rw [eG_30]; exact hD
    have ep1 : G_30 31 = .inl (y 1, 8192, .inl (upd pf pn (vp_nar .char ((c0.toUInt32 % 65536).toInt32)))) := by rw [eG_30, va_up_ne _ _ (by omega)]; exact ep1
    have ep0 : G_30 30 = .inr (6, [.ref (ad 31), .int (nI (pn + 1))]) := by rw [eG_30]; exact va_up_self _ _ _
    refine W.widen (k := 0) (n := 0) (Nat.le_of_ble_eq_true rfl) (Nat.le_of_ble_eq_true rfl) ?_
    exact W.vret hx hb hr (fun t ht hW => ⟨⟨wl Ls ad G_30, rfl, ⟨G_30, rfl, ⟨hp0, hp1, ep0, by rw [← hc9]; exact ep1, hroom⟩, fun j h1 h2 => by rw [eG_30, va_up_ne _ _ (by assumption), eG_22, va_up_ne _ _ (by assumption)]⟩, by rw [ht]; exact hP, hD⟩, hS.F ht⟩) hS.2.2 dX4_put_33

set_option maxHeartbeats 4000000 in
set_option maxRecDepth 100000 in
/-- Paper.putNumber -/
theorem c_X4_putNumber (l : Launch) (hl0 : l.stackTraces = false) (D : va_G) (y : Nat → ClassId) (b0 : Nat) (Ls : List Nat) (ad : Nat → Nat) (G : Nat → va_E) (pf : Nat → Int32) (pn : Nat) (hPa : PaperAt y Ls ad G pf pn) (v : Int32) (z : Nat) (hz : z < 2 ^ 30) (hv : v = nI z ∨ (0 < z ∧ v = -nI z)) (hroom : pn + (numC v z).length ≤ 8192) : Met l yX4_putNumber wsX4_putNumber ({ frames := 1, cells := 0, slots := 0, locals := 21 }) (va_Pc [.ref (ad 30), .int v] (WdM D y b0 (wl Ls ad G))) (va_Qv (fun (u : va_W) => ∃ G2, u = wl Ls ad G2 ∧ PaperAt y Ls ad G2 (wrL pf pn (numC v z)) (pn + (numC v z).length) ∧ (∀ j, j ≠ 30 → j ≠ 31 → G2 j = G j)) (WB D b0) (fun q => b0 ≤ q)) 0 0 (fun q => b0 ≤ q) := by
  refine Met.ofW (cc := cX4_putNumber) (maxL := 6) (ret := none) (by decide) rfl ?_
  intro p e s m args below meth c s₁ B hml hv
  obtain ⟨rfl, ⟨hP, hK, hN⟩, hD, hb0, hT⟩ := hv
  have hx := B.exec
  have hb := B.bytes
  have hr := B.returns
  have hts := atoms_spec (ws := wsX4_putNumber) B.pre
  have hown : s.vm.findClass RX4 = some m.cls := findClass_of_methodNamed B.named
  have hlocks := B.notSynchronized
  have hS : va_S (fun q => b0 ≤ q) s.heap s.heap [] := va_S.rf
  obtain ⟨hp0, hp1, ep0, ep1, hpn⟩ := id hPa
  have hl2 : 2 ≤ (numC v z).length := by
    rw [numC]
    split
    · simp only [List.length_cons]; omega
    · rw [List.length_cons]
      have : 1 ≤ (dgR z 10).length := dgR_1 z 9
      omega
  have hl3 : v < 0 → 3 ≤ (numC v z).length := fun h => by
    rw [numC, if_pos h]
    have : 1 ≤ (dgR z 10).length := dgR_1 z 9
    simp only [List.length_cons]
    omega
  have loop27 : ∀ (n : Nat) (k : Nat) (pf1 : Nat → Int32) (pn1 : Nat) (G1 : Nat → va_E), k ≤ 10 → k < n → PaperAt y Ls ad G1 pf1 pn1 → wrL pf1 pn1 (dgR z k) = wrL pf pn (numC v z) → pn1 + (dgR z k).length = pn + (numC v z).length → (∀ j, j ≠ 30 → j ≠ 31 → G1 j = G j) → ∀ (H : Heap) (locs : List Loc), va_P D vwCl (wl Ls ad G1) H → va_D (fun q => b0 ≤ q) (wl Ls ad G1) → va_S (fun q => b0 ≤ q) s.heap H locs → ∀ ls : Array Slot, lv_has ls 6 [(0, .ref (ad 30)), (1, .int v), (2, .long (lN z)), (4, .long (pw k))] → W p l e (headSpec wsX4_putNumber ({ frames := 1, cells := 0, slots := 0, locals := 21 })).room s m ([.ref (ad 30), .int v] : List Value).toArray below meth c H locs 0 0 (MQ below (va_Qv (fun (u : va_W) => ∃ G2, u = wl Ls ad G2 ∧ PaperAt y Ls ad G2 (wrL pf pn (numC v z)) (pn + (numC v z).length) ∧ (∀ j, j ≠ 30 → j ≠ 31 → G2 j = G j)) (WB D b0) (fun q => b0 ≤ q)) ([.ref (ad 30), .int v] : List Value).toArray s 0 0 (fun q => b0 ≤ q)) (F0 m 27 ls []) := by
    intro n
    induction n with
    | zero =>
      intro k pf1 pn1 G1 hk hn; exact absurd hn (by omega)
    | succ n ih27 =>
      intro k pf1 pn1 G1 hk hn hPa1 hw1 hw2 hfr1 H locs hP hD hS ls hl
      obtain ⟨hp0, hp1, ep0, ep1, hpn1⟩ := id hPa1
      refine lv_lload hx hb dX4_putNumber_27 (lv_at hl 3 rfl) ?_
      refine lv_lconst (v := 0) hx hb dX4_putNumber_29 (by decide) ?_
      refine W.lcmp hx hb dX4_putNumber_30 ?_
      refine lv_if_le (tgt := 76) hx hb dX4_putNumber_31 (by decide) (fun c_31 => ?_) (fun c_31 => ?_)
      · have hk0 : k = 0 := Decidable.byContradiction fun h => by
          obtain ⟨k0, rfl⟩ : ∃ k0, k = k0 + 1 := ⟨k - 1, by omega⟩
          exact pw_pos (k := k0) (by omega) ((lg_cmp_le _ _).mp c_31)
        refine W.widen (k := 0) (n := 0) (Nat.le_of_ble_eq_true rfl) (Nat.le_of_ble_eq_true rfl) ?_
        exact W.vret hx hb hr (fun t ht hW => ⟨⟨wl Ls ad G1, rfl, ⟨G1, rfl, by rw [hk0] at hw1 hw2; rw [← hw1, ← hw2]; exact hPa1, hfr1⟩, by rw [ht]; exact hP, hD⟩, hS.F ht⟩) hS.2.2 dX4_putNumber_76
      · obtain ⟨k0, rfl⟩ : ∃ k0, k = k0 + 1 := ⟨k - 1, by
          have : k ≠ 0 := fun h => c_31 (by rw [h]; decide)
          omega⟩
        have h9 : 10 ^ k0 ≤ 10 ^ 9 := Nat.pow_le_pow_right (by decide) (by omega)
        have h10 : 0 < 10 ^ k0 := Nat.pow_pos (by decide)
        refine lv_lload_n hx hb dX4_putNumber_34 rfl (lv_at hl 2 rfl) ?_
        refine lv_lload hx hb dX4_putNumber_35 (lv_at hl 3 rfl) ?_
        refine W.lcmp hx hb dX4_putNumber_37 ?_
        refine lv_if_ge (tgt := 48) hx hb dX4_putNumber_38 (by decide) (fun c_38 => ?_) (fun c_38 => ?_)
        · have hdo : 10 ^ k0 ≤ z ∨ k0 = 0 := Or.inl ((lN_le (by omega) (by omega)).mp ((lg_cmp_ge _ _).mp c_38))
          have hrm : pn1 < 8192 := by rw [dgR, if_pos hdo, List.length_cons] at hw2; omega
          refine lv_aload_n hx hb dX4_putNumber_48 rfl (lv_at hl 0 rfl) ?_
          refine lv_ldc2 (v := 48) hx hb hown (hts (.constantLong RX4 46 (48)) (by decide +kernel)) dX4_putNumber_49 ?_
          refine lv_lload_n hx hb dX4_putNumber_52 rfl (lv_at hl 2 rfl) ?_
          refine lv_lload hx hb dX4_putNumber_53 (lv_at hl 3 rfl) ?_
          refine lv_ldiv hx hb dX4_putNumber_55 (fun h => pw_pos (k := k0) (by omega) (by rw [h]; exact Int64.le_refl 0)) ?_
          refine lv_ldc2 (v := 10) hx hb hown (hts (.constantLong RX4 48 (10)) (by decide +kernel)) dX4_putNumber_56 ?_
          refine lv_lrem hx hb dX4_putNumber_59 (by decide) ?_
          refine lv_ladd hx hb dX4_putNumber_60 ?_
          refine lv_l2i hx hb dX4_putNumber_61 rfl ?_
          refine lv_topi (fun z9 ez9 => ?_)
          obtain rfl : z9 = nI (48 + z / 10 ^ k0 % 10) := ez9.trans (digL hz (by omega))
          refine va_callv (va_runV (As := [.int (nI (48 + z / 10 ^ k0 % 10))]) (rest := []) ⟨hx, hb, hml, hown, hts⟩ (c_X4_put l hl0 D y b0 Ls ad G1 pf1 pn1 hPa1 (nI (48 + z / 10 ^ k0 % 10)) hrm (ch16_nI (by omega))) (cwV 1 hts gX4_putNumber_X4_put rfl rfl rfl (by decide +kernel) ⟨(Nat.le_of_ble_eq_true rfl), (Nat.le_of_ble_eq_true rfl)⟩) ⟨WdM_blind, Wd_recv hK hP (ci := 6) rfl hp0 ep0, WdM_at hP hK hN hD hS hb0 hT⟩ rfl rfl hl.1 rfl (lv_room (Nat.le_of_ble_eq_true rfl)) dX4_putNumber_62 ⟨(Nat.le_of_ble_eq_true rfl), (Nat.le_of_ble_eq_true rfl)⟩) hS (fun _ _ h => h) (fun _ h => h) (fun u62 t H locs ht hvm hw62 hB hz1 hk1 hS => ?_)
          obtain ⟨hP, hD⟩ := hB
          rw [ht] at hP
          obtain ⟨g62, rfl, hPa62, hfr62⟩ := hw62
          have frm62 : ∀ j, j ≠ 30 → j ≠ 31 → g62 j = G j := fun j h1 h2 => (hfr62 j h1 h2).trans (hfr1 j h1 h2)
          obtain ⟨hp0, hp1, ep0, ep1, hpn62⟩ := id hPa62
          refine lv_lload hx hb dX4_putNumber_65 (lv_at hl 3 rfl) ?_
          refine lv_ldc2 (v := 10) hx hb hown (hts (.constantLong RX4 48 (10)) (by decide +kernel)) dX4_putNumber_67 ?_
          refine lv_ldiv hx hb dX4_putNumber_70 (by decide) ?_
          refine lv_topl (fun z9 ez9 => ?_)
          obtain rfl : z9 = pw k0 := ez9.trans (pw_div k0 (by omega))
          refine lv_lstore (lv' := [(4, .long (pw k0)), (0, .ref (ad 30)), (1, .int v), (2, .long (lN z))]) hx hb dX4_putNumber_71 hl (by decide) rfl (fun ls hl => ?_)
          refine lv_goto (tgt := 27) hx hb dX4_putNumber_73 (by decide) ?_
          exact ih27 k0 (upd pf1 pn1 (nI (48 + z / 10 ^ k0 % 10))) (pn1 + 1) g62 (by omega) (by omega) hPa62 (by rw [dgR, if_pos hdo] at hw1; exact hw1) (by rw [dgR, if_pos hdo, List.length_cons] at hw2; omega) frm62 _ _ hP hD hS ls (lv_sub hl [1, 2, 3, 0] rfl)
        · have hlt1 : ¬ 10 ^ k0 ≤ z := fun h => c_38 ((lg_cmp_ge _ _).mpr ((lN_le (by omega) (by omega)).mpr h))
          refine lv_lload hx hb dX4_putNumber_41 (lv_at hl 3 rfl) ?_
          refine lv_lconst (v := 1) hx hb dX4_putNumber_43 (by decide) ?_
          refine W.lcmp hx hb dX4_putNumber_44 ?_
          refine lv_if_ne (tgt := 65) hx hb dX4_putNumber_45 (by decide) (fun c_45 => ?_) (fun c_45 => ?_)
          · have hsk : ¬ (10 ^ k0 ≤ z ∨ k0 = 0) := by
              rintro (h | h)
              · exact hlt1 h
              · exact c_45 ((lg_cmp_eq _ _).mpr (by rw [h]; rfl))
            refine lv_lload hx hb dX4_putNumber_65 (lv_at hl 3 rfl) ?_
            refine lv_ldc2 (v := 10) hx hb hown (hts (.constantLong RX4 48 (10)) (by decide +kernel)) dX4_putNumber_67 ?_
            refine lv_ldiv hx hb dX4_putNumber_70 (by decide) ?_
            refine lv_topl (fun z9 ez9 => ?_)
            obtain rfl : z9 = pw k0 := ez9.trans (pw_div k0 (by omega))
            refine lv_lstore (lv' := [(4, .long (pw k0)), (0, .ref (ad 30)), (1, .int v), (2, .long (lN z))]) hx hb dX4_putNumber_71 hl (by decide) rfl (fun ls hl => ?_)
            refine lv_goto (tgt := 27) hx hb dX4_putNumber_73 (by decide) ?_
            exact ih27 k0 pf1 pn1 G1 (by omega) (by omega) hPa1 (by rw [dgR, if_neg hsk] at hw1; exact hw1) (by rw [dgR, if_neg hsk] at hw2; exact hw2) hfr1 _ _ hP hD hS ls (lv_sub hl [1, 2, 3, 0] rfl)
          · have hdo : 10 ^ k0 ≤ z ∨ k0 = 0 := Or.inr (by
              have h7 : 10 ^ k0 = 1 := (lN_eq (by omega) (by decide)).mp ((lg_cmp_eq _ _).mp c_45)
              exact (Nat.pow_eq_one.mp h7).resolve_left (by decide))
            have hrm : pn1 < 8192 := by rw [dgR, if_pos hdo, List.length_cons] at hw2; omega
            refine lv_aload_n hx hb dX4_putNumber_48 rfl (lv_at hl 0 rfl) ?_
            refine lv_ldc2 (v := 48) hx hb hown (hts (.constantLong RX4 46 (48)) (by decide +kernel)) dX4_putNumber_49 ?_
            refine lv_lload_n hx hb dX4_putNumber_52 rfl (lv_at hl 2 rfl) ?_
            refine lv_lload hx hb dX4_putNumber_53 (lv_at hl 3 rfl) ?_
            refine lv_ldiv hx hb dX4_putNumber_55 (fun h => pw_pos (k := k0) (by omega) (by rw [h]; exact Int64.le_refl 0)) ?_
            refine lv_ldc2 (v := 10) hx hb hown (hts (.constantLong RX4 48 (10)) (by decide +kernel)) dX4_putNumber_56 ?_
            refine lv_lrem hx hb dX4_putNumber_59 (by decide) ?_
            refine lv_ladd hx hb dX4_putNumber_60 ?_
            refine lv_l2i hx hb dX4_putNumber_61 rfl ?_
            refine lv_topi (fun z9 ez9 => ?_)
            obtain rfl : z9 = nI (48 + z / 10 ^ k0 % 10) := ez9.trans (digL hz (by omega))
            refine va_callv (va_runV (As := [.int (nI (48 + z / 10 ^ k0 % 10))]) (rest := []) ⟨hx, hb, hml, hown, hts⟩ (c_X4_put l hl0 D y b0 Ls ad G1 pf1 pn1 hPa1 (nI (48 + z / 10 ^ k0 % 10)) hrm (ch16_nI (by omega))) (cwV 1 hts gX4_putNumber_X4_put rfl rfl rfl (by decide +kernel) ⟨(Nat.le_of_ble_eq_true rfl), (Nat.le_of_ble_eq_true rfl)⟩) ⟨WdM_blind, Wd_recv hK hP (ci := 6) rfl hp0 ep0, WdM_at hP hK hN hD hS hb0 hT⟩ rfl rfl hl.1 rfl (lv_room (Nat.le_of_ble_eq_true rfl)) dX4_putNumber_62 ⟨(Nat.le_of_ble_eq_true rfl), (Nat.le_of_ble_eq_true rfl)⟩) hS (fun _ _ h => h) (fun _ h => h) (fun u62 t H locs ht hvm hw62 hB hz1 hk1 hS => ?_)
            obtain ⟨hP, hD⟩ := hB
            rw [ht] at hP
            obtain ⟨g62, rfl, hPa62, hfr62⟩ := hw62
            have frm62 : ∀ j, j ≠ 30 → j ≠ 31 → g62 j = G j := fun j h1 h2 => (hfr62 j h1 h2).trans (hfr1 j h1 h2)
            obtain ⟨hp0, hp1, ep0, ep1, hpn62⟩ := id hPa62
            refine lv_lload hx hb dX4_putNumber_65 (lv_at hl 3 rfl) ?_
            refine lv_ldc2 (v := 10) hx hb hown (hts (.constantLong RX4 48 (10)) (by decide +kernel)) dX4_putNumber_67 ?_
            refine lv_ldiv hx hb dX4_putNumber_70 (by decide) ?_
            refine lv_topl (fun z9 ez9 => ?_)
            obtain rfl : z9 = pw k0 := ez9.trans (pw_div k0 (by omega))
            refine lv_lstore (lv' := [(4, .long (pw k0)), (0, .ref (ad 30)), (1, .int v), (2, .long (lN z))]) hx hb dX4_putNumber_71 hl (by decide) rfl (fun ls hl => ?_)
            refine lv_goto (tgt := 27) hx hb dX4_putNumber_73 (by decide) ?_
            exact ih27 k0 (upd pf1 pn1 (nI (48 + z / 10 ^ k0 % 10))) (pn1 + 1) g62 (by omega) (by omega) hPa62 (by rw [dgR, if_pos hdo] at hw1; exact hw1) (by rw [dgR, if_pos hdo, List.length_cons] at hw2; omega) frm62 _ _ hP hD hS ls (lv_sub hl [1, 2, 3, 0] rfl)
  have hl := lv_entry ([.ref (ad 30), .int v]) (n := 6) (Nat.le_of_ble_eq_true rfl)
  rw [lg_entry_eq]
  generalize (lg_sl ([.ref (ad 30), .int v]) ++ List.replicate (6 - (lg_sl ([.ref (ad 30), .int v])).length) Slot.unset).toArray = ls at hl ⊢
  have hl : lv_has ls 6 [(0, .ref (ad 30)), (1, .int v)] := hl
  refine lv_aload_n hx hb dX4_putNumber_0 rfl (lv_at hl 0 rfl) ?_
  refine lv_bipush (v := 32) hx hb dX4_putNumber_1 (by decide) ?_
  refine va_callv (va_runV (As := [.int 32]) (rest := []) ⟨hx, hb, hml, hown, hts⟩ (c_X4_put l hl0 D y b0 Ls ad G pf pn hPa 32 (by omega) (ch16_nI (v := 32) (by decide))) (cwV 1 hts gX4_putNumber_X4_put rfl rfl rfl (by decide +kernel) ⟨(Nat.le_of_ble_eq_true rfl), (Nat.le_of_ble_eq_true rfl)⟩) ⟨WdM_blind, Wd_recv hK hP (ci := 6) rfl hp0 ep0, WdM_at hP hK hN hD hS hb0 hT⟩ rfl rfl hl.1 rfl (lv_room (Nat.le_of_ble_eq_true rfl)) dX4_putNumber_3 ⟨(Nat.le_of_ble_eq_true rfl), (Nat.le_of_ble_eq_true rfl)⟩) hS (fun _ _ h => h) (fun _ h => h) (fun u3 t H locs ht hvm hw3 hB hz1 hk1 hS => ?_)
  obtain ⟨hP, hD⟩ := hB
  rw [ht] at hP
  obtain ⟨g3, rfl, hPa3, hfr3⟩ := hw3
  have frm3 : ∀ j, j ≠ 30 → j ≠ 31 → g3 j = G j := fun j h1 h2 => (hfr3 j h1 h2).trans (rfl)
  obtain ⟨hp0, hp1, ep0, ep1, hpn3⟩ := id hPa3
  refine lv_iload_n hx hb dX4_putNumber_6 rfl (lv_at hl 1 rfl) ?_
  refine lv_if_ge (tgt := 16) hx hb dX4_putNumber_7 (by decide) (fun c_7 => ?_) (fun c_7 => ?_)
  · refine lv_iload_n hx hb dX4_putNumber_16 rfl (lv_at hl 1 rfl) ?_
    refine lv_i2l hx hb dX4_putNumber_17 rfl ?_
    refine va_mabs_long hx hb (hml.trans hl.1.symm) hown (hts (.methodLink RX4 38 Lib.MathLoose.abs_long.x) (by decide +kernel)) (hts (.static Lib.MathLoose.abs_long.x) (by decide +kernel)) (hts (.initialized "java/lang/Math") (by decide +kernel)) (hts (.code Lib.MathLoose.abs_long.x Lib.MathLoose.abs_long.code 2 (some .long)) (by decide +kernel)) (Nat.le_of_ble_eq_true rfl) (Nat.le_of_ble_eq_true rfl) (Nat.le_of_ble_eq_true rfl) (Nat.le_of_ble_eq_true rfl) dX4_putNumber_18 ?_
    refine lv_topl (fun z9 ez9 => ?_)
    obtain rfl : z9 = lN z := ez9.trans (absL hz hv)
    refine lv_lstore_n (lv' := [(2, .long (lN z)), (0, .ref (ad 30)), (1, .int v)]) hx hb dX4_putNumber_21 rfl hl (by decide) rfl (fun ls hl => ?_)
    refine lv_ldc2 (v := 1000000000) hx hb hown (hts (.constantLong RX4 44 (1000000000)) (by decide +kernel)) dX4_putNumber_22 ?_
    refine lv_topl (fun z9 ez9 => ?_)
    obtain rfl : z9 = pw 10 := ez9.trans (rfl)
    refine lv_lstore (lv' := [(4, .long (pw 10)), (2, .long (lN z)), (0, .ref (ad 30)), (1, .int v)]) hx hb dX4_putNumber_25 hl (by decide) rfl (fun ls hl => ?_)
    exact loop27 11 10 (upd pf pn 32) (pn + 1) g3 (by decide) (by decide) hPa3 (by rw [numC, if_neg (Int32.not_lt.mpr c_7)]; rfl) (by rw [numC, if_neg (Int32.not_lt.mpr c_7)]; simp only [List.length_cons]; omega) frm3 _ _ hP hD hS ls (lv_sub hl [2, 3, 1, 0] rfl)
  · refine lv_aload_n hx hb dX4_putNumber_10 rfl (lv_at hl 0 rfl) ?_
    refine lv_bipush (v := 45) hx hb dX4_putNumber_11 (by decide) ?_
    refine va_callv (va_runV (As := [.int 45]) (rest := []) ⟨hx, hb, hml, hown, hts⟩ (c_X4_put l hl0 D y b0 Ls ad g3 (upd pf pn 32) (pn + 1) hPa3 45 (by omega) (ch16_nI (v := 45) (by decide))) (cwV 1 hts gX4_putNumber_X4_put rfl rfl rfl (by decide +kernel) ⟨(Nat.le_of_ble_eq_true rfl), (Nat.le_of_ble_eq_true rfl)⟩) ⟨WdM_blind, Wd_recv hK hP (ci := 6) rfl hp0 ep0, WdM_at hP hK hN hD hS hb0 hT⟩ rfl rfl hl.1 rfl (lv_room (Nat.le_of_ble_eq_true rfl)) dX4_putNumber_13 ⟨(Nat.le_of_ble_eq_true rfl), (Nat.le_of_ble_eq_true rfl)⟩) hS (fun _ _ h => h) (fun _ h => h) (fun u13 t H locs ht hvm hw13 hB hz1 hk1 hS => ?_)
    obtain ⟨hP, hD⟩ := hB
    rw [ht] at hP
    obtain ⟨g13, rfl, hPa13, hfr13⟩ := hw13
    have frm13 : ∀ j, j ≠ 30 → j ≠ 31 → g13 j = G j := fun j h1 h2 => (hfr13 j h1 h2).trans (frm3 j h1 h2)
    obtain ⟨hp0, hp1, ep0, ep1, hpn13⟩ := id hPa13
    refine lv_iload_n hx hb dX4_putNumber_16 rfl (lv_at hl 1 rfl) ?_
    refine lv_i2l hx hb dX4_putNumber_17 rfl ?_
    refine va_mabs_long hx hb (hml.trans hl.1.symm) hown (hts (.methodLink RX4 38 Lib.MathLoose.abs_long.x) (by decide +kernel)) (hts (.static Lib.MathLoose.abs_long.x) (by decide +kernel)) (hts (.initialized "java/lang/Math") (by decide +kernel)) (hts (.code Lib.MathLoose.abs_long.x Lib.MathLoose.abs_long.code 2 (some .long)) (by decide +kernel)) (Nat.le_of_ble_eq_true rfl) (Nat.le_of_ble_eq_true rfl) (Nat.le_of_ble_eq_true rfl) (Nat.le_of_ble_eq_true rfl) dX4_putNumber_18 ?_
    refine lv_topl (fun z9 ez9 => ?_)
    obtain rfl : z9 = lN z := ez9.trans (absL hz hv)
    refine lv_lstore_n (lv' := [(2, .long (lN z)), (0, .ref (ad 30)), (1, .int v)]) hx hb dX4_putNumber_21 rfl hl (by decide) rfl (fun ls hl => ?_)
    refine lv_ldc2 (v := 1000000000) hx hb hown (hts (.constantLong RX4 44 (1000000000)) (by decide +kernel)) dX4_putNumber_22 ?_
    refine lv_topl (fun z9 ez9 => ?_)
    obtain rfl : z9 = pw 10 := ez9.trans (rfl)
    refine lv_lstore (lv' := [(4, .long (pw 10)), (2, .long (lN z)), (0, .ref (ad 30)), (1, .int v)]) hx hb dX4_putNumber_25 hl (by decide) rfl (fun ls hl => ?_)
    exact loop27 11 10 (upd (upd pf pn 32) (pn + 1) 45) (pn + 1 + 1) g13 (by decide) (by decide) hPa13 (by rw [numC, if_pos (Int32.not_le.mp c_7)]; rfl) (by rw [numC, if_pos (Int32.not_le.mp c_7)]; simp only [List.length_cons]; omega) frm13 _ _ hP hD hS ls (lv_sub hl [2, 3, 1, 0] rfl)

def linC (bm0 bc0 bi0 : Int32) (zm zc : Nat) : List Int32 := (if bi0 = 0 then 66 else 67) :: (numC bm0 zm ++ (numC bc0 zc ++ [10]))
theorem linC_len (bm0 bc0 bi0 : Int32) (zm zc : Nat) : (linC bm0 bc0 bi0 zm zc).length = 1 + (numC bm0 zm).length + (numC bc0 zc).length + 1 := by
  simp only [linC, List.length_cons, List.length_append, List.length_nil]; omega
theorem linC_wr (bm0 bc0 bi0 : Int32) (zm zc : Nat) (pf : Nat → Int32) (pn : Nat) : wrL pf pn (linC bm0 bc0 bi0 zm zc) = upd (wrL (wrL (upd pf pn (if bi0 = 0 then 66 else 67)) (pn + 1) (numC bm0 zm)) (pn + 1 + (numC bm0 zm).length) (numC bc0 zc)) (pn + 1 + (numC bm0 zm).length + (numC bc0 zc).length) 10 := by
  show wrL (upd pf pn _) (pn + 1) (numC bm0 zm ++ (numC bc0 zc ++ [10])) = _
  rw [wrL_app, wrL_app]
  rfl

set_option maxHeartbeats 4000000 in
set_option maxRecDepth 100000 in
/-- Paper.write -/
theorem c_X4_write (l : Launch) (hl0 : l.stackTraces = false) (D : va_G) (y : Nat → ClassId) (b0 : Nat) (Ls : List Nat) (ad : Nat → Nat) (G : Nat → va_E) (pf : Nat → Int32) (pn : Nat) (hPa : PaperAt y Ls ad G pf pn) (o3 bm0 bc0 bi0 : Int32) (q : Nat) (hq : q ∈ Ls) (eq : G q = .inr (2, [.int o3, .int bm0, .int bc0, .int bi0])) (hq31 : q ≠ 30 ∧ q ≠ 31) (zm zc : Nat) (hzm : zm < 2 ^ 30) (hzc : zc < 2 ^ 30) (hqm : bm0 = nI zm ∨ (0 < zm ∧ bm0 = -nI zm)) (hqc : bc0 = nI zc ∨ (0 < zc ∧ bc0 = -nI zc)) (hroom : pn + (linC bm0 bc0 bi0 zm zc).length ≤ 8192) : Met l yX4_write wsX4_write ({ frames := 2, cells := 0, slots := 0, locals := 46 }) (va_Pc [.ref (ad 30), .ref (ad q)] (WdM D y b0 (wl Ls ad G))) (va_Qv (fun (u : va_W) => ∃ G2, u = wl Ls ad G2 ∧ PaperAt y Ls ad G2 (wrL pf pn (linC bm0 bc0 bi0 zm zc)) (pn + (linC bm0 bc0 bi0 zm zc).length) ∧ (∀ j, j ≠ 30 → j ≠ 31 → G2 j = G j)) (WB D b0) (fun q => b0 ≤ q)) 0 0 (fun q => b0 ≤ q) := by
  refine Met.ofW (cc := cX4_write) (maxL := 2) (ret := none) (by decide) rfl ?_
  intro p e s m args below meth c s₁ B hml hv
  obtain ⟨rfl, ⟨hP, hK, hN⟩, hD, hb0, hT⟩ := hv
  have hx := B.exec
  have hb := B.bytes
  have hr := B.returns
  have hts := atoms_spec (ws := wsX4_write) B.pre
  have hown : s.vm.findClass RX4 = some m.cls := findClass_of_methodNamed B.named
  have hlocks := B.notSynchronized
  have hS : va_S (fun q => b0 ≤ q) s.heap s.heap [] := va_S.rf
  have hinX0 : ∀ w ∈ wsX00, w ∈ wsX4_write := by decide +kernel
  obtain ⟨hp0, hp1, ep0, ep1, hpn⟩ := id hPa
  rw [linC_len] at hroom
  have hl := lv_entry ([.ref (ad 30), .ref (ad q)]) (n := 2) (Nat.le_of_ble_eq_true rfl)
  rw [lg_entry_eq]
  generalize (lg_sl ([.ref (ad 30), .ref (ad q)]) ++ List.replicate (2 - (lg_sl ([.ref (ad 30), .ref (ad q)])).length) Slot.unset).toArray = ls at hl ⊢
  have hl : lv_has ls 2 [(0, .ref (ad 30)), (1, .ref (ad q))] := hl
  refine lv_aload_n hx hb dX4_write_0 rfl (lv_at hl 0 rfl) ?_
  refine lv_aload_n hx hb dX4_write_1 rfl (lv_at hl 1 rfl) ?_
  refine pv_getN (ci := 2) (C := RX0) (T := TX0) (N := 4) hx hb hts hinX0 hown hK hP hq eq rfl 3 (by decide) hN (by decide +kernel : Cond.fieldLinkNest RX4 19 "StorageCharge$BillLine" "isCorrection" "Z" "StorageCharge" ∈ nestW) (fun _ h9 => h9) rfl dX4_write_2 ?_
  refine lv_if_eq (tgt := 13) hx hb dX4_write_5 (by decide) (fun c_5 => ?_) (fun c_5 => ?_)
  · refine lv_bipush (v := 66) hx hb dX4_write_13 (by decide) ?_
    refine va_callv (va_runV (As := [.int 66]) (rest := []) ⟨hx, hb, hml, hown, hts⟩ (c_X4_put l hl0 D y b0 Ls ad G pf pn hPa 66 (by omega) (ch16_nI (v := 66) (by decide))) (cwV 1 hts gX4_write_X4_put rfl rfl rfl (by decide +kernel) ⟨(Nat.le_of_ble_eq_true rfl), (Nat.le_of_ble_eq_true rfl)⟩) ⟨WdM_blind, Wd_recv hK hP (ci := 6) rfl hp0 ep0, WdM_at hP hK hN hD hS hb0 hT⟩ rfl rfl hl.1 rfl (lv_room (Nat.le_of_ble_eq_true rfl)) dX4_write_15 ⟨(Nat.le_of_ble_eq_true rfl), (Nat.le_of_ble_eq_true rfl)⟩) hS (fun _ _ h => h) (fun _ h => h) (fun u15 t H locs ht hvm hw15 hB hz1 hk1 hS => ?_)
    obtain ⟨hP, hD⟩ := hB
    rw [ht] at hP
    obtain ⟨g15, rfl, hPa15, hfr15⟩ := hw15
    have frm15 : ∀ j, j ≠ 30 → j ≠ 31 → g15 j = G j := fun j h1 h2 => (hfr15 j h1 h2).trans (rfl)
    obtain ⟨hp0, hp1, ep0, ep1, hpn15⟩ := id hPa15
    have eq := (hfr15 q hq31.1 hq31.2).trans eq
    refine lv_aload_n hx hb dX4_write_18 rfl (lv_at hl 0 rfl) ?_
    refine lv_aload_n hx hb dX4_write_19 rfl (lv_at hl 1 rfl) ?_
    refine pv_getN (ci := 2) (C := RX0) (T := TX0) (N := 4) hx hb hts hinX0 hown hK hP hq eq rfl 1 (by decide) hN (by decide +kernel : Cond.fieldLinkNest RX4 29 "StorageCharge$BillLine" "month" "I" "StorageCharge" ∈ nestW) (fun _ h9 => h9) rfl dX4_write_20 ?_
    refine va_callv (va_runV (As := [.int bm0]) (rest := []) ⟨hx, hb, hml, hown, hts⟩ (c_X4_putNumber l hl0 D y b0 Ls ad g15 (upd pf pn 66) (pn + 1) hPa15 bm0 zm hzm hqm (by omega)) (cwV 1 hts gX4_write_X4_putNumber rfl rfl rfl (by decide +kernel) ⟨(Nat.le_of_ble_eq_true rfl), (Nat.le_of_ble_eq_true rfl)⟩) ⟨WdM_blind, Wd_recv hK hP (ci := 6) rfl hp0 ep0, WdM_at hP hK hN hD hS hb0 hT⟩ rfl rfl hl.1 rfl (lv_room (Nat.le_of_ble_eq_true rfl)) dX4_write_23 ⟨(Nat.le_of_ble_eq_true rfl), (Nat.le_of_ble_eq_true rfl)⟩) hS (fun _ _ h => h) (fun _ h => h) (fun u23 t H locs ht hvm hw23 hB hz1 hk1 hS => ?_)
    obtain ⟨hP, hD⟩ := hB
    rw [ht] at hP
    obtain ⟨g23, rfl, hPa23, hfr23⟩ := hw23
    have frm23 : ∀ j, j ≠ 30 → j ≠ 31 → g23 j = G j := fun j h1 h2 => (hfr23 j h1 h2).trans (frm15 j h1 h2)
    obtain ⟨hp0, hp1, ep0, ep1, hpn23⟩ := id hPa23
    have eq := (hfr23 q hq31.1 hq31.2).trans eq
    refine lv_aload_n hx hb dX4_write_26 rfl (lv_at hl 0 rfl) ?_
    refine lv_aload_n hx hb dX4_write_27 rfl (lv_at hl 1 rfl) ?_
    refine pv_getN (ci := 2) (C := RX0) (T := TX0) (N := 4) hx hb hts hinX0 hown hK hP hq eq rfl 2 (by decide) hN (by decide +kernel : Cond.fieldLinkNest RX4 35 "StorageCharge$BillLine" "cents" "I" "StorageCharge" ∈ nestW) (fun _ h9 => h9) rfl dX4_write_28 ?_
    refine va_callv (va_runV (As := [.int bc0]) (rest := []) ⟨hx, hb, hml, hown, hts⟩ (c_X4_putNumber l hl0 D y b0 Ls ad g23 (wrL (upd pf pn 66) (pn + 1) (numC bm0 zm)) (pn + 1 + (numC bm0 zm).length) hPa23 bc0 zc hzc hqc (by omega)) (cwV 1 hts gX4_write_X4_putNumber rfl rfl rfl (by decide +kernel) ⟨(Nat.le_of_ble_eq_true rfl), (Nat.le_of_ble_eq_true rfl)⟩) ⟨WdM_blind, Wd_recv hK hP (ci := 6) rfl hp0 ep0, WdM_at hP hK hN hD hS hb0 hT⟩ rfl rfl hl.1 rfl (lv_room (Nat.le_of_ble_eq_true rfl)) dX4_write_31 ⟨(Nat.le_of_ble_eq_true rfl), (Nat.le_of_ble_eq_true rfl)⟩) hS (fun _ _ h => h) (fun _ h => h) (fun u31 t H locs ht hvm hw31 hB hz1 hk1 hS => ?_)
    obtain ⟨hP, hD⟩ := hB
    rw [ht] at hP
    obtain ⟨g31, rfl, hPa31, hfr31⟩ := hw31
    have frm31 : ∀ j, j ≠ 30 → j ≠ 31 → g31 j = G j := fun j h1 h2 => (hfr31 j h1 h2).trans (frm23 j h1 h2)
    obtain ⟨hp0, hp1, ep0, ep1, hpn31⟩ := id hPa31
    have eq := (hfr31 q hq31.1 hq31.2).trans eq
    refine lv_aload_n hx hb dX4_write_34 rfl (lv_at hl 0 rfl) ?_
    refine lv_bipush (v := 10) hx hb dX4_write_35 (by decide) ?_
    refine va_callv (va_runV (As := [.int 10]) (rest := []) ⟨hx, hb, hml, hown, hts⟩ (c_X4_put l hl0 D y b0 Ls ad g31 (wrL (wrL (upd pf pn 66) (pn + 1) (numC bm0 zm)) (pn + 1 + (numC bm0 zm).length) (numC bc0 zc)) (pn + 1 + (numC bm0 zm).length + (numC bc0 zc).length) hPa31 10 (by omega) (ch16_nI (v := 10) (by decide))) (cwV 1 hts gX4_write_X4_put rfl rfl rfl (by decide +kernel) ⟨(Nat.le_of_ble_eq_true rfl), (Nat.le_of_ble_eq_true rfl)⟩) ⟨WdM_blind, Wd_recv hK hP (ci := 6) rfl hp0 ep0, WdM_at hP hK hN hD hS hb0 hT⟩ rfl rfl hl.1 rfl (lv_room (Nat.le_of_ble_eq_true rfl)) dX4_write_37 ⟨(Nat.le_of_ble_eq_true rfl), (Nat.le_of_ble_eq_true rfl)⟩) hS (fun _ _ h => h) (fun _ h => h) (fun u37 t H locs ht hvm hw37 hB hz1 hk1 hS => ?_)
    obtain ⟨hP, hD⟩ := hB
    rw [ht] at hP
    obtain ⟨g37, rfl, hPa37, hfr37⟩ := hw37
    have frm37 : ∀ j, j ≠ 30 → j ≠ 31 → g37 j = G j := fun j h1 h2 => (hfr37 j h1 h2).trans (frm31 j h1 h2)
    obtain ⟨hp0, hp1, ep0, ep1, hpn37⟩ := id hPa37
    have eq := (hfr37 q hq31.1 hq31.2).trans eq
    refine W.widen (k := 0) (n := 0) (Nat.le_of_ble_eq_true rfl) (Nat.le_of_ble_eq_true rfl) ?_
    exact W.vret hx hb hr (fun t ht hW => ⟨⟨wl Ls ad g37, rfl, ⟨g37, rfl, by rw [linC_wr, linC_len, if_pos c_5, show pn + (1 + (numC bm0 zm).length + (numC bc0 zc).length + 1) = pn + 1 + (numC bm0 zm).length + (numC bc0 zc).length + 1 by omega]; exact hPa37, frm37⟩, by rw [ht]; exact hP, hD⟩, hS.F ht⟩) hS.2.2 dX4_write_40
  · refine lv_bipush (v := 67) hx hb dX4_write_8 (by decide) ?_
    refine lv_goto (tgt := 15) hx hb dX4_write_10 (by decide) ?_
    refine va_callv (va_runV (As := [.int 67]) (rest := []) ⟨hx, hb, hml, hown, hts⟩ (c_X4_put l hl0 D y b0 Ls ad G pf pn hPa 67 (by omega) (ch16_nI (v := 67) (by decide))) (cwV 1 hts gX4_write_X4_put rfl rfl rfl (by decide +kernel) ⟨(Nat.le_of_ble_eq_true rfl), (Nat.le_of_ble_eq_true rfl)⟩) ⟨WdM_blind, Wd_recv hK hP (ci := 6) rfl hp0 ep0, WdM_at hP hK hN hD hS hb0 hT⟩ rfl rfl hl.1 rfl (lv_room (Nat.le_of_ble_eq_true rfl)) dX4_write_15 ⟨(Nat.le_of_ble_eq_true rfl), (Nat.le_of_ble_eq_true rfl)⟩) hS (fun _ _ h => h) (fun _ h => h) (fun u15 t H locs ht hvm hw15 hB hz1 hk1 hS => ?_)
    obtain ⟨hP, hD⟩ := hB
    rw [ht] at hP
    obtain ⟨g15, rfl, hPa15, hfr15⟩ := hw15
    have frm15 : ∀ j, j ≠ 30 → j ≠ 31 → g15 j = G j := fun j h1 h2 => (hfr15 j h1 h2).trans (rfl)
    obtain ⟨hp0, hp1, ep0, ep1, hpn15⟩ := id hPa15
    have eq := (hfr15 q hq31.1 hq31.2).trans eq
    refine lv_aload_n hx hb dX4_write_18 rfl (lv_at hl 0 rfl) ?_
    refine lv_aload_n hx hb dX4_write_19 rfl (lv_at hl 1 rfl) ?_
    refine pv_getN (ci := 2) (C := RX0) (T := TX0) (N := 4) hx hb hts hinX0 hown hK hP hq eq rfl 1 (by decide) hN (by decide +kernel : Cond.fieldLinkNest RX4 29 "StorageCharge$BillLine" "month" "I" "StorageCharge" ∈ nestW) (fun _ h9 => h9) rfl dX4_write_20 ?_
    refine va_callv (va_runV (As := [.int bm0]) (rest := []) ⟨hx, hb, hml, hown, hts⟩ (c_X4_putNumber l hl0 D y b0 Ls ad g15 (upd pf pn 67) (pn + 1) hPa15 bm0 zm hzm hqm (by omega)) (cwV 1 hts gX4_write_X4_putNumber rfl rfl rfl (by decide +kernel) ⟨(Nat.le_of_ble_eq_true rfl), (Nat.le_of_ble_eq_true rfl)⟩) ⟨WdM_blind, Wd_recv hK hP (ci := 6) rfl hp0 ep0, WdM_at hP hK hN hD hS hb0 hT⟩ rfl rfl hl.1 rfl (lv_room (Nat.le_of_ble_eq_true rfl)) dX4_write_23 ⟨(Nat.le_of_ble_eq_true rfl), (Nat.le_of_ble_eq_true rfl)⟩) hS (fun _ _ h => h) (fun _ h => h) (fun u23 t H locs ht hvm hw23 hB hz1 hk1 hS => ?_)
    obtain ⟨hP, hD⟩ := hB
    rw [ht] at hP
    obtain ⟨g23, rfl, hPa23, hfr23⟩ := hw23
    have frm23 : ∀ j, j ≠ 30 → j ≠ 31 → g23 j = G j := fun j h1 h2 => (hfr23 j h1 h2).trans (frm15 j h1 h2)
    obtain ⟨hp0, hp1, ep0, ep1, hpn23⟩ := id hPa23
    have eq := (hfr23 q hq31.1 hq31.2).trans eq
    refine lv_aload_n hx hb dX4_write_26 rfl (lv_at hl 0 rfl) ?_
    refine lv_aload_n hx hb dX4_write_27 rfl (lv_at hl 1 rfl) ?_
    refine pv_getN (ci := 2) (C := RX0) (T := TX0) (N := 4) hx hb hts hinX0 hown hK hP hq eq rfl 2 (by decide) hN (by decide +kernel : Cond.fieldLinkNest RX4 35 "StorageCharge$BillLine" "cents" "I" "StorageCharge" ∈ nestW) (fun _ h9 => h9) rfl dX4_write_28 ?_
    refine va_callv (va_runV (As := [.int bc0]) (rest := []) ⟨hx, hb, hml, hown, hts⟩ (c_X4_putNumber l hl0 D y b0 Ls ad g23 (wrL (upd pf pn 67) (pn + 1) (numC bm0 zm)) (pn + 1 + (numC bm0 zm).length) hPa23 bc0 zc hzc hqc (by omega)) (cwV 1 hts gX4_write_X4_putNumber rfl rfl rfl (by decide +kernel) ⟨(Nat.le_of_ble_eq_true rfl), (Nat.le_of_ble_eq_true rfl)⟩) ⟨WdM_blind, Wd_recv hK hP (ci := 6) rfl hp0 ep0, WdM_at hP hK hN hD hS hb0 hT⟩ rfl rfl hl.1 rfl (lv_room (Nat.le_of_ble_eq_true rfl)) dX4_write_31 ⟨(Nat.le_of_ble_eq_true rfl), (Nat.le_of_ble_eq_true rfl)⟩) hS (fun _ _ h => h) (fun _ h => h) (fun u31 t H locs ht hvm hw31 hB hz1 hk1 hS => ?_)
    obtain ⟨hP, hD⟩ := hB
    rw [ht] at hP
    obtain ⟨g31, rfl, hPa31, hfr31⟩ := hw31
    have frm31 : ∀ j, j ≠ 30 → j ≠ 31 → g31 j = G j := fun j h1 h2 => (hfr31 j h1 h2).trans (frm23 j h1 h2)
    obtain ⟨hp0, hp1, ep0, ep1, hpn31⟩ := id hPa31
    have eq := (hfr31 q hq31.1 hq31.2).trans eq
    refine lv_aload_n hx hb dX4_write_34 rfl (lv_at hl 0 rfl) ?_
    refine lv_bipush (v := 10) hx hb dX4_write_35 (by decide) ?_
    refine va_callv (va_runV (As := [.int 10]) (rest := []) ⟨hx, hb, hml, hown, hts⟩ (c_X4_put l hl0 D y b0 Ls ad g31 (wrL (wrL (upd pf pn 67) (pn + 1) (numC bm0 zm)) (pn + 1 + (numC bm0 zm).length) (numC bc0 zc)) (pn + 1 + (numC bm0 zm).length + (numC bc0 zc).length) hPa31 10 (by omega) (ch16_nI (v := 10) (by decide))) (cwV 1 hts gX4_write_X4_put rfl rfl rfl (by decide +kernel) ⟨(Nat.le_of_ble_eq_true rfl), (Nat.le_of_ble_eq_true rfl)⟩) ⟨WdM_blind, Wd_recv hK hP (ci := 6) rfl hp0 ep0, WdM_at hP hK hN hD hS hb0 hT⟩ rfl rfl hl.1 rfl (lv_room (Nat.le_of_ble_eq_true rfl)) dX4_write_37 ⟨(Nat.le_of_ble_eq_true rfl), (Nat.le_of_ble_eq_true rfl)⟩) hS (fun _ _ h => h) (fun _ h => h) (fun u37 t H locs ht hvm hw37 hB hz1 hk1 hS => ?_)
    obtain ⟨hP, hD⟩ := hB
    rw [ht] at hP
    obtain ⟨g37, rfl, hPa37, hfr37⟩ := hw37
    have frm37 : ∀ j, j ≠ 30 → j ≠ 31 → g37 j = G j := fun j h1 h2 => (hfr37 j h1 h2).trans (frm31 j h1 h2)
    obtain ⟨hp0, hp1, ep0, ep1, hpn37⟩ := id hPa37
    have eq := (hfr37 q hq31.1 hq31.2).trans eq
    refine W.widen (k := 0) (n := 0) (Nat.le_of_ble_eq_true rfl) (Nat.le_of_ble_eq_true rfl) ?_
    exact W.vret hx hb hr (fun t ht hW => ⟨⟨wl Ls ad g37, rfl, ⟨g37, rfl, by rw [linC_wr, linC_len, if_neg c_5, show pn + (1 + (numC bm0 zm).length + (numC bc0 zc).length + 1) = pn + 1 + (numC bm0 zm).length + (numC bc0 zc).length + 1 by omega]; exact hPa37, frm37⟩, by rw [ht]; exact hP, hD⟩, hS.F ht⟩) hS.2.2 dX4_write_40
