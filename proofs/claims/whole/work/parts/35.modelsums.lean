/-! the model's sums -/
theorem i_sub (a b : Int32) : a - b + (-1) = a - (b + 1) := by simp only [Int32.sub_eq_add_neg, Int32.neg_add, Int32.add_assoc]
def mSt (L O Wh Mu : Nat → Int32) (nl : Nat) (uo uf ut : Nat → Int32) (tn : Nat → Nat) (td tk : Nat → Int32) (o by0 : Int32) (m nu : Nat) : Int32 := sN (fun u => sN (fun j => if mIn uo uf ut o u (30 * m + j) then mCe L O Wh Mu 83 by0 (mK td tk (9 * u) (nI (30 * m + j)) (tn u)) nl else 0) 30) nu
/-- the best discount's line -/
def mB (L O Wh : Nat → Int32) (by0 days : Int32) : Nat → Option Nat
  | 0 => none
  | k + 1 => if L k = 86 ∧ O k = by0 ∧ Wh k ≤ days then (match mB L O Wh by0 days k with | none => some k | some b => if Wh b < Wh k then some k else some b) else mB L O Wh by0 days k
def bI (x : Option Nat) : Int32 := match x with | none => -1 | some b => nI b
theorem mB_lt {L O Wh : Nat → Int32} {by0 days : Int32} : ∀ {n b : Nat}, mB L O Wh by0 days n = some b → b < n := by
  intro n
  induction n with
  | zero => intro b h; cases h
  | succ n ih =>
    intro b h
    rw [mB] at h
    split at h
    · split at h
      · cases h; omega
      · rename_i b2 hb2
        have := ih hb2
        split at h <;> (cases h; omega)
    · have := ih h; omega
theorem bI_some {x : Option Nat} {n : Nat} (hn : n < 2 ^ 30) (hlt : ∀ b, x = some b → b < n) (h : ¬ bI x = -1) : ∃ b, x = some b ∧ b < n ∧ bI x = nI b := by
  cases x with
  | none => exact absurd rfl h
  | some b => exact ⟨b, rfl, hlt b rfl, rfl⟩
theorem bI_none {x : Option Nat} {n : Nat} (hn : n < 2 ^ 30) (hlt : ∀ b, x = some b → b < n) (h : bI x = -1) : x = none := by
  cases x with
  | none => rfl
  | some b =>
    exfalso
    have h1 := hlt b rfl
    have h2 : (nI b).toInt = (-1 : Int32).toInt := congrArg Int32.toInt h
    rw [nI_toInt (by omega)] at h2
    have h3 : (-1 : Int32).toInt = -1 := by decide
    omega
def mStF (L O Wh Mu : Nat → Int32) (nl : Nat) (uo uf ut : Nat → Int32) (tn : Nat → Nat) (td tk : Nat → Int32) (o by0 : Int32) (m nu : Nat) : Int32 :=
  match mB L O Wh by0 (mDay uo uf ut o m nu) nl with
  | none => mSt L O Wh Mu nl uo uf ut tn td tk o by0 m nu
  | some b => mSt L O Wh Mu nl uo uf ut tn td tk o by0 m nu - mSt L O Wh Mu nl uo uf ut tn td tk o by0 m nu * Mu b / 100
theorem mStF_none {L O Wh Mu : Nat → Int32} {nl : Nat} {uo uf ut : Nat → Int32} {tn : Nat → Nat} {td tk : Nat → Int32} {o by0 : Int32} {m nu : Nat} (h : mB L O Wh by0 (mDay uo uf ut o m nu) nl = none) : mStF L O Wh Mu nl uo uf ut tn td tk o by0 m nu = mSt L O Wh Mu nl uo uf ut tn td tk o by0 m nu := by rw [mStF, h]
theorem mStF_some {L O Wh Mu : Nat → Int32} {nl : Nat} {uo uf ut : Nat → Int32} {tn : Nat → Nat} {td tk : Nat → Int32} {o by0 : Int32} {m nu : Nat} {b : Nat} (h : mB L O Wh by0 (mDay uo uf ut o m nu) nl = some b) : mStF L O Wh Mu nl uo uf ut tn td tk o by0 m nu = mSt L O Wh Mu nl uo uf ut tn td tk o by0 m nu - mSt L O Wh Mu nl uo uf ut tn td tk o by0 m nu * Mu b / 100 := by rw [mStF, h]
def mHa (L O Wh Mu : Nat → Int32) (nl : Nat) (mo mk md mp : Nat → Int32) (o by0 : Int32) (m : Int32) (nm : Nat) : Int32 := sN (fun k => if mo k = o ∧ md k / 30 = m then mp k * mCe L O Wh Mu 72 by0 (mk k) nl else 0) nm
def mSum (A : Nat → Nat → Int32) (nl nu nm : Nat) (tn : Nat → Nat) (o by0 : Int32) (m : Nat) : Int32 := mxI (mStF (A 4) (A 5) (A 6) (A 7) nl (A 15) (A 16) (A 17) tn (A 19) (A 20) o by0 m nu + mHa (A 4) (A 5) (A 6) (A 7) nl (A 22) (A 23) (A 24) (A 25) o by0 (nI m) nm) (mCe (A 4) (A 5) (A 6) (A 7) 77 by0 0 nl)

set_option maxHeartbeats 4000000 in
set_option maxRecDepth 100000 in
/-- unitDays -/
theorem c_X8_unitDays (l : Launch) (D : va_G) (y : Nat → ClassId) (Ls : List Nat) (ad : Nat → Nat) (G : Nat → va_E) (F : Nat → Int32) (A : Nat → Nat → Int32) (hM : ModelAt y Ls ad G F A) (nu : Nat) (h14 : F 14 = nI nu) (hnu : nu ≤ 24) (o : Int32) (m0 : Nat) (hm : m0 < 120) : Met l yX8_unitDays wsX8_unitDays ({ frames := 1, cells := 0, slots := 0, locals := 22 }) (va_Pc [.ref (ad 100), .int o, .int (nI m0)] (Wd D y (wl Ls ad G))) (vp_Si (fun r => r = mDay (A 15) (A 16) (A 17) o m0 nu)) 0 0 (fun _ => False) := by
  refine Met.ofW (cc := cX8_unitDays) (maxL := 6) (ret := (some .int)) (by decide) rfl ?_
  intro p e s m args below meth c s₁ B hml hv
  obtain ⟨rfl, hP, hK, hN⟩ := hv
  have hx := B.exec
  have hb := B.bytes
  have hr := B.returns
  have hts := atoms_spec (ws := wsX8_unitDays) B.pre
  have hown : s.vm.findClass RX8 = some m.cls := findClass_of_methodNamed B.named
  have hlocks := B.notSynchronized
  have hinX8 : ∀ w ∈ wsX80, w ∈ wsX8_unitDays := by decide +kernel
  have eM : G 100 = .inr (10, [.int (F 0), .int (F 1), .ref (ad 103), .int (F 3), .ref (ad 105), .ref (ad 106), .ref (ad 107), .ref (ad 108), .int (F 8), .ref (ad 110), .ref (ad 111), .ref (ad 112), .ref (ad 113), .int (F 13), .int (nI nu), .ref (ad 116), .ref (ad 117), .ref (ad 118), .ref (ad 119), .ref (ad 120), .ref (ad 121), .int (F 21), .ref (ad 123), .ref (ad 124), .ref (ad 125), .ref (ad 126), .int (F 26), .ref (ad 128), .ref (ad 129), .ref (ad 130), .ref (ad 131), .ref (ad 132), .int (F 32), .ref (ad 134)]) := hM.2.1.trans (by rw [mfs, h14])
  obtain ⟨j15, a15⟩ : 116 ∈ Ls ∧ G 116 = .inl (y 0, 24, .inl (A 15)) := hM.2.2 15 (by decide)
  obtain ⟨j16, a16⟩ : 117 ∈ Ls ∧ G 117 = .inl (y 0, 24, .inl (A 16)) := hM.2.2 16 (by decide)
  obtain ⟨j17, a17⟩ : 118 ∈ Ls ∧ G 118 = .inl (y 0, 24, .inl (A 17)) := hM.2.2 17 (by decide)
  have loop5 : ∀ (n : Nat) (i : Nat) (k : Int32), i ≤ nu → nu < i + n → k = sN (fun u => sN (fun j => if mIn (A 15) (A 16) (A 17) o u (30 * m0 + j) then 1 else 0) 30) i → ∀ ls : Array Slot, lv_has ls 6 [(0, .ref (ad 100)), (1, .int o), (2, .int (nI m0)), (3, .int k), (4, .int (nI i))] → W p l e (headSpec wsX8_unitDays ({ frames := 1, cells := 0, slots := 0, locals := 22 })).room s m ([.ref (ad 100), .int o, .int (nI m0)] : List Value).toArray below meth c s.heap [] 0 0 (MQ below (vp_Si (fun r => r = mDay (A 15) (A 16) (A 17) o m0 nu)) ([.ref (ad 100), .int o, .int (nI m0)] : List Value).toArray s 0 0 (fun _ => False)) (F0 m 5 ls []) := by
    intro n
    induction n with
    | zero =>
      intro i k hi hn; exact absurd hn (by omega)
    | succ n ih5 =>
      intro i k hi hn ek ls hl
      have loop20 : ∀ (n : Nat) (j : Nat) (k : Int32), i < nu → j ≤ 30 → 30 < j + n → k = sN (fun u => sN (fun j => if mIn (A 15) (A 16) (A 17) o u (30 * m0 + j) then 1 else 0) 30) i + sN (fun j => if mIn (A 15) (A 16) (A 17) o i (30 * m0 + j) then 1 else 0) j → ∀ ls : Array Slot, lv_has ls 6 [(0, .ref (ad 100)), (1, .int o), (2, .int (nI m0)), (3, .int k), (4, .int (nI i)), (5, .int (nI (30 * m0 + j)))] → W p l e (headSpec wsX8_unitDays ({ frames := 1, cells := 0, slots := 0, locals := 22 })).room s m ([.ref (ad 100), .int o, .int (nI m0)] : List Value).toArray below meth c s.heap [] 0 0 (MQ below (vp_Si (fun r => r = mDay (A 15) (A 16) (A 17) o m0 nu)) ([.ref (ad 100), .int o, .int (nI m0)] : List Value).toArray s 0 0 (fun _ => False)) (F0 m 20 ls []) := by
        intro n
        induction n with
        | zero =>
          intro j k hlt hj hn; exact absurd hn (by omega)
        | succ n ih20 =>
          intro j k hlt hj hn ek ls hl
          refine lv_iload hx hb dX8_unitDays_20 (lv_at hl 5 rfl) ?_
          refine lv_bipush (v := 30) hx hb dX8_unitDays_22 (by decide) ?_
          refine lv_iload_n hx hb dX8_unitDays_24 rfl (lv_at hl 2 rfl) ?_
          refine lv_imul hx hb dX8_unitDays_25 ?_
          refine lv_bipush (v := 30) hx hb dX8_unitDays_26 (by decide) ?_
          refine lv_iadd hx hb dX8_unitDays_28 ?_
          refine lv_topi (fun z9 ez9 => ?_)
          obtain rfl : z9 = nI (30 * m0 + 30) := ez9.trans (by rw [day1, show (30 : Int32) = nI 30 from rfl, nI_add])
          refine lv_icmp_ge (tgt := 79) hx hb dX8_unitDays_29 (by decide) (fun c_29 => ?_) (fun c_29 => ?_)
          · have hgj : j = 30 := by
              have h8 := Nat.le_of_not_lt (fun h : 30 * m0 + j < 30 * m0 + 30 => absurd c_29 (nI_ge h (by omega)))
              omega
            refine lv_iinc (v := nI (i + 1)) (lv' := [(4, .int (nI (i + 1))), (0, .ref (ad 100)), (1, .int o), (2, .int (nI m0)), (3, .int k), (5, .int (nI (30 * m0 + j)))]) hx hb dX8_unitDays_79 hl (k := 4) rfl (nI_1 i) (by decide) rfl (fun ls hl => ?_)
            refine lv_goto (tgt := 5) hx hb dX8_unitDays_82 (by decide) ?_
            exact ih5 (i + 1) k (by omega) (by omega) (by rw [sN, ek, hgj]) ls (lv_sub hl [1, 2, 3, 4, 0] rfl)
          · have hlj : j < 30 := Nat.lt_of_not_le fun h => c_29 (nI_le (by omega) (by omega))
            refine lv_iload_n hx hb dX8_unitDays_32 rfl (lv_at hl 3 rfl) ?_
            refine lv_aload_n hx hb dX8_unitDays_33 rfl (lv_at hl 0 rfl) ?_
            refine pv_get (ci := 10) (C := RX8) (T := TX8) (N := 34) hx hb hts hinX8 hown hK hP hM.1 eM rfl 15 (by decide) (hts (.fieldLink RX8 37 "StorageChargeModel" "unitOwner" "[I") (by decide +kernel)) (fun _ h9 => h9) rfl dX8_unitDays_34 ?_
            refine lv_iload hx hb dX8_unitDays_37 (lv_at hl 4 rfl) ?_
            refine pv_iald hx hb hK hP j15 0 a15 rfl (k := i) rfl (by omega) (by decide) dX8_unitDays_39 ?_
            refine lv_iload_n hx hb dX8_unitDays_40 rfl (lv_at hl 1 rfl) ?_
            refine lv_icmp_ne (tgt := 70) hx hb dX8_unitDays_41 (by decide) (fun c_41 => ?_) (fun c_41 => ?_)
            · refine lv_iconst (v := 0) hx hb dX8_unitDays_70 (by decide) ?_
              refine lv_iadd hx hb dX8_unitDays_71 ?_
              refine lv_topi (fun x_72 ex_72 => ?_)
              refine lv_istore_n (lv' := [(3, .int x_72), (0, .ref (ad 100)), (1, .int o), (2, .int (nI m0)), (4, .int (nI i)), (5, .int (nI (30 * m0 + j)))]) hx hb dX8_unitDays_72 rfl hl (by decide) rfl (fun ls hl => ?_)
              refine lv_iinc (v := nI (30 * m0 + j + 1)) (lv' := [(5, .int (nI (30 * m0 + j + 1))), (3, .int x_72), (0, .ref (ad 100)), (1, .int o), (2, .int (nI m0)), (4, .int (nI i))]) hx hb dX8_unitDays_73 hl (k := 5) rfl (nI_1 _) (by decide) rfl (fun ls hl => ?_)
              refine lv_goto (tgt := 20) hx hb dX8_unitDays_76 (by decide) ?_
              exact ih20 (j + 1) x_72 hlt (by omega) (by omega) (by first | rw [sN, if_neg (fun h => c_41 h.1), ex_72, ek, Int32.add_assoc] | rw [sN, if_neg (fun h => hw9 h.2), ex_72, ek, Int32.add_assoc] | rw [sN, if_pos ⟨c_41, hw9⟩, ex_72, ek, Int32.add_assoc]) ls (lv_sub hl [2, 3, 4, 1, 5, 0] rfl)
            · refine lv_iload hx hb dX8_unitDays_44 (lv_at hl 5 rfl) ?_
              refine lv_aload_n hx hb dX8_unitDays_46 rfl (lv_at hl 0 rfl) ?_
              refine pv_get (ci := 10) (C := RX8) (T := TX8) (N := 34) hx hb hts hinX8 hown hK hP hM.1 eM rfl 16 (by decide) (hts (.fieldLink RX8 40 "StorageChargeModel" "from" "[I") (by decide +kernel)) (fun _ h9 => h9) rfl dX8_unitDays_47 ?_
              refine lv_iload hx hb dX8_unitDays_50 (lv_at hl 4 rfl) ?_
              refine pv_iald hx hb hK hP j16 0 a16 rfl (k := i) rfl (by omega) (by decide) dX8_unitDays_52 ?_
              refine lv_aload_n hx hb dX8_unitDays_53 rfl (lv_at hl 0 rfl) ?_
              refine pv_get (ci := 10) (C := RX8) (T := TX8) (N := 34) hx hb hts hinX8 hown hK hP hM.1 eM rfl 17 (by decide) (hts (.fieldLink RX8 43 "StorageChargeModel" "to" "[I") (by decide +kernel)) (fun _ h9 => h9) rfl dX8_unitDays_54 ?_
              refine lv_iload hx hb dX8_unitDays_57 (lv_at hl 4 rfl) ?_
              refine pv_iald hx hb hK hP j17 0 a17 rfl (k := i) rfl (by omega) (by decide) dX8_unitDays_59 ?_
              refine vp_callSi (va_Run.run (va_runS (As := [.int (nI (30 * m0 + j)), .int ((A 16) i), .int ((A 17) i)]) (rest := [.int k]) ⟨hx, hb, hml, hown, hts⟩ (c_X8_in l (nI (30 * m0 + j)) (A 16 i) (A 17 i)) (va_cwS 3 hts gX8_unitDays_X8_in rfl rfl rfl (by decide +kernel) ⟨Nat.le_of_ble_eq_true rfl, Nat.le_of_ble_eq_true rfl⟩) ⟨fun _ _ _ _ q => q, fun U hU hW => ⟨rfl, trivial⟩⟩ rfl rfl hl.1 rfl (lv_room (Nat.le_of_ble_eq_true rfl)) dX8_unitDays_60 ⟨Nat.zero_le _, Nat.zero_le _⟩)) (fun r_60 hr_60 => ?_)
              refine lv_if_eq (tgt := 70) hx hb dX8_unitDays_63 (by decide) (fun c_63 => ?_) (fun c_63 => ?_)
              · have hw9 : ¬ (A 16 i ≤ nI (30 * m0 + j) ∧ nI (30 * m0 + j) ≤ A 17 i) := wI_eq0.mp (by rw [← hr_60]; exact c_63)
                refine lv_iconst (v := 0) hx hb dX8_unitDays_70 (by decide) ?_
                refine lv_iadd hx hb dX8_unitDays_71 ?_
                refine lv_topi (fun x_72 ex_72 => ?_)
                refine lv_istore_n (lv' := [(3, .int x_72), (0, .ref (ad 100)), (1, .int o), (2, .int (nI m0)), (4, .int (nI i)), (5, .int (nI (30 * m0 + j)))]) hx hb dX8_unitDays_72 rfl hl (by decide) rfl (fun ls hl => ?_)
                refine lv_iinc (v := nI (30 * m0 + j + 1)) (lv' := [(5, .int (nI (30 * m0 + j + 1))), (3, .int x_72), (0, .ref (ad 100)), (1, .int o), (2, .int (nI m0)), (4, .int (nI i))]) hx hb dX8_unitDays_73 hl (k := 5) rfl (nI_1 _) (by decide) rfl (fun ls hl => ?_)
                refine lv_goto (tgt := 20) hx hb dX8_unitDays_76 (by decide) ?_
                exact ih20 (j + 1) x_72 hlt (by omega) (by omega) (by first | rw [sN, if_neg (fun h => c_41 h.1), ex_72, ek, Int32.add_assoc] | rw [sN, if_neg (fun h => hw9 h.2), ex_72, ek, Int32.add_assoc] | rw [sN, if_pos ⟨c_41, hw9⟩, ex_72, ek, Int32.add_assoc]) ls (lv_sub hl [2, 3, 4, 1, 5, 0] rfl)
              · have hw9 : A 16 i ≤ nI (30 * m0 + j) ∧ nI (30 * m0 + j) ≤ A 17 i := Decidable.byContradiction fun h => c_63 (by rw [hr_60]; exact wI_eq0.mpr h)
                refine lv_iconst (v := 1) hx hb dX8_unitDays_66 (by decide) ?_
                refine lv_goto (tgt := 71) hx hb dX8_unitDays_67 (by decide) ?_
                refine lv_iadd hx hb dX8_unitDays_71 ?_
                refine lv_topi (fun x_72 ex_72 => ?_)
                refine lv_istore_n (lv' := [(3, .int x_72), (0, .ref (ad 100)), (1, .int o), (2, .int (nI m0)), (4, .int (nI i)), (5, .int (nI (30 * m0 + j)))]) hx hb dX8_unitDays_72 rfl hl (by decide) rfl (fun ls hl => ?_)
                refine lv_iinc (v := nI (30 * m0 + j + 1)) (lv' := [(5, .int (nI (30 * m0 + j + 1))), (3, .int x_72), (0, .ref (ad 100)), (1, .int o), (2, .int (nI m0)), (4, .int (nI i))]) hx hb dX8_unitDays_73 hl (k := 5) rfl (nI_1 _) (by decide) rfl (fun ls hl => ?_)
                refine lv_goto (tgt := 20) hx hb dX8_unitDays_76 (by decide) ?_
                exact ih20 (j + 1) x_72 hlt (by omega) (by omega) (by first | rw [sN, if_neg (fun h => c_41 h.1), ex_72, ek, Int32.add_assoc] | rw [sN, if_neg (fun h => hw9 h.2), ex_72, ek, Int32.add_assoc] | rw [sN, if_pos ⟨c_41, hw9⟩, ex_72, ek, Int32.add_assoc]) ls (lv_sub hl [2, 3, 4, 1, 5, 0] rfl)
      refine lv_iload hx hb dX8_unitDays_5 (lv_at hl 4 rfl) ?_
      refine lv_aload_n hx hb dX8_unitDays_7 rfl (lv_at hl 0 rfl) ?_
      refine pv_get (ci := 10) (C := RX8) (T := TX8) (N := 34) hx hb hts hinX8 hown hK hP hM.1 eM rfl 14 (by decide) (hts (.fieldLink RX8 134 "StorageChargeModel" "units" "I") (by decide +kernel)) (fun _ h9 => h9) rfl dX8_unitDays_8 ?_
      refine lv_icmp_ge (tgt := 85) hx hb dX8_unitDays_11 (by decide) (fun c_11 => ?_) (fun c_11 => ?_)
      · have hge : nu = i := by
          have h8 := Nat.le_of_not_lt (fun h : i < nu => absurd c_11 (nI_ge h (by omega)))
          omega
        refine lv_iload_n hx hb dX8_unitDays_85 rfl (lv_at hl 3 rfl) ?_
        exact W.iret (v := k) hx hb hr (fun t ht hW => ⟨k, rfl, (by rw [ek, hge]; rfl), ht⟩) (fun q h => by cases h) dX8_unitDays_86
      · have hlt : i < nu := Nat.lt_of_not_le fun h => c_11 (nI_le h (by omega))
        refine lv_bipush (v := 30) hx hb dX8_unitDays_14 (by decide) ?_
        refine lv_iload_n hx hb dX8_unitDays_16 rfl (lv_at hl 2 rfl) ?_
        refine lv_imul hx hb dX8_unitDays_17 ?_
        refine lv_topi (fun z9 ez9 => ?_)
        obtain rfl : z9 = nI (30 * m0) := ez9.trans (day1 m0)
        refine lv_istore (lv' := [(5, .int (nI (30 * m0))), (0, .ref (ad 100)), (1, .int o), (2, .int (nI m0)), (3, .int k), (4, .int (nI i))]) hx hb dX8_unitDays_18 hl (by decide) rfl (fun ls hl => ?_)
        exact loop20 31 0 k hlt (by omega) (by omega) (by rw [ek]; exact (Int32.add_zero _).symm) ls (lv_sub hl [1, 2, 3, 4, 5, 0] rfl)
  have hl := lv_entry ([.ref (ad 100), .int o, .int (nI m0)]) (n := 6) (Nat.le_of_ble_eq_true rfl)
  rw [lg_entry_eq]
  generalize (lg_sl ([.ref (ad 100), .int o, .int (nI m0)]) ++ List.replicate (6 - (lg_sl ([.ref (ad 100), .int o, .int (nI m0)])).length) Slot.unset).toArray = ls at hl ⊢
  have hl : lv_has ls 6 [(0, .ref (ad 100)), (1, .int o), (2, .int (nI m0))] := hl
  refine lv_iconst (v := 0) hx hb dX8_unitDays_0 (by decide) ?_
  refine lv_istore_n (lv' := [(3, .int 0), (0, .ref (ad 100)), (1, .int o), (2, .int (nI m0))]) hx hb dX8_unitDays_1 rfl hl (by decide) rfl (fun ls hl => ?_)
  refine lv_iconst (v := 0) hx hb dX8_unitDays_2 (by decide) ?_
  refine lv_istore (lv' := [(4, .int 0), (3, .int 0), (0, .ref (ad 100)), (1, .int o), (2, .int (nI m0))]) hx hb dX8_unitDays_3 hl (by decide) rfl (fun ls hl => ?_)
  exact loop5 (nu + 1) 0 0 (by omega) (by omega) rfl ls (lv_sub hl [2, 3, 4, 1, 0] rfl)

set_option maxHeartbeats 4000000 in
set_option maxRecDepth 100000 in
/-- storage -/
theorem c_X8_storage (l : Launch) (D : va_G) (y : Nat → ClassId) (Ls : List Nat) (ad : Nat → Nat) (G : Nat → va_E) (F : Nat → Int32) (A : Nat → Nat → Int32) (hM : ModelAt y Ls ad G F A) (nu : Nat) (h14 : F 14 = nI nu) (nl : Nat) (h3 : F 3 = nI nl) (hnu : nu ≤ 24) (hnl : nl ≤ 60) (tn : Nat → Nat) (htn : ∀ u, u < nu → A 18 u = nI (tn u) ∧ tn u ≤ 9) (o by0 : Int32) (m0 : Nat) (hm : m0 < 120) : Met l yX8_storage wsX8_storage ({ frames := 2, cells := 0, slots := 0, locals := 48 }) (va_Pc [.ref (ad 100), .int o, .int by0, .int (nI m0)] (Wd D y (wl Ls ad G))) (vp_Si (fun r => r = mStF (A 4) (A 5) (A 6) (A 7) nl (A 15) (A 16) (A 17) tn (A 19) (A 20) o by0 m0 nu)) 0 0 (fun _ => False) := by
  refine Met.ofW (cc := cX8_storage) (maxL := 8) (ret := (some .int)) (by decide) rfl ?_
  intro p e s m args below meth c s₁ B hml hv
  obtain ⟨rfl, hP, hK, hN⟩ := hv
  have hx := B.exec
  have hb := B.bytes
  have hr := B.returns
  have hts := atoms_spec (ws := wsX8_storage) B.pre
  have hown : s.vm.findClass RX8 = some m.cls := findClass_of_methodNamed B.named
  have hlocks := B.notSynchronized
  have hinX8 : ∀ w ∈ wsX80, w ∈ wsX8_storage := by decide +kernel
  have eM : G 100 = .inr (10, [.int (F 0), .int (F 1), .ref (ad 103), .int (nI nl), .ref (ad 105), .ref (ad 106), .ref (ad 107), .ref (ad 108), .int (F 8), .ref (ad 110), .ref (ad 111), .ref (ad 112), .ref (ad 113), .int (F 13), .int (nI nu), .ref (ad 116), .ref (ad 117), .ref (ad 118), .ref (ad 119), .ref (ad 120), .ref (ad 121), .int (F 21), .ref (ad 123), .ref (ad 124), .ref (ad 125), .ref (ad 126), .int (F 26), .ref (ad 128), .ref (ad 129), .ref (ad 130), .ref (ad 131), .ref (ad 132), .int (F 32), .ref (ad 134)]) := hM.2.1.trans (by rw [mfs, h14, h3])
  obtain ⟨j15, a15⟩ : 116 ∈ Ls ∧ G 116 = .inl (y 0, 24, .inl (A 15)) := hM.2.2 15 (by decide)
  obtain ⟨j16, a16⟩ : 117 ∈ Ls ∧ G 117 = .inl (y 0, 24, .inl (A 16)) := hM.2.2 16 (by decide)
  obtain ⟨j17, a17⟩ : 118 ∈ Ls ∧ G 118 = .inl (y 0, 24, .inl (A 17)) := hM.2.2 17 (by decide)
  obtain ⟨j4, a4⟩ : 105 ∈ Ls ∧ G 105 = .inl (y 0, 60, .inl (A 4)) := hM.2.2 4 (by decide)
  obtain ⟨j5, a5⟩ : 106 ∈ Ls ∧ G 106 = .inl (y 0, 60, .inl (A 5)) := hM.2.2 5 (by decide)
  obtain ⟨j6, a6⟩ : 107 ∈ Ls ∧ G 107 = .inl (y 0, 60, .inl (A 6)) := hM.2.2 6 (by decide)
  obtain ⟨j7, a7⟩ : 108 ∈ Ls ∧ G 108 = .inl (y 0, 60, .inl (A 7)) := hM.2.2 7 (by decide)
  have loop116 : ∀ (n : Nat) (i : Nat) (x6 x4 x5 : Int32), i ≤ nl → nl < i + n → x4 = mSt (A 4) (A 5) (A 6) (A 7) nl (A 15) (A 16) (A 17) tn (A 19) (A 20) o by0 m0 nu → x5 = mDay (A 15) (A 16) (A 17) o m0 nu → x6 = bI (mB (A 4) (A 5) (A 6) by0 (mDay (A 15) (A 16) (A 17) o m0 nu) i) → ∀ ls : Array Slot, lv_has ls 8 [(0, .ref (ad 100)), (1, .int o), (2, .int by0), (3, .int (nI m0)), (4, .int x4), (5, .int x5), (6, .int x6), (7, .int (nI i))] → W p l e (headSpec wsX8_storage ({ frames := 2, cells := 0, slots := 0, locals := 48 })).room s m ([.ref (ad 100), .int o, .int by0, .int (nI m0)] : List Value).toArray below meth c s.heap [] 0 0 (MQ below (vp_Si (fun r => r = mStF (A 4) (A 5) (A 6) (A 7) nl (A 15) (A 16) (A 17) tn (A 19) (A 20) o by0 m0 nu)) ([.ref (ad 100), .int o, .int by0, .int (nI m0)] : List Value).toArray s 0 0 (fun _ => False)) (F0 m 116 ls []) := by
    intro n
    induction n with
    | zero =>
      intro i x6 x4 x5 hi hn; exact absurd hn (by omega)
    | succ n ih116 =>
      intro i x6 x4 x5 hi hn e4 e5 e6 ls hl
      refine lv_iload hx hb dX8_storage_116 (lv_at hl 7 rfl) ?_
      refine lv_aload_n hx hb dX8_storage_118 rfl (lv_at hl 0 rfl) ?_
      refine pv_get (ci := 10) (C := RX8) (T := TX8) (N := 34) hx hb hts hinX8 hown hK hP hM.1 eM rfl 3 (by decide) (hts (.fieldLink RX8 124 "StorageChargeModel" "lines" "I") (by decide +kernel)) (fun _ h9 => h9) rfl dX8_storage_119 ?_
      refine lv_icmp_ge (tgt := 196) hx hb dX8_storage_122 (by decide) (fun c_122 => ?_) (fun c_122 => ?_)
      · have hge : nl = i := by
          have h8 := Nat.le_of_not_lt (fun h : i < nl => absurd c_122 (nI_ge h (by omega)))
          omega
        refine lv_iload hx hb dX8_storage_196 (lv_at hl 6 rfl) ?_
        refine lv_iconst (v := (-1)) hx hb dX8_storage_198 (by decide) ?_
        refine lv_icmp_ne (tgt := 207) hx hb dX8_storage_199 (by decide) (fun c_199 => ?_) (fun c_199 => ?_)
        · obtain ⟨b9, hb9, hbl9, eb0⟩ := bI_some (n := i) (by omega) (fun b h => mB_lt h) (by rw [← e6]; exact c_199)
          have eb9 : x6 = nI b9 := e6.trans eb0
          refine lv_iload hx hb dX8_storage_207 (lv_at hl 4 rfl) ?_
          refine lv_iload hx hb dX8_storage_209 (lv_at hl 4 rfl) ?_
          refine lv_aload_n hx hb dX8_storage_211 rfl (lv_at hl 0 rfl) ?_
          refine pv_get (ci := 10) (C := RX8) (T := TX8) (N := 34) hx hb hts hinX8 hown hK hP hM.1 eM rfl 7 (by decide) (hts (.fieldLink RX8 22 "StorageChargeModel" "much" "[I") (by decide +kernel)) (fun _ h9 => h9) rfl dX8_storage_212 ?_
          refine lv_iload hx hb dX8_storage_215 (lv_at hl 6 rfl) ?_
          refine pv_iald hx hb hK hP j7 0 a7 rfl (k := b9) eb9 (by omega) (by decide) dX8_storage_217 ?_
          refine lv_imul hx hb dX8_storage_218 ?_
          refine lv_bipush (v := 100) hx hb dX8_storage_219 (by decide) ?_
          refine lv_idiv hx hb dX8_storage_221 (by decide) ?_
          refine lv_isub hx hb dX8_storage_222 ?_
          exact W.iret (v := (x4 - ((x4 * ((A 7) b9)) / 100))) hx hb hr (fun t ht hW => ⟨(x4 - ((x4 * ((A 7) b9)) / 100)), rfl, (by rw [mStF_some (b := b9) (by rw [hge]; exact hb9), e4]), ht⟩) (fun q h => by cases h) dX8_storage_223
        · have hb9 := bI_none (n := i) (by omega) (fun b h => mB_lt h) (by rw [← e6]; exact c_199)
          refine lv_iload hx hb dX8_storage_202 (lv_at hl 4 rfl) ?_
          refine lv_goto (tgt := 223) hx hb dX8_storage_204 (by decide) ?_
          exact W.iret (v := x4) hx hb hr (fun t ht hW => ⟨x4, rfl, (by rw [mStF_none (by rw [hge]; exact hb9), e4]), ht⟩) (fun q h => by cases h) dX8_storage_223
      · have hlt : i < nl := Nat.lt_of_not_le fun h => c_122 (nI_le h (by omega))
        refine lv_aload_n hx hb dX8_storage_125 rfl (lv_at hl 0 rfl) ?_
        refine pv_get (ci := 10) (C := RX8) (T := TX8) (N := 34) hx hb hts hinX8 hown hK hP hM.1 eM rfl 4 (by decide) (hts (.fieldLink RX8 13 "StorageChargeModel" "letter" "[I") (by decide +kernel)) (fun _ h9 => h9) rfl dX8_storage_126 ?_
        refine lv_iload hx hb dX8_storage_129 (lv_at hl 7 rfl) ?_
        refine pv_iald hx hb hK hP j4 0 a4 rfl (k := i) rfl (by omega) (by decide) dX8_storage_131 ?_
        refine lv_bipush (v := 86) hx hb dX8_storage_132 (by decide) ?_
        refine lv_icmp_ne (tgt := 190) hx hb dX8_storage_134 (by decide) (fun c_134 => ?_) (fun c_134 => ?_)
        · refine lv_iinc (v := nI (i + 1)) (lv' := [(7, .int (nI (i + 1))), (0, .ref (ad 100)), (1, .int o), (2, .int by0), (3, .int (nI m0)), (4, .int x4), (5, .int x5), (6, .int x6)]) hx hb dX8_storage_190 hl (k := 7) rfl (nI_1 i) (by decide) rfl (fun ls hl => ?_)
          refine lv_goto (tgt := 116) hx hb dX8_storage_193 (by decide) ?_
          exact ih116 (i + 1) (x6) x4 x5 (by omega) (by omega) e4 e5 (by first | rw [mB, if_neg (fun h => c_134 h.1), e6] | rw [mB, if_neg (fun h => c_145 h.2.1), e6] | rw [mB, if_neg (fun h => c_157 (by rw [e5]; exact h.2.2)), e6] | (rw [mB, if_pos ⟨c_134, c_145, by rw [← e5]; exact c_157⟩, hb9]; rfl) | (rw [mB, if_pos ⟨c_134, c_145, by rw [← e5]; exact c_157⟩, hb9]; show _ = bI (if _ then _ else _); rw [if_pos (Int32.not_le.mp c_183)]; rfl) | (rw [mB, if_pos ⟨c_134, c_145, by rw [← e5]; exact c_157⟩, hb9]; show _ = bI (if _ then _ else _); rw [if_neg (Int32.not_lt.mpr c_183)]; exact eb9)) ls (lv_sub hl [1, 2, 3, 4, 5, 6, 7, 0] rfl)
        · refine lv_aload_n hx hb dX8_storage_137 rfl (lv_at hl 0 rfl) ?_
          refine pv_get (ci := 10) (C := RX8) (T := TX8) (N := 34) hx hb hts hinX8 hown hK hP hM.1 eM rfl 5 (by decide) (hts (.fieldLink RX8 16 "StorageChargeModel" "lineOwner" "[I") (by decide +kernel)) (fun _ h9 => h9) rfl dX8_storage_138 ?_
          refine lv_iload hx hb dX8_storage_141 (lv_at hl 7 rfl) ?_
          refine pv_iald hx hb hK hP j5 0 a5 rfl (k := i) rfl (by omega) (by decide) dX8_storage_143 ?_
          refine lv_iload_n hx hb dX8_storage_144 rfl (lv_at hl 2 rfl) ?_
          refine lv_icmp_ne (tgt := 190) hx hb dX8_storage_145 (by decide) (fun c_145 => ?_) (fun c_145 => ?_)
          · refine lv_iinc (v := nI (i + 1)) (lv' := [(7, .int (nI (i + 1))), (0, .ref (ad 100)), (1, .int o), (2, .int by0), (3, .int (nI m0)), (4, .int x4), (5, .int x5), (6, .int x6)]) hx hb dX8_storage_190 hl (k := 7) rfl (nI_1 i) (by decide) rfl (fun ls hl => ?_)
            refine lv_goto (tgt := 116) hx hb dX8_storage_193 (by decide) ?_
            exact ih116 (i + 1) (x6) x4 x5 (by omega) (by omega) e4 e5 (by first | rw [mB, if_neg (fun h => c_134 h.1), e6] | rw [mB, if_neg (fun h => c_145 h.2.1), e6] | rw [mB, if_neg (fun h => c_157 (by rw [e5]; exact h.2.2)), e6] | (rw [mB, if_pos ⟨c_134, c_145, by rw [← e5]; exact c_157⟩, hb9]; rfl) | (rw [mB, if_pos ⟨c_134, c_145, by rw [← e5]; exact c_157⟩, hb9]; show _ = bI (if _ then _ else _); rw [if_pos (Int32.not_le.mp c_183)]; rfl) | (rw [mB, if_pos ⟨c_134, c_145, by rw [← e5]; exact c_157⟩, hb9]; show _ = bI (if _ then _ else _); rw [if_neg (Int32.not_lt.mpr c_183)]; exact eb9)) ls (lv_sub hl [1, 2, 3, 4, 5, 6, 7, 0] rfl)
          · refine lv_aload_n hx hb dX8_storage_148 rfl (lv_at hl 0 rfl) ?_
            refine pv_get (ci := 10) (C := RX8) (T := TX8) (N := 34) hx hb hts hinX8 hown hK hP hM.1 eM rfl 6 (by decide) (hts (.fieldLink RX8 19 "StorageChargeModel" "what" "[I") (by decide +kernel)) (fun _ h9 => h9) rfl dX8_storage_149 ?_
            refine lv_iload hx hb dX8_storage_152 (lv_at hl 7 rfl) ?_
            refine pv_iald hx hb hK hP j6 0 a6 rfl (k := i) rfl (by omega) (by decide) dX8_storage_154 ?_
            refine lv_iload hx hb dX8_storage_155 (lv_at hl 5 rfl) ?_
            refine lv_icmp_le (tgt := 163) hx hb dX8_storage_157 (by decide) (fun c_157 => ?_) (fun c_157 => ?_)
            · refine lv_iload hx hb dX8_storage_163 (lv_at hl 6 rfl) ?_
              refine lv_iconst (v := (-1)) hx hb dX8_storage_165 (by decide) ?_
              refine lv_icmp_eq (tgt := 186) hx hb dX8_storage_166 (by decide) (fun c_166 => ?_) (fun c_166 => ?_)
              · have hb9 := bI_none (n := i) (by omega) (fun b h => mB_lt h) (by rw [← e6]; exact c_166)
                refine lv_iload hx hb dX8_storage_186 (lv_at hl 7 rfl) ?_
                refine lv_istore (lv' := [(6, .int (nI i)), (0, .ref (ad 100)), (1, .int o), (2, .int by0), (3, .int (nI m0)), (4, .int x4), (5, .int x5), (7, .int (nI i))]) hx hb dX8_storage_188 hl (by decide) rfl (fun ls hl => ?_)
                refine lv_iinc (v := nI (i + 1)) (lv' := [(7, .int (nI (i + 1))), (6, .int (nI i)), (0, .ref (ad 100)), (1, .int o), (2, .int by0), (3, .int (nI m0)), (4, .int x4), (5, .int x5)]) hx hb dX8_storage_190 hl (k := 7) rfl (nI_1 i) (by decide) rfl (fun ls hl => ?_)
                refine lv_goto (tgt := 116) hx hb dX8_storage_193 (by decide) ?_
                exact ih116 (i + 1) (nI i) x4 x5 (by omega) (by omega) e4 e5 (by first | rw [mB, if_neg (fun h => c_134 h.1), e6] | rw [mB, if_neg (fun h => c_145 h.2.1), e6] | rw [mB, if_neg (fun h => c_157 (by rw [e5]; exact h.2.2)), e6] | (rw [mB, if_pos ⟨c_134, c_145, by rw [← e5]; exact c_157⟩, hb9]; rfl) | (rw [mB, if_pos ⟨c_134, c_145, by rw [← e5]; exact c_157⟩, hb9]; show _ = bI (if _ then _ else _); rw [if_pos (Int32.not_le.mp c_183)]; rfl) | (rw [mB, if_pos ⟨c_134, c_145, by rw [← e5]; exact c_157⟩, hb9]; show _ = bI (if _ then _ else _); rw [if_neg (Int32.not_lt.mpr c_183)]; exact eb9)) ls (lv_sub hl [2, 3, 4, 5, 6, 7, 1, 0] rfl)
              · obtain ⟨b9, hb9, hbl9, eb0⟩ := bI_some (n := i) (by omega) (fun b h => mB_lt h) (by rw [← e6]; exact c_166)
                have eb9 : x6 = nI b9 := e6.trans eb0
                refine lv_aload_n hx hb dX8_storage_169 rfl (lv_at hl 0 rfl) ?_
                refine pv_get (ci := 10) (C := RX8) (T := TX8) (N := 34) hx hb hts hinX8 hown hK hP hM.1 eM rfl 6 (by decide) (hts (.fieldLink RX8 19 "StorageChargeModel" "what" "[I") (by decide +kernel)) (fun _ h9 => h9) rfl dX8_storage_170 ?_
                refine lv_iload hx hb dX8_storage_173 (lv_at hl 7 rfl) ?_
                refine pv_iald hx hb hK hP j6 0 a6 rfl (k := i) rfl (by omega) (by decide) dX8_storage_175 ?_
                refine lv_aload_n hx hb dX8_storage_176 rfl (lv_at hl 0 rfl) ?_
                refine pv_get (ci := 10) (C := RX8) (T := TX8) (N := 34) hx hb hts hinX8 hown hK hP hM.1 eM rfl 6 (by decide) (hts (.fieldLink RX8 19 "StorageChargeModel" "what" "[I") (by decide +kernel)) (fun _ h9 => h9) rfl dX8_storage_177 ?_
                refine lv_iload hx hb dX8_storage_180 (lv_at hl 6 rfl) ?_
                refine pv_iald hx hb hK hP j6 0 a6 rfl (k := b9) eb9 (by omega) (by decide) dX8_storage_182 ?_
                refine lv_icmp_le (tgt := 190) hx hb dX8_storage_183 (by decide) (fun c_183 => ?_) (fun c_183 => ?_)
                · refine lv_iinc (v := nI (i + 1)) (lv' := [(7, .int (nI (i + 1))), (0, .ref (ad 100)), (1, .int o), (2, .int by0), (3, .int (nI m0)), (4, .int x4), (5, .int x5), (6, .int x6)]) hx hb dX8_storage_190 hl (k := 7) rfl (nI_1 i) (by decide) rfl (fun ls hl => ?_)
                  refine lv_goto (tgt := 116) hx hb dX8_storage_193 (by decide) ?_
                  exact ih116 (i + 1) (x6) x4 x5 (by omega) (by omega) e4 e5 (by first | rw [mB, if_neg (fun h => c_134 h.1), e6] | rw [mB, if_neg (fun h => c_145 h.2.1), e6] | rw [mB, if_neg (fun h => c_157 (by rw [e5]; exact h.2.2)), e6] | (rw [mB, if_pos ⟨c_134, c_145, by rw [← e5]; exact c_157⟩, hb9]; rfl) | (rw [mB, if_pos ⟨c_134, c_145, by rw [← e5]; exact c_157⟩, hb9]; show _ = bI (if _ then _ else _); rw [if_pos (Int32.not_le.mp c_183)]; rfl) | (rw [mB, if_pos ⟨c_134, c_145, by rw [← e5]; exact c_157⟩, hb9]; show _ = bI (if _ then _ else _); rw [if_neg (Int32.not_lt.mpr c_183)]; exact eb9)) ls (lv_sub hl [1, 2, 3, 4, 5, 6, 7, 0] rfl)
                · refine lv_iload hx hb dX8_storage_186 (lv_at hl 7 rfl) ?_
                  refine lv_istore (lv' := [(6, .int (nI i)), (0, .ref (ad 100)), (1, .int o), (2, .int by0), (3, .int (nI m0)), (4, .int x4), (5, .int x5), (7, .int (nI i))]) hx hb dX8_storage_188 hl (by decide) rfl (fun ls hl => ?_)
                  refine lv_iinc (v := nI (i + 1)) (lv' := [(7, .int (nI (i + 1))), (6, .int (nI i)), (0, .ref (ad 100)), (1, .int o), (2, .int by0), (3, .int (nI m0)), (4, .int x4), (5, .int x5)]) hx hb dX8_storage_190 hl (k := 7) rfl (nI_1 i) (by decide) rfl (fun ls hl => ?_)
                  refine lv_goto (tgt := 116) hx hb dX8_storage_193 (by decide) ?_
                  exact ih116 (i + 1) (nI i) x4 x5 (by omega) (by omega) e4 e5 (by first | rw [mB, if_neg (fun h => c_134 h.1), e6] | rw [mB, if_neg (fun h => c_145 h.2.1), e6] | rw [mB, if_neg (fun h => c_157 (by rw [e5]; exact h.2.2)), e6] | (rw [mB, if_pos ⟨c_134, c_145, by rw [← e5]; exact c_157⟩, hb9]; rfl) | (rw [mB, if_pos ⟨c_134, c_145, by rw [← e5]; exact c_157⟩, hb9]; show _ = bI (if _ then _ else _); rw [if_pos (Int32.not_le.mp c_183)]; rfl) | (rw [mB, if_pos ⟨c_134, c_145, by rw [← e5]; exact c_157⟩, hb9]; show _ = bI (if _ then _ else _); rw [if_neg (Int32.not_lt.mpr c_183)]; exact eb9)) ls (lv_sub hl [2, 3, 4, 5, 6, 7, 1, 0] rfl)
            · refine lv_goto (tgt := 190) hx hb dX8_storage_160 (by decide) ?_
              refine lv_iinc (v := nI (i + 1)) (lv' := [(7, .int (nI (i + 1))), (0, .ref (ad 100)), (1, .int o), (2, .int by0), (3, .int (nI m0)), (4, .int x4), (5, .int x5), (6, .int x6)]) hx hb dX8_storage_190 hl (k := 7) rfl (nI_1 i) (by decide) rfl (fun ls hl => ?_)
              refine lv_goto (tgt := 116) hx hb dX8_storage_193 (by decide) ?_
              exact ih116 (i + 1) (x6) x4 x5 (by omega) (by omega) e4 e5 (by first | rw [mB, if_neg (fun h => c_134 h.1), e6] | rw [mB, if_neg (fun h => c_145 h.2.1), e6] | rw [mB, if_neg (fun h => c_157 (by rw [e5]; exact h.2.2)), e6] | (rw [mB, if_pos ⟨c_134, c_145, by rw [← e5]; exact c_157⟩, hb9]; rfl) | (rw [mB, if_pos ⟨c_134, c_145, by rw [← e5]; exact c_157⟩, hb9]; show _ = bI (if _ then _ else _); rw [if_pos (Int32.not_le.mp c_183)]; rfl) | (rw [mB, if_pos ⟨c_134, c_145, by rw [← e5]; exact c_157⟩, hb9]; show _ = bI (if _ then _ else _); rw [if_neg (Int32.not_lt.mpr c_183)]; exact eb9)) ls (lv_sub hl [1, 2, 3, 4, 5, 6, 7, 0] rfl)
  have loop6 : ∀ (n : Nat) (i : Nat) (k : Int32), i ≤ nu → nu < i + n → k = sN (fun u => sN (fun j => if mIn (A 15) (A 16) (A 17) o u (30 * m0 + j) then mCe (A 4) (A 5) (A 6) (A 7) 83 by0 (mK (A 19) (A 20) (9 * u) (nI (30 * m0 + j)) (tn u)) nl else 0) 30) i → ∀ ls : Array Slot, lv_has ls 8 [(0, .ref (ad 100)), (1, .int o), (2, .int by0), (3, .int (nI m0)), (4, .int k), (5, .int (nI i))] → W p l e (headSpec wsX8_storage ({ frames := 2, cells := 0, slots := 0, locals := 48 })).room s m ([.ref (ad 100), .int o, .int by0, .int (nI m0)] : List Value).toArray below meth c s.heap [] 0 0 (MQ below (vp_Si (fun r => r = mStF (A 4) (A 5) (A 6) (A 7) nl (A 15) (A 16) (A 17) tn (A 19) (A 20) o by0 m0 nu)) ([.ref (ad 100), .int o, .int by0, .int (nI m0)] : List Value).toArray s 0 0 (fun _ => False)) (F0 m 6 ls []) := by
    intro n
    induction n with
    | zero =>
      intro i k hi hn; exact absurd hn (by omega)
    | succ n ih6 =>
      intro i k hi hn ek ls hl
      have loop21 : ∀ (n : Nat) (j : Nat) (k : Int32), i < nu → j ≤ 30 → 30 < j + n → k = sN (fun u => sN (fun j => if mIn (A 15) (A 16) (A 17) o u (30 * m0 + j) then mCe (A 4) (A 5) (A 6) (A 7) 83 by0 (mK (A 19) (A 20) (9 * u) (nI (30 * m0 + j)) (tn u)) nl else 0) 30) i + sN (fun j => if mIn (A 15) (A 16) (A 17) o i (30 * m0 + j) then mCe (A 4) (A 5) (A 6) (A 7) 83 by0 (mK (A 19) (A 20) (9 * i) (nI (30 * m0 + j)) (tn i)) nl else 0) j → ∀ ls : Array Slot, lv_has ls 8 [(0, .ref (ad 100)), (1, .int o), (2, .int by0), (3, .int (nI m0)), (4, .int k), (5, .int (nI i)), (6, .int (nI (30 * m0 + j)))] → W p l e (headSpec wsX8_storage ({ frames := 2, cells := 0, slots := 0, locals := 48 })).room s m ([.ref (ad 100), .int o, .int by0, .int (nI m0)] : List Value).toArray below meth c s.heap [] 0 0 (MQ below (vp_Si (fun r => r = mStF (A 4) (A 5) (A 6) (A 7) nl (A 15) (A 16) (A 17) tn (A 19) (A 20) o by0 m0 nu)) ([.ref (ad 100), .int o, .int by0, .int (nI m0)] : List Value).toArray s 0 0 (fun _ => False)) (F0 m 21 ls []) := by
        intro n
        induction n with
        | zero =>
          intro j k hlt hj hn; exact absurd hn (by omega)
        | succ n ih21 =>
          intro j k hlt hj hn ek ls hl
          refine lv_iload hx hb dX8_storage_21 (lv_at hl 6 rfl) ?_
          refine lv_bipush (v := 30) hx hb dX8_storage_23 (by decide) ?_
          refine lv_iload_n hx hb dX8_storage_25 rfl (lv_at hl 3 rfl) ?_
          refine lv_imul hx hb dX8_storage_26 ?_
          refine lv_bipush (v := 30) hx hb dX8_storage_27 (by decide) ?_
          refine lv_iadd hx hb dX8_storage_29 ?_
          refine lv_topi (fun z9 ez9 => ?_)
          obtain rfl : z9 = nI (30 * m0 + 30) := ez9.trans (by rw [day1, show (30 : Int32) = nI 30 from rfl, nI_add])
          refine lv_icmp_ge (tgt := 96) hx hb dX8_storage_30 (by decide) (fun c_30 => ?_) (fun c_30 => ?_)
          · have hgj : j = 30 := by
              have h8 := Nat.le_of_not_lt (fun h : 30 * m0 + j < 30 * m0 + 30 => absurd c_30 (nI_ge h (by omega)))
              omega
            refine lv_iinc (v := nI (i + 1)) (lv' := [(5, .int (nI (i + 1))), (0, .ref (ad 100)), (1, .int o), (2, .int by0), (3, .int (nI m0)), (4, .int k), (6, .int (nI (30 * m0 + j)))]) hx hb dX8_storage_96 hl (k := 5) rfl (nI_1 i) (by decide) rfl (fun ls hl => ?_)
            refine lv_goto (tgt := 6) hx hb dX8_storage_99 (by decide) ?_
            exact ih6 (i + 1) k (by omega) (by omega) (by rw [sN, ek, hgj]) ls (lv_sub hl [1, 2, 3, 4, 5, 0] rfl)
          · have hlj : j < 30 := Nat.lt_of_not_le fun h => c_30 (nI_le (by omega) (by omega))
            refine lv_iload hx hb dX8_storage_33 (lv_at hl 4 rfl) ?_
            refine lv_aload_n hx hb dX8_storage_35 rfl (lv_at hl 0 rfl) ?_
            refine pv_get (ci := 10) (C := RX8) (T := TX8) (N := 34) hx hb hts hinX8 hown hK hP hM.1 eM rfl 15 (by decide) (hts (.fieldLink RX8 37 "StorageChargeModel" "unitOwner" "[I") (by decide +kernel)) (fun _ h9 => h9) rfl dX8_storage_36 ?_
            refine lv_iload hx hb dX8_storage_39 (lv_at hl 5 rfl) ?_
            refine pv_iald hx hb hK hP j15 0 a15 rfl (k := i) rfl (by omega) (by decide) dX8_storage_41 ?_
            refine lv_iload_n hx hb dX8_storage_42 rfl (lv_at hl 1 rfl) ?_
            refine lv_icmp_ne (tgt := 86) hx hb dX8_storage_43 (by decide) (fun c_43 => ?_) (fun c_43 => ?_)
            · refine lv_iconst (v := 0) hx hb dX8_storage_86 (by decide) ?_
              refine lv_iadd hx hb dX8_storage_87 ?_
              refine lv_topi (fun x_88 ex_88 => ?_)
              refine lv_istore (lv' := [(4, .int x_88), (0, .ref (ad 100)), (1, .int o), (2, .int by0), (3, .int (nI m0)), (5, .int (nI i)), (6, .int (nI (30 * m0 + j)))]) hx hb dX8_storage_88 hl (by decide) rfl (fun ls hl => ?_)
              refine lv_iinc (v := nI (30 * m0 + j + 1)) (lv' := [(6, .int (nI (30 * m0 + j + 1))), (4, .int x_88), (0, .ref (ad 100)), (1, .int o), (2, .int by0), (3, .int (nI m0)), (5, .int (nI i))]) hx hb dX8_storage_90 hl (k := 6) rfl (nI_1 _) (by decide) rfl (fun ls hl => ?_)
              refine lv_goto (tgt := 21) hx hb dX8_storage_93 (by decide) ?_
              exact ih21 (j + 1) x_88 hlt (by omega) (by omega) (by first | rw [sN, if_neg (fun h => c_43 h.1), ex_88, ek, Int32.add_assoc] | rw [sN, if_neg (fun h => hw9 h.2), ex_88, ek, Int32.add_assoc] | rw [sN, if_pos ⟨c_43, hw9⟩, ex_88, ek, Int32.add_assoc, hr_80, hr_77]) ls (lv_sub hl [2, 3, 4, 5, 1, 6, 0] rfl)
            · refine lv_iload hx hb dX8_storage_46 (lv_at hl 6 rfl) ?_
              refine lv_aload_n hx hb dX8_storage_48 rfl (lv_at hl 0 rfl) ?_
              refine pv_get (ci := 10) (C := RX8) (T := TX8) (N := 34) hx hb hts hinX8 hown hK hP hM.1 eM rfl 16 (by decide) (hts (.fieldLink RX8 40 "StorageChargeModel" "from" "[I") (by decide +kernel)) (fun _ h9 => h9) rfl dX8_storage_49 ?_
              refine lv_iload hx hb dX8_storage_52 (lv_at hl 5 rfl) ?_
              refine pv_iald hx hb hK hP j16 0 a16 rfl (k := i) rfl (by omega) (by decide) dX8_storage_54 ?_
              refine lv_aload_n hx hb dX8_storage_55 rfl (lv_at hl 0 rfl) ?_
              refine pv_get (ci := 10) (C := RX8) (T := TX8) (N := 34) hx hb hts hinX8 hown hK hP hM.1 eM rfl 17 (by decide) (hts (.fieldLink RX8 43 "StorageChargeModel" "to" "[I") (by decide +kernel)) (fun _ h9 => h9) rfl dX8_storage_56 ?_
              refine lv_iload hx hb dX8_storage_59 (lv_at hl 5 rfl) ?_
              refine pv_iald hx hb hK hP j17 0 a17 rfl (k := i) rfl (by omega) (by decide) dX8_storage_61 ?_
              refine vp_callSi (va_Run.run (va_runS (As := [.int (nI (30 * m0 + j)), .int ((A 16) i), .int ((A 17) i)]) (rest := [.int k]) ⟨hx, hb, hml, hown, hts⟩ (c_X8_in l (nI (30 * m0 + j)) (A 16 i) (A 17 i)) (va_cwS 3 hts gX8_storage_X8_in rfl rfl rfl (by decide +kernel) ⟨Nat.le_of_ble_eq_true rfl, Nat.le_of_ble_eq_true rfl⟩) ⟨fun _ _ _ _ q => q, fun U hU hW => ⟨rfl, trivial⟩⟩ rfl rfl hl.1 rfl (lv_room (Nat.le_of_ble_eq_true rfl)) dX8_storage_62 ⟨Nat.zero_le _, Nat.zero_le _⟩)) (fun r_62 hr_62 => ?_)
              refine lv_if_eq (tgt := 86) hx hb dX8_storage_65 (by decide) (fun c_65 => ?_) (fun c_65 => ?_)
              · have hw9 : ¬ (A 16 i ≤ nI (30 * m0 + j) ∧ nI (30 * m0 + j) ≤ A 17 i) := wI_eq0.mp (by rw [← hr_62]; exact c_65)
                refine lv_iconst (v := 0) hx hb dX8_storage_86 (by decide) ?_
                refine lv_iadd hx hb dX8_storage_87 ?_
                refine lv_topi (fun x_88 ex_88 => ?_)
                refine lv_istore (lv' := [(4, .int x_88), (0, .ref (ad 100)), (1, .int o), (2, .int by0), (3, .int (nI m0)), (5, .int (nI i)), (6, .int (nI (30 * m0 + j)))]) hx hb dX8_storage_88 hl (by decide) rfl (fun ls hl => ?_)
                refine lv_iinc (v := nI (30 * m0 + j + 1)) (lv' := [(6, .int (nI (30 * m0 + j + 1))), (4, .int x_88), (0, .ref (ad 100)), (1, .int o), (2, .int by0), (3, .int (nI m0)), (5, .int (nI i))]) hx hb dX8_storage_90 hl (k := 6) rfl (nI_1 _) (by decide) rfl (fun ls hl => ?_)
                refine lv_goto (tgt := 21) hx hb dX8_storage_93 (by decide) ?_
                exact ih21 (j + 1) x_88 hlt (by omega) (by omega) (by first | rw [sN, if_neg (fun h => c_43 h.1), ex_88, ek, Int32.add_assoc] | rw [sN, if_neg (fun h => hw9 h.2), ex_88, ek, Int32.add_assoc] | rw [sN, if_pos ⟨c_43, hw9⟩, ex_88, ek, Int32.add_assoc, hr_80, hr_77]) ls (lv_sub hl [2, 3, 4, 5, 1, 6, 0] rfl)
              · have hw9 : A 16 i ≤ nI (30 * m0 + j) ∧ nI (30 * m0 + j) ≤ A 17 i := Decidable.byContradiction fun h => c_65 (by rw [hr_62]; exact wI_eq0.mpr h)
                refine lv_aload_n hx hb dX8_storage_68 rfl (lv_at hl 0 rfl) ?_
                refine lv_bipush (v := 83) hx hb dX8_storage_69 (by decide) ?_
                refine lv_iload_n hx hb dX8_storage_71 rfl (lv_at hl 2 rfl) ?_
                refine lv_aload_n hx hb dX8_storage_72 rfl (lv_at hl 0 rfl) ?_
                refine lv_iload hx hb dX8_storage_73 (lv_at hl 5 rfl) ?_
                refine lv_iload hx hb dX8_storage_75 (lv_at hl 6 rfl) ?_
                refine vp_callSi (va_Run.run (va_runV (As := [.int (nI i), .int (nI (30 * m0 + j))]) (rest := [.int by0, .int 83, .ref (ad 100), .int k]) ⟨hx, hb, hml, hown, hts⟩ (c_X8_kindOn l D y Ls ad G F A hM i (tn i) (by omega) (htn i hlt).1 (htn i hlt).2 (nI (30 * m0 + j))) (cwV 2 hts gX8_storage_X8_kindOn rfl rfl rfl (by decide +kernel) ⟨Nat.le_of_ble_eq_true rfl, Nat.le_of_ble_eq_true rfl⟩) ⟨Wd_blind, Wd_recv hK hP (ci := 10) rfl hM.1 eM, Wd_at hP hK hN⟩ rfl rfl hl.1 rfl (lv_room (Nat.le_of_ble_eq_true rfl)) dX8_storage_77 ⟨Nat.zero_le _, Nat.zero_le _⟩)) (fun r_77 hr_77 => ?_)
                refine vp_callSi (va_Run.run (va_runV (As := [.int 83, .int by0, .int r_77]) (rest := [.int k]) ⟨hx, hb, hml, hown, hts⟩ (c_X8_cents l D y Ls ad G F A hM nl h3 hnl 83 by0 r_77) (cwV 3 hts gX8_storage_X8_cents rfl rfl rfl (by decide +kernel) ⟨Nat.le_of_ble_eq_true rfl, Nat.le_of_ble_eq_true rfl⟩) ⟨Wd_blind, Wd_recv hK hP (ci := 10) rfl hM.1 eM, Wd_at hP hK hN⟩ rfl rfl hl.1 rfl (lv_room (Nat.le_of_ble_eq_true rfl)) dX8_storage_80 ⟨Nat.zero_le _, Nat.zero_le _⟩)) (fun r_80 hr_80 => ?_)
                refine lv_goto (tgt := 87) hx hb dX8_storage_83 (by decide) ?_
                refine lv_iadd hx hb dX8_storage_87 ?_
                refine lv_topi (fun x_88 ex_88 => ?_)
                refine lv_istore (lv' := [(4, .int x_88), (0, .ref (ad 100)), (1, .int o), (2, .int by0), (3, .int (nI m0)), (5, .int (nI i)), (6, .int (nI (30 * m0 + j)))]) hx hb dX8_storage_88 hl (by decide) rfl (fun ls hl => ?_)
                refine lv_iinc (v := nI (30 * m0 + j + 1)) (lv' := [(6, .int (nI (30 * m0 + j + 1))), (4, .int x_88), (0, .ref (ad 100)), (1, .int o), (2, .int by0), (3, .int (nI m0)), (5, .int (nI i))]) hx hb dX8_storage_90 hl (k := 6) rfl (nI_1 _) (by decide) rfl (fun ls hl => ?_)
                refine lv_goto (tgt := 21) hx hb dX8_storage_93 (by decide) ?_
                exact ih21 (j + 1) x_88 hlt (by omega) (by omega) (by first | rw [sN, if_neg (fun h => c_43 h.1), ex_88, ek, Int32.add_assoc] | rw [sN, if_neg (fun h => hw9 h.2), ex_88, ek, Int32.add_assoc] | rw [sN, if_pos ⟨c_43, hw9⟩, ex_88, ek, Int32.add_assoc, hr_80, hr_77]) ls (lv_sub hl [2, 3, 4, 5, 1, 6, 0] rfl)
      refine lv_iload hx hb dX8_storage_6 (lv_at hl 5 rfl) ?_
      refine lv_aload_n hx hb dX8_storage_8 rfl (lv_at hl 0 rfl) ?_
      refine pv_get (ci := 10) (C := RX8) (T := TX8) (N := 34) hx hb hts hinX8 hown hK hP hM.1 eM rfl 14 (by decide) (hts (.fieldLink RX8 134 "StorageChargeModel" "units" "I") (by decide +kernel)) (fun _ h9 => h9) rfl dX8_storage_9 ?_
      refine lv_icmp_ge (tgt := 102) hx hb dX8_storage_12 (by decide) (fun c_12 => ?_) (fun c_12 => ?_)
      · have hge : nu = i := by
          have h8 := Nat.le_of_not_lt (fun h : i < nu => absurd c_12 (nI_ge h (by omega)))
          omega
        refine lv_aload_n hx hb dX8_storage_102 rfl (lv_at hl 0 rfl) ?_
        refine lv_iload_n hx hb dX8_storage_103 rfl (lv_at hl 1 rfl) ?_
        refine lv_iload_n hx hb dX8_storage_104 rfl (lv_at hl 3 rfl) ?_
        refine vp_callSi (va_Run.run (va_runV (As := [.int o, .int (nI m0)]) (rest := []) ⟨hx, hb, hml, hown, hts⟩ (c_X8_unitDays l D y Ls ad G F A hM nu h14 hnu o m0 hm) (cwV 2 hts gX8_storage_X8_unitDays rfl rfl rfl (by decide +kernel) ⟨Nat.le_of_ble_eq_true rfl, Nat.le_of_ble_eq_true rfl⟩) ⟨Wd_blind, Wd_recv hK hP (ci := 10) rfl hM.1 eM, Wd_at hP hK hN⟩ rfl rfl hl.1 rfl (lv_room (Nat.le_of_ble_eq_true rfl)) dX8_storage_105 ⟨Nat.zero_le _, Nat.zero_le _⟩)) (fun r_105 hr_105 => ?_)
        refine lv_istore (lv' := [(5, .int r_105), (0, .ref (ad 100)), (1, .int o), (2, .int by0), (3, .int (nI m0)), (4, .int k)]) hx hb dX8_storage_108 hl (by decide) rfl (fun ls hl => ?_)
        refine lv_iconst (v := (-1)) hx hb dX8_storage_110 (by decide) ?_
        refine lv_topi (fun x_111 ex_111 => ?_)
        refine lv_istore (lv' := [(6, .int x_111), (5, .int r_105), (0, .ref (ad 100)), (1, .int o), (2, .int by0), (3, .int (nI m0)), (4, .int k)]) hx hb dX8_storage_111 hl (by decide) rfl (fun ls hl => ?_)
        refine lv_iconst (v := 0) hx hb dX8_storage_113 (by decide) ?_
        refine lv_istore (lv' := [(7, .int 0), (6, .int x_111), (5, .int r_105), (0, .ref (ad 100)), (1, .int o), (2, .int by0), (3, .int (nI m0)), (4, .int k)]) hx hb dX8_storage_114 hl (by decide) rfl (fun ls hl => ?_)
        exact loop116 (nl + 1) 0 x_111 k r_105 (by omega) (by omega) (by rw [ek, hge]; rfl) hr_105 ex_111 ls (lv_sub hl [3, 4, 5, 6, 7, 2, 1, 0] rfl)
      · have hlt : i < nu := Nat.lt_of_not_le fun h => c_12 (nI_le h (by omega))
        refine lv_bipush (v := 30) hx hb dX8_storage_15 (by decide) ?_
        refine lv_iload_n hx hb dX8_storage_17 rfl (lv_at hl 3 rfl) ?_
        refine lv_imul hx hb dX8_storage_18 ?_
        refine lv_topi (fun z9 ez9 => ?_)
        obtain rfl : z9 = nI (30 * m0) := ez9.trans (day1 m0)
        refine lv_istore (lv' := [(6, .int (nI (30 * m0))), (0, .ref (ad 100)), (1, .int o), (2, .int by0), (3, .int (nI m0)), (4, .int k), (5, .int (nI i))]) hx hb dX8_storage_19 hl (by decide) rfl (fun ls hl => ?_)
        exact loop21 31 0 k hlt (by omega) (by omega) (by rw [ek]; exact (Int32.add_zero _).symm) ls (lv_sub hl [1, 2, 3, 4, 5, 6, 0] rfl)
  have hl := lv_entry ([.ref (ad 100), .int o, .int by0, .int (nI m0)]) (n := 8) (Nat.le_of_ble_eq_true rfl)
  rw [lg_entry_eq]
  generalize (lg_sl ([.ref (ad 100), .int o, .int by0, .int (nI m0)]) ++ List.replicate (8 - (lg_sl ([.ref (ad 100), .int o, .int by0, .int (nI m0)])).length) Slot.unset).toArray = ls at hl ⊢
  have hl : lv_has ls 8 [(0, .ref (ad 100)), (1, .int o), (2, .int by0), (3, .int (nI m0))] := hl
  refine lv_iconst (v := 0) hx hb dX8_storage_0 (by decide) ?_
  refine lv_istore (lv' := [(4, .int 0), (0, .ref (ad 100)), (1, .int o), (2, .int by0), (3, .int (nI m0))]) hx hb dX8_storage_1 hl (by decide) rfl (fun ls hl => ?_)
  refine lv_iconst (v := 0) hx hb dX8_storage_3 (by decide) ?_
  refine lv_istore (lv' := [(5, .int 0), (4, .int 0), (0, .ref (ad 100)), (1, .int o), (2, .int by0), (3, .int (nI m0))]) hx hb dX8_storage_4 hl (by decide) rfl (fun ls hl => ?_)
  exact loop6 (nu + 1) 0 0 (by omega) (by omega) rfl ls (lv_sub hl [2, 3, 4, 5, 1, 0] rfl)

set_option maxHeartbeats 4000000 in
set_option maxRecDepth 100000 in
/-- handling -/
theorem c_X8_handling (l : Launch) (D : va_G) (y : Nat → ClassId) (Ls : List Nat) (ad : Nat → Nat) (G : Nat → va_E) (F : Nat → Int32) (A : Nat → Nat → Int32) (hM : ModelAt y Ls ad G F A) (nm : Nat) (h21 : F 21 = nI nm) (nl : Nat) (h3 : F 3 = nI nl) (hnm : nm ≤ 60) (hnl : nl ≤ 60) (o by0 mo0 : Int32) : Met l yX8_handling wsX8_handling ({ frames := 2, cells := 0, slots := 0, locals := 48 }) (va_Pc [.ref (ad 100), .int o, .int by0, .int mo0] (Wd D y (wl Ls ad G))) (vp_Si (fun r => r = mHa (A 4) (A 5) (A 6) (A 7) nl (A 22) (A 23) (A 24) (A 25) o by0 mo0 nm)) 0 0 (fun _ => False) := by
  refine Met.ofW (cc := cX8_handling) (maxL := 6) (ret := (some .int)) (by decide) rfl ?_
  intro p e s m args below meth c s₁ B hml hv
  obtain ⟨rfl, hP, hK, hN⟩ := hv
  have hx := B.exec
  have hb := B.bytes
  have hr := B.returns
  have hts := atoms_spec (ws := wsX8_handling) B.pre
  have hown : s.vm.findClass RX8 = some m.cls := findClass_of_methodNamed B.named
  have hlocks := B.notSynchronized
  have hinX8 : ∀ w ∈ wsX80, w ∈ wsX8_handling := by decide +kernel
  have eM : G 100 = .inr (10, [.int (F 0), .int (F 1), .ref (ad 103), .int (F 3), .ref (ad 105), .ref (ad 106), .ref (ad 107), .ref (ad 108), .int (F 8), .ref (ad 110), .ref (ad 111), .ref (ad 112), .ref (ad 113), .int (F 13), .int (F 14), .ref (ad 116), .ref (ad 117), .ref (ad 118), .ref (ad 119), .ref (ad 120), .ref (ad 121), .int (nI nm), .ref (ad 123), .ref (ad 124), .ref (ad 125), .ref (ad 126), .int (F 26), .ref (ad 128), .ref (ad 129), .ref (ad 130), .ref (ad 131), .ref (ad 132), .int (F 32), .ref (ad 134)]) := hM.2.1.trans (by rw [mfs, h21])
  obtain ⟨j22, a22⟩ : 123 ∈ Ls ∧ G 123 = .inl (y 0, 60, .inl (A 22)) := hM.2.2 22 (by decide)
  obtain ⟨j23, a23⟩ : 124 ∈ Ls ∧ G 124 = .inl (y 0, 60, .inl (A 23)) := hM.2.2 23 (by decide)
  obtain ⟨j24, a24⟩ : 125 ∈ Ls ∧ G 125 = .inl (y 0, 60, .inl (A 24)) := hM.2.2 24 (by decide)
  obtain ⟨j25, a25⟩ : 126 ∈ Ls ∧ G 126 = .inl (y 0, 60, .inl (A 25)) := hM.2.2 25 (by decide)
  have loop6 : ∀ (n : Nat) (i : Nat) (k : Int32), i ≤ nm → nm < i + n → k = sN (fun k => if A 22 k = o ∧ A 24 k / 30 = mo0 then A 25 k * mCe (A 4) (A 5) (A 6) (A 7) 72 by0 (A 23 k) nl else 0) i → ∀ ls : Array Slot, lv_has ls 6 [(0, .ref (ad 100)), (1, .int o), (2, .int by0), (3, .int mo0), (4, .int k), (5, .int (nI i))] → W p l e (headSpec wsX8_handling ({ frames := 2, cells := 0, slots := 0, locals := 48 })).room s m ([.ref (ad 100), .int o, .int by0, .int mo0] : List Value).toArray below meth c s.heap [] 0 0 (MQ below (vp_Si (fun r => r = mHa (A 4) (A 5) (A 6) (A 7) nl (A 22) (A 23) (A 24) (A 25) o by0 mo0 nm)) ([.ref (ad 100), .int o, .int by0, .int mo0] : List Value).toArray s 0 0 (fun _ => False)) (F0 m 6 ls []) := by
    intro n
    induction n with
    | zero =>
      intro i k hi hn; exact absurd hn (by omega)
    | succ n ih6 =>
      intro i k hi hn ek ls hl
      refine lv_iload hx hb dX8_handling_6 (lv_at hl 5 rfl) ?_
      refine lv_aload_n hx hb dX8_handling_8 rfl (lv_at hl 0 rfl) ?_
      refine pv_get (ci := 10) (C := RX8) (T := TX8) (N := 34) hx hb hts hinX8 hown hK hP hM.1 eM rfl 21 (by decide) (hts (.fieldLink RX8 145 "StorageChargeModel" "moves" "I") (by decide +kernel)) (fun _ h9 => h9) rfl dX8_handling_9 ?_
      refine lv_icmp_ge (tgt := 77) hx hb dX8_handling_12 (by decide) (fun c_12 => ?_) (fun c_12 => ?_)
      · have hge : nm = i := by
          have h8 := Nat.le_of_not_lt (fun h : i < nm => absurd c_12 (nI_ge h (by omega)))
          omega
        refine lv_iload hx hb dX8_handling_77 (lv_at hl 4 rfl) ?_
        exact W.iret (v := k) hx hb hr (fun t ht hW => ⟨k, rfl, (by rw [ek, hge]; rfl), ht⟩) (fun q h => by cases h) dX8_handling_79
      · have hlt : i < nm := Nat.lt_of_not_le fun h => c_12 (nI_le h (by omega))
        refine lv_iload hx hb dX8_handling_15 (lv_at hl 4 rfl) ?_
        refine lv_aload_n hx hb dX8_handling_17 rfl (lv_at hl 0 rfl) ?_
        refine pv_get (ci := 10) (C := RX8) (T := TX8) (N := 34) hx hb hts hinX8 hown hK hP hM.1 eM rfl 22 (by decide) (hts (.fieldLink RX8 55 "StorageChargeModel" "moveOwner" "[I") (by decide +kernel)) (fun _ h9 => h9) rfl dX8_handling_18 ?_
        refine lv_iload hx hb dX8_handling_21 (lv_at hl 5 rfl) ?_
        refine pv_iald hx hb hK hP j22 0 a22 rfl (k := i) rfl (by omega) (by decide) dX8_handling_23 ?_
        refine lv_iload_n hx hb dX8_handling_24 rfl (lv_at hl 1 rfl) ?_
        refine lv_icmp_ne (tgt := 67) hx hb dX8_handling_25 (by decide) (fun c_25 => ?_) (fun c_25 => ?_)
        · refine lv_iconst (v := 0) hx hb dX8_handling_67 (by decide) ?_
          refine lv_iadd hx hb dX8_handling_68 ?_
          refine lv_topi (fun x_69 ex_69 => ?_)
          refine lv_istore (lv' := [(4, .int x_69), (0, .ref (ad 100)), (1, .int o), (2, .int by0), (3, .int mo0), (5, .int (nI i))]) hx hb dX8_handling_69 hl (by decide) rfl (fun ls hl => ?_)
          refine lv_iinc (v := nI (i + 1)) (lv' := [(5, .int (nI (i + 1))), (4, .int x_69), (0, .ref (ad 100)), (1, .int o), (2, .int by0), (3, .int mo0)]) hx hb dX8_handling_71 hl (k := 5) rfl (nI_1 i) (by decide) rfl (fun ls hl => ?_)
          refine lv_goto (tgt := 6) hx hb dX8_handling_74 (by decide) ?_
          exact ih6 (i + 1) x_69 (by omega) (by omega) (by first | rw [sN, if_neg (fun h => c_25 h.1), ex_69, ek] | rw [sN, if_neg (fun h => c_39 h.2), ex_69, ek] | rw [sN, if_pos ⟨c_25, c_39⟩, ex_69, ek, hr_60]) ls (lv_sub hl [2, 3, 4, 5, 1, 0] rfl)
        · refine lv_aload_n hx hb dX8_handling_28 rfl (lv_at hl 0 rfl) ?_
          refine pv_get (ci := 10) (C := RX8) (T := TX8) (N := 34) hx hb hts hinX8 hown hK hP hM.1 eM rfl 24 (by decide) (hts (.fieldLink RX8 61 "StorageChargeModel" "moveDay" "[I") (by decide +kernel)) (fun _ h9 => h9) rfl dX8_handling_29 ?_
          refine lv_iload hx hb dX8_handling_32 (lv_at hl 5 rfl) ?_
          refine pv_iald hx hb hK hP j24 0 a24 rfl (k := i) rfl (by omega) (by decide) dX8_handling_34 ?_
          refine lv_bipush (v := 30) hx hb dX8_handling_35 (by decide) ?_
          refine lv_idiv hx hb dX8_handling_37 (by decide) ?_
          refine lv_iload_n hx hb dX8_handling_38 rfl (lv_at hl 3 rfl) ?_
          refine lv_icmp_ne (tgt := 67) hx hb dX8_handling_39 (by decide) (fun c_39 => ?_) (fun c_39 => ?_)
          · refine lv_iconst (v := 0) hx hb dX8_handling_67 (by decide) ?_
            refine lv_iadd hx hb dX8_handling_68 ?_
            refine lv_topi (fun x_69 ex_69 => ?_)
            refine lv_istore (lv' := [(4, .int x_69), (0, .ref (ad 100)), (1, .int o), (2, .int by0), (3, .int mo0), (5, .int (nI i))]) hx hb dX8_handling_69 hl (by decide) rfl (fun ls hl => ?_)
            refine lv_iinc (v := nI (i + 1)) (lv' := [(5, .int (nI (i + 1))), (4, .int x_69), (0, .ref (ad 100)), (1, .int o), (2, .int by0), (3, .int mo0)]) hx hb dX8_handling_71 hl (k := 5) rfl (nI_1 i) (by decide) rfl (fun ls hl => ?_)
            refine lv_goto (tgt := 6) hx hb dX8_handling_74 (by decide) ?_
            exact ih6 (i + 1) x_69 (by omega) (by omega) (by first | rw [sN, if_neg (fun h => c_25 h.1), ex_69, ek] | rw [sN, if_neg (fun h => c_39 h.2), ex_69, ek] | rw [sN, if_pos ⟨c_25, c_39⟩, ex_69, ek, hr_60]) ls (lv_sub hl [2, 3, 4, 5, 1, 0] rfl)
          · refine lv_aload_n hx hb dX8_handling_42 rfl (lv_at hl 0 rfl) ?_
            refine pv_get (ci := 10) (C := RX8) (T := TX8) (N := 34) hx hb hts hinX8 hown hK hP hM.1 eM rfl 25 (by decide) (hts (.fieldLink RX8 64 "StorageChargeModel" "pieces" "[I") (by decide +kernel)) (fun _ h9 => h9) rfl dX8_handling_43 ?_
            refine lv_iload hx hb dX8_handling_46 (lv_at hl 5 rfl) ?_
            refine pv_iald hx hb hK hP j25 0 a25 rfl (k := i) rfl (by omega) (by decide) dX8_handling_48 ?_
            refine lv_aload_n hx hb dX8_handling_49 rfl (lv_at hl 0 rfl) ?_
            refine lv_bipush (v := 72) hx hb dX8_handling_50 (by decide) ?_
            refine lv_iload_n hx hb dX8_handling_52 rfl (lv_at hl 2 rfl) ?_
            refine lv_aload_n hx hb dX8_handling_53 rfl (lv_at hl 0 rfl) ?_
            refine pv_get (ci := 10) (C := RX8) (T := TX8) (N := 34) hx hb hts hinX8 hown hK hP hM.1 eM rfl 23 (by decide) (hts (.fieldLink RX8 58 "StorageChargeModel" "moveKind" "[I") (by decide +kernel)) (fun _ h9 => h9) rfl dX8_handling_54 ?_
            refine lv_iload hx hb dX8_handling_57 (lv_at hl 5 rfl) ?_
            refine pv_iald hx hb hK hP j23 0 a23 rfl (k := i) rfl (by omega) (by decide) dX8_handling_59 ?_
            refine vp_callSi (va_Run.run (va_runV (As := [.int 72, .int by0, .int ((A 23) i)]) (rest := [.int ((A 25) i), .int k]) ⟨hx, hb, hml, hown, hts⟩ (c_X8_cents l D y Ls ad G F A hM nl h3 hnl 72 by0 (A 23 i)) (cwV 3 hts gX8_handling_X8_cents rfl rfl rfl (by decide +kernel) ⟨Nat.le_of_ble_eq_true rfl, Nat.le_of_ble_eq_true rfl⟩) ⟨Wd_blind, Wd_recv hK hP (ci := 10) rfl hM.1 eM, Wd_at hP hK hN⟩ rfl rfl hl.1 rfl (lv_room (Nat.le_of_ble_eq_true rfl)) dX8_handling_60 ⟨Nat.zero_le _, Nat.zero_le _⟩)) (fun r_60 hr_60 => ?_)
            refine lv_imul hx hb dX8_handling_63 ?_
            refine lv_goto (tgt := 68) hx hb dX8_handling_64 (by decide) ?_
            refine lv_iadd hx hb dX8_handling_68 ?_
            refine lv_topi (fun x_69 ex_69 => ?_)
            refine lv_istore (lv' := [(4, .int x_69), (0, .ref (ad 100)), (1, .int o), (2, .int by0), (3, .int mo0), (5, .int (nI i))]) hx hb dX8_handling_69 hl (by decide) rfl (fun ls hl => ?_)
            refine lv_iinc (v := nI (i + 1)) (lv' := [(5, .int (nI (i + 1))), (4, .int x_69), (0, .ref (ad 100)), (1, .int o), (2, .int by0), (3, .int mo0)]) hx hb dX8_handling_71 hl (k := 5) rfl (nI_1 i) (by decide) rfl (fun ls hl => ?_)
            refine lv_goto (tgt := 6) hx hb dX8_handling_74 (by decide) ?_
            exact ih6 (i + 1) x_69 (by omega) (by omega) (by first | rw [sN, if_neg (fun h => c_25 h.1), ex_69, ek] | rw [sN, if_neg (fun h => c_39 h.2), ex_69, ek] | rw [sN, if_pos ⟨c_25, c_39⟩, ex_69, ek, hr_60]) ls (lv_sub hl [2, 3, 4, 5, 1, 0] rfl)
  have hl := lv_entry ([.ref (ad 100), .int o, .int by0, .int mo0]) (n := 6) (Nat.le_of_ble_eq_true rfl)
  rw [lg_entry_eq]
  generalize (lg_sl ([.ref (ad 100), .int o, .int by0, .int mo0]) ++ List.replicate (6 - (lg_sl ([.ref (ad 100), .int o, .int by0, .int mo0])).length) Slot.unset).toArray = ls at hl ⊢
  have hl : lv_has ls 6 [(0, .ref (ad 100)), (1, .int o), (2, .int by0), (3, .int mo0)] := hl
  refine lv_iconst (v := 0) hx hb dX8_handling_0 (by decide) ?_
  refine lv_istore (lv' := [(4, .int 0), (0, .ref (ad 100)), (1, .int o), (2, .int by0), (3, .int mo0)]) hx hb dX8_handling_1 hl (by decide) rfl (fun ls hl => ?_)
  refine lv_iconst (v := 0) hx hb dX8_handling_3 (by decide) ?_
  refine lv_istore (lv' := [(5, .int 0), (4, .int 0), (0, .ref (ad 100)), (1, .int o), (2, .int by0), (3, .int mo0)]) hx hb dX8_handling_4 hl (by decide) rfl (fun ls hl => ?_)
  exact loop6 (nm + 1) 0 0 (by omega) (by omega) rfl ls (lv_sub hl [2, 3, 4, 5, 1, 0] rfl)

set_option maxHeartbeats 4000000 in
set_option maxRecDepth 100000 in
/-- sumOf -/
theorem c_X8_sumOf (l : Launch) (D : va_G) (y : Nat → ClassId) (Ls : List Nat) (ad : Nat → Nat) (G : Nat → va_E) (F : Nat → Int32) (A : Nat → Nat → Int32) (hM : ModelAt y Ls ad G F A) (nu : Nat) (h14 : F 14 = nI nu) (nl : Nat) (h3 : F 3 = nI nl) (nm : Nat) (h21 : F 21 = nI nm) (hnu : nu ≤ 24) (hnl : nl ≤ 60) (hnm : nm ≤ 60) (tn : Nat → Nat) (htn : ∀ u, u < nu → A 18 u = nI (tn u) ∧ tn u ≤ 9) (o by0 : Int32) (m0 : Nat) (hm : m0 < 120) : Met l yX8_sumOf wsX8_sumOf ({ frames := 3, cells := 0, slots := 0, locals := 75 }) (va_Pc [.ref (ad 100), .int o, .int by0, .int (nI m0)] (Wd D y (wl Ls ad G))) (vp_Si (fun r => r = mSum A nl nu nm tn o by0 m0)) 0 0 (fun _ => False) := by
  refine Met.ofW (cc := cX8_sumOf) (maxL := 6) (ret := (some .int)) (by decide) rfl ?_
  intro p e s m args below meth c s₁ B hml hv
  obtain ⟨rfl, hP, hK, hN⟩ := hv
  have hx := B.exec
  have hb := B.bytes
  have hr := B.returns
  have hts := atoms_spec (ws := wsX8_sumOf) B.pre
  have hown : s.vm.findClass RX8 = some m.cls := findClass_of_methodNamed B.named
  have hlocks := B.notSynchronized
  have eM : G 100 = .inr (10, [.int (F 0), .int (F 1), .ref (ad 103), .int (F 3), .ref (ad 105), .ref (ad 106), .ref (ad 107), .ref (ad 108), .int (F 8), .ref (ad 110), .ref (ad 111), .ref (ad 112), .ref (ad 113), .int (F 13), .int (F 14), .ref (ad 116), .ref (ad 117), .ref (ad 118), .ref (ad 119), .ref (ad 120), .ref (ad 121), .int (F 21), .ref (ad 123), .ref (ad 124), .ref (ad 125), .ref (ad 126), .int (F 26), .ref (ad 128), .ref (ad 129), .ref (ad 130), .ref (ad 131), .ref (ad 132), .int (F 32), .ref (ad 134)]) := hM.2.1
  have hl := lv_entry ([.ref (ad 100), .int o, .int by0, .int (nI m0)]) (n := 6) (Nat.le_of_ble_eq_true rfl)
  rw [lg_entry_eq]
  generalize (lg_sl ([.ref (ad 100), .int o, .int by0, .int (nI m0)]) ++ List.replicate (6 - (lg_sl ([.ref (ad 100), .int o, .int by0, .int (nI m0)])).length) Slot.unset).toArray = ls at hl ⊢
  have hl : lv_has ls 6 [(0, .ref (ad 100)), (1, .int o), (2, .int by0), (3, .int (nI m0))] := hl
  refine lv_aload_n hx hb dX8_sumOf_0 rfl (lv_at hl 0 rfl) ?_
  refine lv_iload_n hx hb dX8_sumOf_1 rfl (lv_at hl 1 rfl) ?_
  refine lv_iload_n hx hb dX8_sumOf_2 rfl (lv_at hl 2 rfl) ?_
  refine lv_iload_n hx hb dX8_sumOf_3 rfl (lv_at hl 3 rfl) ?_
  refine vp_callSi (va_Run.run (va_runV (As := [.int o, .int by0, .int (nI m0)]) (rest := []) ⟨hx, hb, hml, hown, hts⟩ (c_X8_storage l D y Ls ad G F A hM nu h14 nl h3 hnu hnl tn htn o by0 m0 hm) (cwV 3 hts gX8_sumOf_X8_storage rfl rfl rfl (by decide +kernel) ⟨Nat.le_of_ble_eq_true rfl, Nat.le_of_ble_eq_true rfl⟩) ⟨Wd_blind, Wd_recv hK hP (ci := 10) rfl hM.1 eM, Wd_at hP hK hN⟩ rfl rfl hl.1 rfl (lv_room (Nat.le_of_ble_eq_true rfl)) dX8_sumOf_4 ⟨Nat.zero_le _, Nat.zero_le _⟩)) (fun r_4 hr_4 => ?_)
  refine lv_aload_n hx hb dX8_sumOf_7 rfl (lv_at hl 0 rfl) ?_
  refine lv_iload_n hx hb dX8_sumOf_8 rfl (lv_at hl 1 rfl) ?_
  refine lv_iload_n hx hb dX8_sumOf_9 rfl (lv_at hl 2 rfl) ?_
  refine lv_iload_n hx hb dX8_sumOf_10 rfl (lv_at hl 3 rfl) ?_
  refine vp_callSi (va_Run.run (va_runV (As := [.int o, .int by0, .int (nI m0)]) (rest := [.int r_4]) ⟨hx, hb, hml, hown, hts⟩ (c_X8_handling l D y Ls ad G F A hM nm h21 nl h3 hnm hnl o by0 (nI m0)) (cwV 3 hts gX8_sumOf_X8_handling rfl rfl rfl (by decide +kernel) ⟨Nat.le_of_ble_eq_true rfl, Nat.le_of_ble_eq_true rfl⟩) ⟨Wd_blind, Wd_recv hK hP (ci := 10) rfl hM.1 eM, Wd_at hP hK hN⟩ rfl rfl hl.1 rfl (lv_room (Nat.le_of_ble_eq_true rfl)) dX8_sumOf_11 ⟨Nat.zero_le _, Nat.zero_le _⟩)) (fun r_11 hr_11 => ?_)
  refine lv_iadd hx hb dX8_sumOf_14 ?_
  refine lv_topi (fun x_15 ex_15 => ?_)
  refine lv_istore (lv' := [(4, .int x_15), (0, .ref (ad 100)), (1, .int o), (2, .int by0), (3, .int (nI m0))]) hx hb dX8_sumOf_15 hl (by decide) rfl (fun ls hl => ?_)
  refine lv_aload_n hx hb dX8_sumOf_17 rfl (lv_at hl 1 rfl) ?_
  refine lv_bipush (v := 77) hx hb dX8_sumOf_18 (by decide) ?_
  refine lv_iload_n hx hb dX8_sumOf_20 rfl (lv_at hl 3 rfl) ?_
  refine lv_iconst (v := 0) hx hb dX8_sumOf_21 (by decide) ?_
  refine vp_callSi (va_Run.run (va_runV (As := [.int 77, .int by0, .int 0]) (rest := []) ⟨hx, hb, hml, hown, hts⟩ (c_X8_cents l D y Ls ad G F A hM nl h3 hnl 77 by0 0) (cwV 3 hts gX8_sumOf_X8_cents rfl rfl rfl (by decide +kernel) ⟨Nat.le_of_ble_eq_true rfl, Nat.le_of_ble_eq_true rfl⟩) ⟨Wd_blind, Wd_recv hK hP (ci := 10) rfl hM.1 eM, Wd_at hP hK hN⟩ rfl rfl hl.1 rfl (lv_room (Nat.le_of_ble_eq_true rfl)) dX8_sumOf_22 ⟨Nat.zero_le _, Nat.zero_le _⟩)) (fun r_22 hr_22 => ?_)
  refine lv_istore (lv' := [(5, .int r_22), (4, .int x_15), (0, .ref (ad 100)), (1, .int o), (2, .int by0), (3, .int (nI m0))]) hx hb dX8_sumOf_25 hl (by decide) rfl (fun ls hl => ?_)
  refine lv_iload hx hb dX8_sumOf_27 (lv_at hl 1 rfl) ?_
  refine lv_iload hx hb dX8_sumOf_29 (lv_at hl 0 rfl) ?_
  refine lv_icmp_ge (tgt := 39) hx hb dX8_sumOf_31 (by decide) (fun c_31 => ?_) (fun c_31 => ?_)
  · refine lv_iload hx hb dX8_sumOf_39 (lv_at hl 1 rfl) ?_
    exact W.iret (v := x_15) hx hb hr (fun t ht hW => ⟨x_15, rfl, (by rw [mSum, mxI, if_neg (by rw [← hr_4, ← hr_11, ← hr_22, ← ex_15]; exact Int32.not_lt.mpr c_31), ex_15, hr_4, hr_11]), ht⟩) (fun q h => by cases h) dX8_sumOf_41
  · refine lv_iload hx hb dX8_sumOf_34 (lv_at hl 0 rfl) ?_
    refine lv_goto (tgt := 41) hx hb dX8_sumOf_36 (by decide) ?_
    exact W.iret (v := r_22) hx hb hr (fun t ht hW => ⟨r_22, rfl, (by rw [mSum, mxI, if_pos (by rw [← hr_4, ← hr_11, ← hr_22, ← ex_15]; exact Int32.not_le.mp c_31), hr_22]), ht⟩) (fun q h => by cases h) dX8_sumOf_41

theorem i_eq0 {a b : Int32} (h : a - b = 0) : a = b := by
  have h2 : a - b + b = b := by rw [h]; exact Int32.zero_add b
  rw [Int32.sub_add_cancel] at h2; exact h2

set_option maxHeartbeats 4000000 in
set_option maxRecDepth 100000 in
/-- rowOf -/
theorem c_X8_rowOf (l : Launch) (D : va_G) (y : Nat → ClassId) (Ls : List Nat) (ad : Nat → Nat) (G : Nat → va_E) (F : Nat → Int32) (A : Nat → Nat → Int32) (hM : ModelAt y Ls ad G F A) (nr : Nat) (h26 : F 26 = nI nr) (hnr : nr ≤ 520) (o i0 : Int32) : Met l yX8_rowOf wsX8_rowOf ({ frames := 0, cells := 0, slots := 0, locals := 0 }) (va_Pc [.ref (ad 100), .int o, .int i0] (Wd D y (wl Ls ad G))) (vp_Si (fun r => (∃ k, k < nr ∧ r = nI k ∧ A 27 k = o ∧ nI (cnt (A 27) o k) = i0) ∨ (r = -1 ∧ ∀ k, k < nr → A 27 k = o → nI (cnt (A 27) o k) ≠ i0))) 0 0 (fun _ => False) := by
  refine Met.ofW (cc := cX8_rowOf) (maxL := 5) (ret := (some .int)) (by decide) rfl ?_
  intro p e s m args below meth c s₁ B hml hv
  obtain ⟨rfl, hP, hK, hN⟩ := hv
  have hx := B.exec
  have hb := B.bytes
  have hr := B.returns
  have hts := atoms_spec (ws := wsX8_rowOf) B.pre
  have hown : s.vm.findClass RX8 = some m.cls := findClass_of_methodNamed B.named
  have hlocks := B.notSynchronized
  have hinX8 : ∀ w ∈ wsX80, w ∈ wsX8_rowOf := by decide +kernel
  have eM : G 100 = .inr (10, [.int (F 0), .int (F 1), .ref (ad 103), .int (F 3), .ref (ad 105), .ref (ad 106), .ref (ad 107), .ref (ad 108), .int (F 8), .ref (ad 110), .ref (ad 111), .ref (ad 112), .ref (ad 113), .int (F 13), .int (F 14), .ref (ad 116), .ref (ad 117), .ref (ad 118), .ref (ad 119), .ref (ad 120), .ref (ad 121), .int (F 21), .ref (ad 123), .ref (ad 124), .ref (ad 125), .ref (ad 126), .int (nI nr), .ref (ad 128), .ref (ad 129), .ref (ad 130), .ref (ad 131), .ref (ad 132), .int (F 32), .ref (ad 134)]) := hM.2.1.trans (by rw [mfs, h26])
  obtain ⟨j27, a27⟩ : 128 ∈ Ls ∧ G 128 = .inl (y 0, 520, .inl (A 27)) := hM.2.2 27 (by decide)
  have loop5 : ∀ (n : Nat) (i : Nat) (k : Int32), i ≤ nr → nr < i + n → k = i0 - nI (cnt (A 27) o i) → (∀ k9, k9 < i → A 27 k9 = o → nI (cnt (A 27) o k9) ≠ i0) → ∀ ls : Array Slot, lv_has ls 5 [(0, .ref (ad 100)), (1, .int o), (2, .int i0), (3, .int k), (4, .int (nI i))] → W p l e (headSpec wsX8_rowOf ({ frames := 0, cells := 0, slots := 0, locals := 0 })).room s m ([.ref (ad 100), .int o, .int i0] : List Value).toArray below meth c s.heap [] 0 0 (MQ below (vp_Si (fun r => (∃ k, k < nr ∧ r = nI k ∧ A 27 k = o ∧ nI (cnt (A 27) o k) = i0) ∨ (r = -1 ∧ ∀ k, k < nr → A 27 k = o → nI (cnt (A 27) o k) ≠ i0))) ([.ref (ad 100), .int o, .int i0] : List Value).toArray s 0 0 (fun _ => False)) (F0 m 5 ls []) := by
    intro n
    induction n with
    | zero =>
      intro i k hi hn; exact absurd hn (by omega)
    | succ n ih5 =>
      intro i k hi hn ek hno ls hl
      refine lv_iload hx hb dX8_rowOf_5 (lv_at hl 4 rfl) ?_
      refine lv_aload_n hx hb dX8_rowOf_7 rfl (lv_at hl 0 rfl) ?_
      refine pv_get (ci := 10) (C := RX8) (T := TX8) (N := 34) hx hb hts hinX8 hown hK hP hM.1 eM rfl 26 (by decide) (hts (.fieldLink RX8 170 "StorageChargeModel" "rows" "I") (by decide +kernel)) (fun _ h9 => h9) rfl dX8_rowOf_8 ?_
      refine lv_icmp_ge (tgt := 44) hx hb dX8_rowOf_11 (by decide) (fun c_11 => ?_) (fun c_11 => ?_)
      · have hge : nr = i := by
          have h8 := Nat.le_of_not_lt (fun h : i < nr => absurd c_11 (nI_ge h (by omega)))
          omega
        refine lv_iconst (v := (-1)) hx hb dX8_rowOf_44 (by decide) ?_
        exact W.iret (v := (-1)) hx hb hr (fun t ht hW => ⟨(-1), rfl, Or.inr ⟨rfl, hge ▸ hno⟩, ht⟩) (fun q h => by cases h) dX8_rowOf_45
      · have hlt : i < nr := Nat.lt_of_not_le fun h => c_11 (nI_le h (by omega))
        refine lv_aload_n hx hb dX8_rowOf_14 rfl (lv_at hl 0 rfl) ?_
        refine pv_get (ci := 10) (C := RX8) (T := TX8) (N := 34) hx hb hts hinX8 hown hK hP hM.1 eM rfl 27 (by decide) (hts (.fieldLink RX8 67 "StorageChargeModel" "rowOwner" "[I") (by decide +kernel)) (fun _ h9 => h9) rfl dX8_rowOf_15 ?_
        refine lv_iload hx hb dX8_rowOf_18 (lv_at hl 4 rfl) ?_
        refine pv_iald hx hb hK hP j27 0 a27 rfl (k := i) rfl (by omega) (by decide) dX8_rowOf_20 ?_
        refine lv_iload_n hx hb dX8_rowOf_21 rfl (lv_at hl 1 rfl) ?_
        refine lv_icmp_eq (tgt := 28) hx hb dX8_rowOf_22 (by decide) (fun c_22 => ?_) (fun c_22 => ?_)
        · refine lv_iload_n hx hb dX8_rowOf_28 rfl (lv_at hl 3 rfl) ?_
          refine lv_if_ne (tgt := 35) hx hb dX8_rowOf_29 (by decide) (fun c_29 => ?_) (fun c_29 => ?_)
          · obtain ⟨x_35, ex_35⟩ : ∃ y9 : Int32, y9 = k + (-1) := ⟨_, rfl⟩
            refine lv_iinc (v := x_35) (lv' := [(3, .int x_35), (0, .ref (ad 100)), (1, .int o), (2, .int i0), (4, .int (nI i))]) hx hb dX8_rowOf_35 hl (k := 3) rfl (by rw [ex_35]; rfl) (by decide) rfl (fun ls hl => ?_)
            refine lv_iinc (v := nI (i + 1)) (lv' := [(4, .int (nI (i + 1))), (3, .int x_35), (0, .ref (ad 100)), (1, .int o), (2, .int i0)]) hx hb dX8_rowOf_38 hl (k := 4) rfl (nI_1 i) (by decide) rfl (fun ls hl => ?_)
            refine lv_goto (tgt := 5) hx hb dX8_rowOf_41 (by decide) ?_
            exact ih5 (i + 1) x_35 (by omega) (by omega) (by rw [cnt, if_pos c_22, ex_35, ek, ← nI_1]; exact i_sub _ _) (fun k9 h h2 => by rcases Nat.lt_or_eq_of_le (Nat.le_of_lt_succ h) with h | rfl; exact hno k9 h h2; exact fun h3 => c_29 (by rw [ek, h3]; exact Int32.sub_self _)) ls (lv_sub hl [2, 3, 4, 1, 0] rfl)
          · refine lv_iload hx hb dX8_rowOf_32 (lv_at hl 4 rfl) ?_
            exact W.iret (v := nI i) hx hb hr (fun t ht hW => ⟨nI i, rfl, Or.inl ⟨i, hlt, rfl, c_22, (i_eq0 (by rw [← ek]; exact c_29)).symm⟩, ht⟩) (fun q h => by cases h) dX8_rowOf_34
        · refine lv_goto (tgt := 38) hx hb dX8_rowOf_25 (by decide) ?_
          refine lv_iinc (v := nI (i + 1)) (lv' := [(4, .int (nI (i + 1))), (0, .ref (ad 100)), (1, .int o), (2, .int i0), (3, .int k)]) hx hb dX8_rowOf_38 hl (k := 4) rfl (nI_1 i) (by decide) rfl (fun ls hl => ?_)
          refine lv_goto (tgt := 5) hx hb dX8_rowOf_41 (by decide) ?_
          exact ih5 (i + 1) k (by omega) (by omega) (by rw [cnt, if_neg c_22, ek]) (fun k9 h h2 => by rcases Nat.lt_or_eq_of_le (Nat.le_of_lt_succ h) with h | rfl; exact hno k9 h h2; exact absurd h2 c_22) ls (lv_sub hl [1, 2, 3, 4, 0] rfl)
  have hl := lv_entry ([.ref (ad 100), .int o, .int i0]) (n := 5) (Nat.le_of_ble_eq_true rfl)
  rw [lg_entry_eq]
  generalize (lg_sl ([.ref (ad 100), .int o, .int i0]) ++ List.replicate (5 - (lg_sl ([.ref (ad 100), .int o, .int i0])).length) Slot.unset).toArray = ls at hl ⊢
  have hl : lv_has ls 5 [(0, .ref (ad 100)), (1, .int o), (2, .int i0)] := hl
  refine lv_iload_n hx hb dX8_rowOf_0 rfl (lv_at hl 2 rfl) ?_
  refine lv_istore_n (lv' := [(3, .int i0), (0, .ref (ad 100)), (1, .int o), (2, .int i0)]) hx hb dX8_rowOf_1 rfl hl (by decide) rfl (fun ls hl => ?_)
  refine lv_iconst (v := 0) hx hb dX8_rowOf_2 (by decide) ?_
  refine lv_istore (lv' := [(4, .int 0), (3, .int i0), (0, .ref (ad 100)), (1, .int o), (2, .int i0)]) hx hb dX8_rowOf_3 hl (by decide) rfl (fun ls hl => ?_)
  exact loop5 (nr + 1) 0 i0 (by omega) (by omega) (by rw [cnt]; exact (Int32.sub_zero _).symm) (fun k9 h => absurd h (Nat.not_lt_zero k9)) ls (lv_sub hl [2, 3, 4, 1, 0] rfl)
