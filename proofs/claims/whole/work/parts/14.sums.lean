/-! the class's reads over units, moves and lines -/
/-- the whole object, at the label 0: its charges at ch, its draft at dr -/
def XAt (Ls : List Nat) (ad : Nat → Nat) (G : Nat → va_E) (ch dr : Nat) : Prop := 0 ∈ Ls ∧ G 0 = .inr (9, [.ref (ad 1), .ref (ad ch), .ref (ad dr), .ref (ad 3), .ref (ad 5), .ref (ad 7), .ref (ad 30)])
def UnitsAt (y : Nat → ClassId) (Ls : List Nat) (ad : Nat → Nat) (G : Nat → va_E) (nu : Nat) (uo : Nat → Int32) (uf ul : Nat → Nat) (ug : Nat → Int32) (ut : Nat → Nat) (uk ud : Nat → Nat → Int32) : Prop :=
  ListAt y Ls ad G 3 nu (fun i => ad (1000 + 3 * i)) ∧ ∀ i, i < nu → UnitAt y Ls ad G (1000 + 3 * i) (uo i) (nI (uf i)) (nI (ul i)) (ug i) (ut i) (uk i) (ud i) ∧ uf i < 3600 ∧ ul i < 3600
def MovesAt (y : Nat → ClassId) (Ls : List Nat) (ad : Nat → Nat) (G : Nat → va_E) (nm : Nat) (mo mk md mp : Nat → Int32) : Prop :=
  ListAt y Ls ad G 5 nm (fun i => ad (2000 + i)) ∧ ∀ i, i < nm → 2000 + i ∈ Ls ∧ G (2000 + i) = .inr (5, [.int (mo i), .int (mk i), .int (md i), .int (mp i)])
def BillsAt (y : Nat → ClassId) (Ls : List Nat) (ad : Nat → Nat) (G : Nat → va_E) (nl : Nat) (bo bm bc bi : Nat → Int32) : Prop :=
  (7 ∈ Ls ∧ G 7 = .inr (3, [.ref (ad 8)])) ∧ ListAt y Ls ad G 8 nl (fun i => ad (3000 + i)) ∧ ∀ i, i < nl → 3000 + i ∈ Ls ∧ G (3000 + i) = .inr (2, [.int (bo i), .int (bm i), .int (bc i), .int (bi i)])
def cnt (f : Nat → Int32) (o : Int32) : Nat → Nat
  | 0 => 0
  | i + 1 => if f i = o then cnt f o i + 1 else cnt f o i
theorem cnt_le (f : Nat → Int32) (o : Int32) : ∀ n, cnt f o n ≤ n
  | 0 => Nat.le_refl 0
  | n + 1 => by
    have := cnt_le f o n
    rw [cnt]; split <;> omega
/-- a unit's days of a month -/
def dTh (mo : Int32) (f g : Nat) : Int32 := mxI 0 (mnI (30 * mo + 30 - 1) (nI g) - mxI (30 * mo) (nI f) + 1)
/-- the sum of v over those of the first n that are o's -/
def sumO (uo : Nat → Int32) (o : Int32) (v : Nat → Int32) : Nat → Int32
  | 0 => 0
  | i + 1 => if uo i = o then sumO uo o v i + v i else sumO uo o v i
/-- the sum of v over k days from s on -/
def sumD (v : Nat → Int32) (s : Nat) : Nat → Int32
  | 0 => 0
  | k + 1 => sumD v s k + v (s + k)
def stoU (st : Nat → Int32) (by0 : Int32) (m f g told : Nat) (kf df : Nat → Int32) : Int32 := sumD (fun d => tZ 40 st (5 * by0 + kOn kf df (nI d) (told - 1))) (max (30 * m) f) (min (30 * m + 29) g + 1 - max (30 * m) f)
def hanM (ha : Nat → Int32) (by0 : Int32) (m : Int32) (k d p : Int32) : Int32 := if 30 * m ≤ d ∧ d ≤ 30 * m + 30 - 1 then p * tZ 40 ha (5 * by0 + k) else 0
theorem mx_nI {a b : Nat} (ha : a < 2 ^ 31) (hb : b < 2 ^ 31) : (if nI a < nI b then nI b else nI a) = nI (max a b) := by
  by_cases h : a < b
  · rw [if_pos (nI_lt h hb), Nat.max_eq_right (Nat.le_of_lt h)]
  · rw [if_neg (nI_nlt (Nat.le_of_not_lt h) ha), Nat.max_eq_left (Nat.le_of_not_lt h)]
theorem mn_nI {a b : Nat} (ha : a < 2 ^ 31) (hb : b < 2 ^ 31) : (if nI b < nI a then nI b else nI a) = nI (min a b) := by
  by_cases h : b < a
  · rw [if_pos (nI_lt h ha), Nat.min_eq_right (Nat.le_of_lt h)]
  · rw [if_neg (nI_nlt (Nat.le_of_not_lt h) hb), Nat.min_eq_left (Nat.le_of_not_lt h)]
theorem day1 (m : Nat) : (30 : Int32) * nI m = nI (30 * m) := pk_mul 30 m
theorem day2 (m : Nat) : (30 : Int32) * nI m + 30 - 1 = nI (30 * m + 29) := by
  rw [day1, show (30 : Int32) = nI 30 from rfl, nI_add, show 30 * m + 30 = (30 * m + 29) + 1 from rfl, nI_pred]

set_option maxHeartbeats 4000000 in
set_option maxRecDepth 100000 in
/-- movesOf -/
theorem c_X7_movesOf (l : Launch) (D : va_G) (y : Nat → ClassId) (Ls : List Nat) (ad : Nat → Nat) (G : Nat → va_E) (ch dr : Nat) (hX : XAt Ls ad G ch dr) (nm : Nat) (mo mk md mp : Nat → Int32) (hMs : MovesAt y Ls ad G nm mo mk md mp) (o : Int32) : Met l yX7_movesOf wsX7_movesOf ({ frames := 3, cells := 0, slots := 0, locals := 64 }) (va_Pc [.ref (ad 0), .int o] (Wd D y (wl Ls ad G))) (vp_Si (fun r => r = nI (cnt mo o nm))) 0 0 (fun _ => False) := by
  refine Met.ofW (cc := cX7_movesOf) (maxL := 4) (ret := (some .int)) (by decide) rfl ?_
  intro p e s m args below meth c s₁ B hml hv
  obtain ⟨rfl, hP, hK, hN⟩ := hv
  have hx := B.exec
  have hb := B.bytes
  have hr := B.returns
  have hts := atoms_spec (ws := wsX7_movesOf) B.pre
  have hown : s.vm.findClass RX7 = some m.cls := findClass_of_methodNamed B.named
  have hlocks := B.notSynchronized
  have hinX3 : ∀ w ∈ wsX30, w ∈ wsX7_movesOf := by decide +kernel
  have hinX7 : ∀ w ∈ wsX70, w ∈ wsX7_movesOf := by decide +kernel
  obtain ⟨mc5, ea5, hj5, ej5, hn5, -⟩ := id hMs.1
  have loop4 : ∀ (n : Nat) (i : Nat) (k : Int32), i ≤ nm → nm < i + n → k = nI (cnt mo o i) → ∀ ls : Array Slot, lv_has ls 4 [(0, .ref (ad 0)), (1, .int o), (2, .int k), (3, .int (nI i))] → W p l e (headSpec wsX7_movesOf ({ frames := 3, cells := 0, slots := 0, locals := 64 })).room s m ([.ref (ad 0), .int o] : List Value).toArray below meth c s.heap [] 0 0 (MQ below (vp_Si (fun r => r = nI (cnt mo o nm))) ([.ref (ad 0), .int o] : List Value).toArray s 0 0 (fun _ => False)) (F0 m 4 ls []) := by
    intro n
    induction n with
    | zero =>
      intro i k hi hn; exact absurd hn (by omega)
    | succ n ih4 =>
      intro i k hi hn ek ls hl
      refine lv_iload_n hx hb dX7_movesOf_4 rfl (lv_at hl 3 rfl) ?_
      refine lv_aload_n hx hb dX7_movesOf_5 rfl (lv_at hl 0 rfl) ?_
      refine pv_get (ci := 9) (C := RX7) (T := TX7) (N := 7) hx hb hts hinX7 hown hK hP hX.1 hX.2 rfl 4 (by decide) (hts (.fieldLink RX7 33 "StorageCharge" "moves" "Ljava/util/ArrayList;") (by decide +kernel)) (fun _ h9 => h9) rfl dX7_movesOf_6 ?_
      refine vp_callSi (va_Run.run (va_runV (As := []) (rest := [.int (nI i)]) ⟨hx, hb, hml, hown, hts⟩ (c_Jx4a65c_size_8abf5 l D y Ls ad G 5 nm (fun i => ad (2000 + i)) hMs.1) (cwV 0 hts gX7_movesOf_Jx4a65c_size_8abf5 rfl rfl rfl (by decide +kernel) ⟨Nat.le_of_ble_eq_true rfl, Nat.le_of_ble_eq_true rfl⟩) ⟨Wd_blind, Wd_recv hK hP (ci := 1) rfl hj5 ej5, Wd_at hP hK hN⟩ rfl rfl hl.1 rfl (lv_room (Nat.le_of_ble_eq_true rfl)) dX7_movesOf_9 ⟨Nat.zero_le _, Nat.zero_le _⟩)) (fun r_9 hr_9 => ?_)
      refine lv_icmp_ge (tgt := 42) hx hb dX7_movesOf_12 (by decide) (fun c_12 => ?_) (fun c_12 => ?_)
      · have hge : nm = i := by
          have h8 := Nat.le_of_not_lt (fun h : i < nm => absurd (by rw [← hr_9]; exact c_12) (nI_ge h (by omega)))
          omega
        refine lv_iload_n hx hb dX7_movesOf_42 rfl (lv_at hl 2 rfl) ?_
        exact W.iret (v := k) hx hb hr (fun t ht hW => ⟨k, rfl, (by rw [ek, hge]), ht⟩) (fun q h => by cases h) dX7_movesOf_43
      · have hlt : i < nm := Nat.lt_of_not_le fun h => c_12 (by rw [hr_9]; exact nI_le h (by omega))
        refine lv_aload_n hx hb dX7_movesOf_15 rfl (lv_at hl 0 rfl) ?_
        refine pv_get (ci := 9) (C := RX7) (T := TX7) (N := 7) hx hb hts hinX7 hown hK hP hX.1 hX.2 rfl 4 (by decide) (hts (.fieldLink RX7 33 "StorageCharge" "moves" "Ljava/util/ArrayList;") (by decide +kernel)) (fun _ h9 => h9) rfl dX7_movesOf_16 ?_
        refine lv_iload_n hx hb dX7_movesOf_19 rfl (lv_at hl 3 rfl) ?_
        refine va_csr (va_Run.run (va_runV (As := [.int (nI i)]) (rest := []) ⟨hx, hb, hml, hown, hts⟩ (c_Jx4a65c_get_915e3 l D y Ls ad G 5 nm (fun i => ad (2000 + i)) hMs.1 i hlt) (cwV 1 hts gX7_movesOf_Jx4a65c_get_915e3 rfl rfl rfl (by decide +kernel) ⟨Nat.le_of_ble_eq_true rfl, Nat.le_of_ble_eq_true rfl⟩) ⟨Wd_blind, Wd_recv hK hP (ci := 1) rfl hj5 ej5, Wd_at hP hK hN⟩ rfl rfl hl.1 rfl (lv_room (Nat.le_of_ble_eq_true rfl)) dX7_movesOf_20 ⟨Nat.zero_le _, Nat.zero_le _⟩)) (fun r_20 hr_20 => ?_)
        subst hr_20
        refine va_castS hx hb hown (hts (.classLink RX7 140 "StorageCharge$Move") (by decide +kernel)) (hK.1 5 _ rfl).2 (Wd_recv hK hP (ci := 5) rfl (hMs.2 i hlt).1 (hMs.2 i hlt).2) dX7_movesOf_23 ?_
        refine pv_getN (ci := 5) (C := RX3) (T := TX3) (N := 4) hx hb hts hinX3 hown hK hP (hMs.2 i hlt).1 (hMs.2 i hlt).2 rfl 0 (by decide) hN (by decide +kernel : Cond.fieldLinkNest RX7 279 "StorageCharge$Move" "owner" "I" "StorageCharge" ∈ nestW) (fun _ h9 => h9) rfl dX7_movesOf_26 ?_
        refine lv_iload_n hx hb dX7_movesOf_29 rfl (lv_at hl 1 rfl) ?_
        refine lv_icmp_ne (tgt := 36) hx hb dX7_movesOf_30 (by decide) (fun c_30 => ?_) (fun c_30 => ?_)
        · refine lv_iinc (v := nI (i + 1)) (lv' := [(3, .int (nI (i + 1))), (0, .ref (ad 0)), (1, .int o), (2, .int k)]) hx hb dX7_movesOf_36 hl (k := 3) rfl (nI_1 i) (by decide) rfl (fun ls hl => ?_)
          refine lv_goto (tgt := 4) hx hb dX7_movesOf_39 (by decide) ?_
          exact ih4 (i + 1) k (by omega) (by omega) (by rw [cnt, if_neg c_30, ek]) ls (lv_sub hl [1, 2, 3, 0] rfl)
        · obtain ⟨x_33, ex_33⟩ : ∃ y9 : Int32, y9 = k + 1 := ⟨_, rfl⟩
          refine lv_iinc (v := x_33) (lv' := [(2, .int x_33), (0, .ref (ad 0)), (1, .int o), (3, .int (nI i))]) hx hb dX7_movesOf_33 hl (k := 2) rfl (by rw [ex_33]; rfl) (by decide) rfl (fun ls hl => ?_)
          refine lv_iinc (v := nI (i + 1)) (lv' := [(3, .int (nI (i + 1))), (2, .int x_33), (0, .ref (ad 0)), (1, .int o)]) hx hb dX7_movesOf_36 hl (k := 3) rfl (nI_1 i) (by decide) rfl (fun ls hl => ?_)
          refine lv_goto (tgt := 4) hx hb dX7_movesOf_39 (by decide) ?_
          exact ih4 (i + 1) x_33 (by omega) (by omega) (by rw [cnt, if_pos c_30, ex_33, ek]; exact nI_1 _) ls (lv_sub hl [2, 3, 1, 0] rfl)
  have hl := lv_entry ([.ref (ad 0), .int o]) (n := 4) (Nat.le_of_ble_eq_true rfl)
  rw [lg_entry_eq]
  generalize (lg_sl ([.ref (ad 0), .int o]) ++ List.replicate (4 - (lg_sl ([.ref (ad 0), .int o])).length) Slot.unset).toArray = ls at hl ⊢
  have hl : lv_has ls 4 [(0, .ref (ad 0)), (1, .int o)] := hl
  refine lv_iconst (v := 0) hx hb dX7_movesOf_0 (by decide) ?_
  refine lv_istore_n (lv' := [(2, .int 0), (0, .ref (ad 0)), (1, .int o)]) hx hb dX7_movesOf_1 rfl hl (by decide) rfl (fun ls hl => ?_)
  refine lv_iconst (v := 0) hx hb dX7_movesOf_2 (by decide) ?_
  refine lv_istore_n (lv' := [(3, .int 0), (2, .int 0), (0, .ref (ad 0)), (1, .int o)]) hx hb dX7_movesOf_3 rfl hl (by decide) rfl (fun ls hl => ?_)
  exact loop4 (nm + 1) 0 0 (by omega) (by omega) rfl ls (lv_sub hl [2, 3, 1, 0] rfl)

set_option maxHeartbeats 4000000 in
set_option maxRecDepth 100000 in
/-- unitsStillThere -/
theorem c_X7_unitsStillThere (l : Launch) (D : va_G) (y : Nat → ClassId) (Ls : List Nat) (ad : Nat → Nat) (G : Nat → va_E) (ch dr : Nat) (hX : XAt Ls ad G ch dr) (nu : Nat) (uo : Nat → Int32) (uf ul : Nat → Nat) (ug : Nat → Int32) (ut : Nat → Nat) (uk ud : Nat → Nat → Int32) (hUs : UnitsAt y Ls ad G nu uo uf ul ug ut uk ud) : Met l yX7_unitsStillThere wsX7_unitsStillThere ({ frames := 3, cells := 0, slots := 0, locals := 64 }) (va_Pc [.ref (ad 0)] (Wd D y (wl Ls ad G))) (vp_Si (fun r => r = nI (cnt ug 0 nu))) 0 0 (fun _ => False) := by
  refine Met.ofW (cc := cX7_unitsStillThere) (maxL := 3) (ret := (some .int)) (by decide) rfl ?_
  intro p e s m args below meth c s₁ B hml hv
  obtain ⟨rfl, hP, hK, hN⟩ := hv
  have hx := B.exec
  have hb := B.bytes
  have hr := B.returns
  have hts := atoms_spec (ws := wsX7_unitsStillThere) B.pre
  have hown : s.vm.findClass RX7 = some m.cls := findClass_of_methodNamed B.named
  have hlocks := B.notSynchronized
  have hinX6 : ∀ w ∈ wsX60, w ∈ wsX7_unitsStillThere := by decide +kernel
  have hinX7 : ∀ w ∈ wsX70, w ∈ wsX7_unitsStillThere := by decide +kernel
  obtain ⟨mc3, ea3, hj3, ej3, hn3, -⟩ := id hUs.1
  have loop4 : ∀ (n : Nat) (i : Nat) (k : Int32), i ≤ nu → nu < i + n → k = nI (cnt ug 0 i) → ∀ ls : Array Slot, lv_has ls 3 [(0, .ref (ad 0)), (1, .int k), (2, .int (nI i))] → W p l e (headSpec wsX7_unitsStillThere ({ frames := 3, cells := 0, slots := 0, locals := 64 })).room s m ([.ref (ad 0)] : List Value).toArray below meth c s.heap [] 0 0 (MQ below (vp_Si (fun r => r = nI (cnt ug 0 nu))) ([.ref (ad 0)] : List Value).toArray s 0 0 (fun _ => False)) (F0 m 4 ls []) := by
    intro n
    induction n with
    | zero =>
      intro i k hi hn; exact absurd hn (by omega)
    | succ n ih4 =>
      intro i k hi hn ek ls hl
      refine lv_iload_n hx hb dX7_unitsStillThere_4 rfl (lv_at hl 2 rfl) ?_
      refine lv_aload_n hx hb dX7_unitsStillThere_5 rfl (lv_at hl 0 rfl) ?_
      refine pv_get (ci := 9) (C := RX7) (T := TX7) (N := 7) hx hb hts hinX7 hown hK hP hX.1 hX.2 rfl 3 (by decide) (hts (.fieldLink RX7 29 "StorageCharge" "units" "Ljava/util/ArrayList;") (by decide +kernel)) (fun _ h9 => h9) rfl dX7_unitsStillThere_6 ?_
      refine vp_callSi (va_Run.run (va_runV (As := []) (rest := [.int (nI i)]) ⟨hx, hb, hml, hown, hts⟩ (c_Jx4a65c_size_8abf5 l D y Ls ad G 3 nu (fun i => ad (1000 + 3 * i)) hUs.1) (cwV 0 hts gX7_unitsStillThere_Jx4a65c_size_8abf5 rfl rfl rfl (by decide +kernel) ⟨Nat.le_of_ble_eq_true rfl, Nat.le_of_ble_eq_true rfl⟩) ⟨Wd_blind, Wd_recv hK hP (ci := 1) rfl hj3 ej3, Wd_at hP hK hN⟩ rfl rfl hl.1 rfl (lv_room (Nat.le_of_ble_eq_true rfl)) dX7_unitsStillThere_9 ⟨Nat.zero_le _, Nat.zero_le _⟩)) (fun r_9 hr_9 => ?_)
      refine lv_icmp_ge (tgt := 41) hx hb dX7_unitsStillThere_12 (by decide) (fun c_12 => ?_) (fun c_12 => ?_)
      · have hge : nu = i := by
          have h8 := Nat.le_of_not_lt (fun h : i < nu => absurd (by rw [← hr_9]; exact c_12) (nI_ge h (by omega)))
          omega
        refine lv_iload_n hx hb dX7_unitsStillThere_41 rfl (lv_at hl 1 rfl) ?_
        exact W.iret (v := k) hx hb hr (fun t ht hW => ⟨k, rfl, (by rw [ek, hge]), ht⟩) (fun q h => by cases h) dX7_unitsStillThere_42
      · have hlt : i < nu := Nat.lt_of_not_le fun h => c_12 (by rw [hr_9]; exact nI_le h (by omega))
        obtain ⟨hu, huk, hud, eu, euk, eud, h1, h9⟩ := (hUs.2 i hlt).1
        refine lv_aload_n hx hb dX7_unitsStillThere_15 rfl (lv_at hl 0 rfl) ?_
        refine pv_get (ci := 9) (C := RX7) (T := TX7) (N := 7) hx hb hts hinX7 hown hK hP hX.1 hX.2 rfl 3 (by decide) (hts (.fieldLink RX7 29 "StorageCharge" "units" "Ljava/util/ArrayList;") (by decide +kernel)) (fun _ h9 => h9) rfl dX7_unitsStillThere_16 ?_
        refine lv_iload_n hx hb dX7_unitsStillThere_19 rfl (lv_at hl 2 rfl) ?_
        refine va_csr (va_Run.run (va_runV (As := [.int (nI i)]) (rest := []) ⟨hx, hb, hml, hown, hts⟩ (c_Jx4a65c_get_915e3 l D y Ls ad G 3 nu (fun i => ad (1000 + 3 * i)) hUs.1 i hlt) (cwV 1 hts gX7_unitsStillThere_Jx4a65c_get_915e3 rfl rfl rfl (by decide +kernel) ⟨Nat.le_of_ble_eq_true rfl, Nat.le_of_ble_eq_true rfl⟩) ⟨Wd_blind, Wd_recv hK hP (ci := 1) rfl hj3 ej3, Wd_at hP hK hN⟩ rfl rfl hl.1 rfl (lv_room (Nat.le_of_ble_eq_true rfl)) dX7_unitsStillThere_20 ⟨Nat.zero_le _, Nat.zero_le _⟩)) (fun r_20 hr_20 => ?_)
        subst hr_20
        refine va_castS hx hb hown (hts (.classLink RX7 100 "StorageCharge$Unit") (by decide +kernel)) (hK.1 8 _ rfl).2 (Wd_recv hK hP (ci := 8) rfl hu eu) dX7_unitsStillThere_23 ?_
        refine pv_getN (ci := 8) (C := RX6) (T := TX6) (N := 7) hx hb hts hinX6 hown hK hP hu eu rfl 3 (by decide) hN (by decide +kernel : Cond.fieldLinkNest RX7 251 "StorageCharge$Unit" "isGone" "Z" "StorageCharge" ∈ nestW) (fun _ h9 => h9) rfl dX7_unitsStillThere_26 ?_
        refine lv_if_ne (tgt := 35) hx hb dX7_unitsStillThere_29 (by decide) (fun c_29 => ?_) (fun c_29 => ?_)
        · refine lv_iinc (v := nI (i + 1)) (lv' := [(2, .int (nI (i + 1))), (0, .ref (ad 0)), (1, .int k)]) hx hb dX7_unitsStillThere_35 hl (k := 2) rfl (nI_1 i) (by decide) rfl (fun ls hl => ?_)
          refine lv_goto (tgt := 4) hx hb dX7_unitsStillThere_38 (by decide) ?_
          exact ih4 (i + 1) k (by omega) (by omega) (by rw [cnt, if_neg c_29, ek]) ls (lv_sub hl [1, 2, 0] rfl)
        · obtain ⟨x_32, ex_32⟩ : ∃ y9 : Int32, y9 = k + 1 := ⟨_, rfl⟩
          refine lv_iinc (v := x_32) (lv' := [(1, .int x_32), (0, .ref (ad 0)), (2, .int (nI i))]) hx hb dX7_unitsStillThere_32 hl (k := 1) rfl (by rw [ex_32]; rfl) (by decide) rfl (fun ls hl => ?_)
          refine lv_iinc (v := nI (i + 1)) (lv' := [(2, .int (nI (i + 1))), (1, .int x_32), (0, .ref (ad 0))]) hx hb dX7_unitsStillThere_35 hl (k := 2) rfl (nI_1 i) (by decide) rfl (fun ls hl => ?_)
          refine lv_goto (tgt := 4) hx hb dX7_unitsStillThere_38 (by decide) ?_
          exact ih4 (i + 1) x_32 (by omega) (by omega) (by rw [cnt, if_pos c_29, ex_32, ek]; exact nI_1 _) ls (lv_sub hl [2, 1, 0] rfl)
  have hl := lv_entry ([.ref (ad 0)]) (n := 3) (Nat.le_of_ble_eq_true rfl)
  rw [lg_entry_eq]
  generalize (lg_sl ([.ref (ad 0)]) ++ List.replicate (3 - (lg_sl ([.ref (ad 0)])).length) Slot.unset).toArray = ls at hl ⊢
  have hl : lv_has ls 3 [(0, .ref (ad 0))] := hl
  refine lv_iconst (v := 0) hx hb dX7_unitsStillThere_0 (by decide) ?_
  refine lv_istore_n (lv' := [(1, .int 0), (0, .ref (ad 0))]) hx hb dX7_unitsStillThere_1 rfl hl (by decide) rfl (fun ls hl => ?_)
  refine lv_iconst (v := 0) hx hb dX7_unitsStillThere_2 (by decide) ?_
  refine lv_istore_n (lv' := [(2, .int 0), (1, .int 0), (0, .ref (ad 0))]) hx hb dX7_unitsStillThere_3 rfl hl (by decide) rfl (fun ls hl => ?_)
  exact loop4 (nu + 1) 0 0 (by omega) (by omega) rfl ls (lv_sub hl [2, 1, 0] rfl)

set_option maxHeartbeats 4000000 in
set_option maxRecDepth 100000 in
/-- unitDays -/
theorem c_X7_unitDays (l : Launch) (D : va_G) (y : Nat → ClassId) (Ls : List Nat) (ad : Nat → Nat) (G : Nat → va_E) (ch dr : Nat) (hX : XAt Ls ad G ch dr) (nu : Nat) (uo : Nat → Int32) (uf ul : Nat → Nat) (ug : Nat → Int32) (ut : Nat → Nat) (uk ud : Nat → Nat → Int32) (hUs : UnitsAt y Ls ad G nu uo uf ul ug ut uk ud) (o m0 : Int32) : Met l yX7_unitDays wsX7_unitDays ({ frames := 3, cells := 0, slots := 0, locals := 64 }) (va_Pc [.ref (ad 0), .int o, .int m0] (Wd D y (wl Ls ad G))) (vp_Si (fun r => r = sumO uo o (fun q => dTh m0 (uf q) (ul q)) nu)) 0 0 (fun _ => False) := by
  refine Met.ofW (cc := cX7_unitDays) (maxL := 6) (ret := (some .int)) (by decide) rfl ?_
  intro p e s m args below meth c s₁ B hml hv
  obtain ⟨rfl, hP, hK, hN⟩ := hv
  have hx := B.exec
  have hb := B.bytes
  have hr := B.returns
  have hts := atoms_spec (ws := wsX7_unitDays) B.pre
  have hown : s.vm.findClass RX7 = some m.cls := findClass_of_methodNamed B.named
  have hlocks := B.notSynchronized
  have hinX6 : ∀ w ∈ wsX60, w ∈ wsX7_unitDays := by decide +kernel
  have hinX7 : ∀ w ∈ wsX70, w ∈ wsX7_unitDays := by decide +kernel
  obtain ⟨mc3, ea3, hj3, ej3, hn3, -⟩ := id hUs.1
  have loop5 : ∀ (n : Nat) (i : Nat) (k : Int32), i ≤ nu → nu < i + n → k = sumO uo o (fun q => dTh m0 (uf q) (ul q)) i → ∀ ls : Array Slot, lv_has ls 6 [(0, .ref (ad 0)), (1, .int o), (2, .int m0), (3, .int k), (4, .int (nI i))] → W p l e (headSpec wsX7_unitDays ({ frames := 3, cells := 0, slots := 0, locals := 64 })).room s m ([.ref (ad 0), .int o, .int m0] : List Value).toArray below meth c s.heap [] 0 0 (MQ below (vp_Si (fun r => r = sumO uo o (fun q => dTh m0 (uf q) (ul q)) nu)) ([.ref (ad 0), .int o, .int m0] : List Value).toArray s 0 0 (fun _ => False)) (F0 m 5 ls []) := by
    intro n
    induction n with
    | zero =>
      intro i k hi hn; exact absurd hn (by omega)
    | succ n ih5 =>
      intro i k hi hn ek ls hl
      refine lv_iload hx hb dX7_unitDays_5 (lv_at hl 4 rfl) ?_
      refine lv_aload_n hx hb dX7_unitDays_7 rfl (lv_at hl 0 rfl) ?_
      refine pv_get (ci := 9) (C := RX7) (T := TX7) (N := 7) hx hb hts hinX7 hown hK hP hX.1 hX.2 rfl 3 (by decide) (hts (.fieldLink RX7 29 "StorageCharge" "units" "Ljava/util/ArrayList;") (by decide +kernel)) (fun _ h9 => h9) rfl dX7_unitDays_8 ?_
      refine vp_callSi (va_Run.run (va_runV (As := []) (rest := [.int (nI i)]) ⟨hx, hb, hml, hown, hts⟩ (c_Jx4a65c_size_8abf5 l D y Ls ad G 3 nu (fun i => ad (1000 + 3 * i)) hUs.1) (cwV 0 hts gX7_unitDays_Jx4a65c_size_8abf5 rfl rfl rfl (by decide +kernel) ⟨Nat.le_of_ble_eq_true rfl, Nat.le_of_ble_eq_true rfl⟩) ⟨Wd_blind, Wd_recv hK hP (ci := 1) rfl hj3 ej3, Wd_at hP hK hN⟩ rfl rfl hl.1 rfl (lv_room (Nat.le_of_ble_eq_true rfl)) dX7_unitDays_11 ⟨Nat.zero_le _, Nat.zero_le _⟩)) (fun r_11 hr_11 => ?_)
      refine lv_icmp_ge (tgt := 62) hx hb dX7_unitDays_14 (by decide) (fun c_14 => ?_) (fun c_14 => ?_)
      · have hge : nu = i := by
          have h8 := Nat.le_of_not_lt (fun h : i < nu => absurd (by rw [← hr_11]; exact c_14) (nI_ge h (by omega)))
          omega
        refine lv_iload_n hx hb dX7_unitDays_62 rfl (lv_at hl 3 rfl) ?_
        exact W.iret (v := k) hx hb hr (fun t ht hW => ⟨k, rfl, (by rw [ek, hge]), ht⟩) (fun q h => by cases h) dX7_unitDays_63
      · have hlt : i < nu := Nat.lt_of_not_le fun h => c_14 (by rw [hr_11]; exact nI_le h (by omega))
        obtain ⟨hu, huk, hud, eu, euk, eud, h1, h9⟩ := (hUs.2 i hlt).1
        refine lv_aload_n hx hb dX7_unitDays_17 rfl (lv_at hl 0 rfl) ?_
        refine pv_get (ci := 9) (C := RX7) (T := TX7) (N := 7) hx hb hts hinX7 hown hK hP hX.1 hX.2 rfl 3 (by decide) (hts (.fieldLink RX7 29 "StorageCharge" "units" "Ljava/util/ArrayList;") (by decide +kernel)) (fun _ h9 => h9) rfl dX7_unitDays_18 ?_
        refine lv_iload hx hb dX7_unitDays_21 (lv_at hl 4 rfl) ?_
        refine va_csr (va_Run.run (va_runV (As := [.int (nI i)]) (rest := []) ⟨hx, hb, hml, hown, hts⟩ (c_Jx4a65c_get_915e3 l D y Ls ad G 3 nu (fun i => ad (1000 + 3 * i)) hUs.1 i hlt) (cwV 1 hts gX7_unitDays_Jx4a65c_get_915e3 rfl rfl rfl (by decide +kernel) ⟨Nat.le_of_ble_eq_true rfl, Nat.le_of_ble_eq_true rfl⟩) ⟨Wd_blind, Wd_recv hK hP (ci := 1) rfl hj3 ej3, Wd_at hP hK hN⟩ rfl rfl hl.1 rfl (lv_room (Nat.le_of_ble_eq_true rfl)) dX7_unitDays_23 ⟨Nat.zero_le _, Nat.zero_le _⟩)) (fun r_23 hr_23 => ?_)
        subst hr_23
        refine va_castS hx hb hown (hts (.classLink RX7 100 "StorageCharge$Unit") (by decide +kernel)) (hK.1 8 _ rfl).2 (Wd_recv hK hP (ci := 8) rfl hu eu) dX7_unitDays_26 ?_
        refine lv_astore (lv' := [(5, .ref (ad (1000 + 3 * i))), (0, .ref (ad 0)), (1, .int o), (2, .int m0), (3, .int k), (4, .int (nI i))]) hx hb dX7_unitDays_29 hl (by decide) rfl (fun ls hl => ?_)
        refine lv_aload hx hb dX7_unitDays_31 (lv_at hl 0 rfl) ?_
        refine pv_getN (ci := 8) (C := RX6) (T := TX6) (N := 7) hx hb hts hinX6 hown hK hP hu eu rfl 0 (by decide) hN (by decide +kernel : Cond.fieldLinkNest RX7 291 "StorageCharge$Unit" "owner" "I" "StorageCharge" ∈ nestW) (fun _ h9 => h9) rfl dX7_unitDays_33 ?_
        refine lv_iload_n hx hb dX7_unitDays_36 rfl (lv_at hl 2 rfl) ?_
        refine lv_icmp_ne (tgt := 56) hx hb dX7_unitDays_37 (by decide) (fun c_37 => ?_) (fun c_37 => ?_)
        · refine lv_iinc (v := nI (i + 1)) (lv' := [(4, .int (nI (i + 1))), (5, .ref (ad (1000 + 3 * i))), (0, .ref (ad 0)), (1, .int o), (2, .int m0), (3, .int k)]) hx hb dX7_unitDays_56 hl (k := 5) rfl (nI_1 i) (by decide) rfl (fun ls hl => ?_)
          refine lv_goto (tgt := 5) hx hb dX7_unitDays_59 (by decide) ?_
          exact ih5 (i + 1) k (by omega) (by omega) (by rw [sumO, if_neg c_37, ek]) ls (lv_sub hl [2, 3, 4, 5, 0] rfl)
        · refine lv_iload_n hx hb dX7_unitDays_40 rfl (lv_at hl 4 rfl) ?_
          refine lv_aload hx hb dX7_unitDays_41 (lv_at hl 0 rfl) ?_
          refine lv_iload_n hx hb dX7_unitDays_43 rfl (lv_at hl 3 rfl) ?_
          refine vp_callSi (va_Run.run (va_runS (As := [.int m0]) (rest := [.ref (ad (1000 + 3 * i)), .int k]) ⟨hx, hb, hml, hown, hts⟩ (c_X7_firstDayOf l m0) (va_cwS 1 hts gX7_unitDays_X7_firstDayOf rfl rfl rfl (by decide +kernel) ⟨Nat.le_of_ble_eq_true rfl, Nat.le_of_ble_eq_true rfl⟩) ⟨fun _ _ _ _ q => q, fun U hU hW => ⟨rfl, trivial⟩⟩ rfl rfl hl.1 rfl (lv_room (Nat.le_of_ble_eq_true rfl)) dX7_unitDays_44 ⟨Nat.zero_le _, Nat.zero_le _⟩)) (fun r_44 hr_44 => ?_)
          refine lv_iload_n hx hb dX7_unitDays_47 rfl (lv_at hl 3 rfl) ?_
          refine vp_callSi (va_Run.run (va_runS (As := [.int m0]) (rest := [.int r_44, .ref (ad (1000 + 3 * i)), .int k]) ⟨hx, hb, hml, hown, hts⟩ (c_X7_lastDayOf l m0) (va_cwS 1 hts gX7_unitDays_X7_lastDayOf rfl rfl rfl (by decide +kernel) ⟨Nat.le_of_ble_eq_true rfl, Nat.le_of_ble_eq_true rfl⟩) ⟨fun _ _ _ _ q => q, fun U hU hW => ⟨rfl, trivial⟩⟩ rfl rfl hl.1 rfl (lv_room (Nat.le_of_ble_eq_true rfl)) dX7_unitDays_48 ⟨Nat.zero_le _, Nat.zero_le _⟩)) (fun r_48 hr_48 => ?_)
          refine vp_callSi (va_Run.run (va_runV (As := [.int r_44, .int r_48]) (rest := [.int k]) ⟨hx, hb, hml, hown, hts⟩ (c_X6_daysThere l D y Ls ad G (1000 + 3 * i) (uo i) (nI (uf i)) (nI (ul i)) (ug i) (ut i) (uk i) (ud i) (hUs.2 i hlt).1 r_44 r_48) (cwV 2 hts gX7_unitDays_X6_daysThere rfl rfl rfl (by decide +kernel) ⟨Nat.le_of_ble_eq_true rfl, Nat.le_of_ble_eq_true rfl⟩) ⟨Wd_blind, Wd_recv hK hP (ci := 8) rfl hu eu, Wd_at hP hK hN⟩ rfl rfl hl.1 rfl (lv_room (Nat.le_of_ble_eq_true rfl)) dX7_unitDays_51 ⟨Nat.zero_le _, Nat.zero_le _⟩)) (fun r_51 hr_51 => ?_)
          refine lv_iadd hx hb dX7_unitDays_54 ?_
          refine lv_topi (fun x_55 ex_55 => ?_)
          refine lv_istore_n (lv' := [(3, .int x_55), (5, .ref (ad (1000 + 3 * i))), (0, .ref (ad 0)), (1, .int o), (2, .int m0), (4, .int (nI i))]) hx hb dX7_unitDays_55 rfl hl (by decide) rfl (fun ls hl => ?_)
          refine lv_iinc (v := nI (i + 1)) (lv' := [(4, .int (nI (i + 1))), (3, .int x_55), (5, .ref (ad (1000 + 3 * i))), (0, .ref (ad 0)), (1, .int o), (2, .int m0)]) hx hb dX7_unitDays_56 hl (k := 5) rfl (nI_1 i) (by decide) rfl (fun ls hl => ?_)
          refine lv_goto (tgt := 5) hx hb dX7_unitDays_59 (by decide) ?_
          exact ih5 (i + 1) x_55 (by omega) (by omega) (by rw [sumO, if_pos c_37, ex_55, ek, hr_51, hr_44, hr_48]; rfl) ls (lv_sub hl [3, 4, 5, 1, 0] rfl)
  have hl := lv_entry ([.ref (ad 0), .int o, .int m0]) (n := 6) (Nat.le_of_ble_eq_true rfl)
  rw [lg_entry_eq]
  generalize (lg_sl ([.ref (ad 0), .int o, .int m0]) ++ List.replicate (6 - (lg_sl ([.ref (ad 0), .int o, .int m0])).length) Slot.unset).toArray = ls at hl ⊢
  have hl : lv_has ls 6 [(0, .ref (ad 0)), (1, .int o), (2, .int m0)] := hl
  refine lv_iconst (v := 0) hx hb dX7_unitDays_0 (by decide) ?_
  refine lv_istore_n (lv' := [(3, .int 0), (0, .ref (ad 0)), (1, .int o), (2, .int m0)]) hx hb dX7_unitDays_1 rfl hl (by decide) rfl (fun ls hl => ?_)
  refine lv_iconst (v := 0) hx hb dX7_unitDays_2 (by decide) ?_
  refine lv_istore (lv' := [(4, .int 0), (3, .int 0), (0, .ref (ad 0)), (1, .int o), (2, .int m0)]) hx hb dX7_unitDays_3 hl (by decide) rfl (fun ls hl => ?_)
  exact loop5 (nu + 1) 0 0 (by omega) (by omega) rfl ls (lv_sub hl [2, 3, 4, 1, 0] rfl)

set_option maxHeartbeats 4000000 in
set_option maxRecDepth 100000 in
/-- storageOfUnit -/
theorem c_X7_storageOfUnit (l : Launch) (D : va_G) (y : Nat → ClassId) (Ls : List Nat) (ad : Nat → Nat) (G : Nat → va_E) (ch dr : Nat) (hX : XAt Ls ad G ch dr) (st ha mi dO dD dP : Nat → Int32) (nd : Nat) (li ow : Int32) (hC : ChargesAt y Ls ad G ch st ha mi dO dD dP nd li ow) (u : Nat) (ow0 ig : Int32) (f g told : Nat) (kf df : Nat → Int32) (hU : UnitAt y Ls ad G u ow0 (nI f) (nI g) ig told kf df) (hf : f < 3600) (hg : g < 3600) (by0 : Int32) (m0 : Nat) (hm : m0 < 120) : Met l yX7_storageOfUnit wsX7_storageOfUnit ({ frames := 3, cells := 0, slots := 0, locals := 65 }) (va_Pc [.ref (ad 0), .int by0, .ref (ad u), .int (nI m0)] (Wd D y (wl Ls ad G))) (vp_Si (fun r => r = stoU st by0 m0 f g told kf df)) 0 0 (fun _ => False) := by
  refine Met.ofW (cc := cX7_storageOfUnit) (maxL := 8) (ret := (some .int)) (by decide) rfl ?_
  intro p e s m args below meth c s₁ B hml hv
  obtain ⟨rfl, hP, hK, hN⟩ := hv
  have hx := B.exec
  have hb := B.bytes
  have hr := B.returns
  have hts := atoms_spec (ws := wsX7_storageOfUnit) B.pre
  have hown : s.vm.findClass RX7 = some m.cls := findClass_of_methodNamed B.named
  have hlocks := B.notSynchronized
  have hinX6 : ∀ w ∈ wsX60, w ∈ wsX7_storageOfUnit := by decide +kernel
  have hinX7 : ∀ w ∈ wsX70, w ∈ wsX7_storageOfUnit := by decide +kernel
  obtain ⟨⟨hc0, hc1, hc2, hc3, hc4, hc5, hc6⟩, ec0, ec1, ec2, ec3, ec4, ec5, ec6, hnd⟩ := id hC
  obtain ⟨hu, huk, hud, eu, euk, eud, h1, h9⟩ := id hU
  have loop33 : ∀ (n : Nat) (k : Nat) (x4 x5 cc x7 : Int32), k ≤ min (30 * m0 + 29) g + 1 - max (30 * m0) f → min (30 * m0 + 29) g + 1 - max (30 * m0) f < k + n → x5 = nI (min (30 * m0 + 29) g) → cc = sumD (fun d => tZ 40 st (5 * by0 + kOn kf df (nI d) (told - 1))) (max (30 * m0) f) k → x7 = nI (max (30 * m0) f + k) → ∀ ls : Array Slot, lv_has ls 8 [(0, .ref (ad 0)), (1, .int by0), (2, .ref (ad u)), (3, .int (nI m0)), (4, .int x4), (5, .int x5), (6, .int cc), (7, .int x7)] → W p l e (headSpec wsX7_storageOfUnit ({ frames := 3, cells := 0, slots := 0, locals := 65 })).room s m ([.ref (ad 0), .int by0, .ref (ad u), .int (nI m0)] : List Value).toArray below meth c s.heap [] 0 0 (MQ below (vp_Si (fun r => r = stoU st by0 m0 f g told kf df)) ([.ref (ad 0), .int by0, .ref (ad u), .int (nI m0)] : List Value).toArray s 0 0 (fun _ => False)) (F0 m 33 ls []) := by
    intro n
    induction n with
    | zero =>
      intro k x4 x5 cc x7 hi hn; exact absurd hn (by omega)
    | succ n ih33 =>
      intro k x4 x5 cc x7 hi hn e5 ec e7 ls hl
      refine lv_iload hx hb dX7_storageOfUnit_33 (lv_at hl 7 rfl) ?_
      refine lv_iload hx hb dX7_storageOfUnit_35 (lv_at hl 5 rfl) ?_
      refine lv_icmp_gt (tgt := 65) hx hb dX7_storageOfUnit_37 (by decide) (fun c_37 => ?_) (fun c_37 => ?_)
      · have hge : min (30 * m0 + 29) g + 1 - max (30 * m0) f = k := by
          have h8 : ¬ max (30 * m0) f + k ≤ min (30 * m0 + 29) g := fun h => absurd c_37 (by rw [e5, e7]; exact nI_nlt h (by omega))
          omega
        refine lv_iload hx hb dX7_storageOfUnit_65 (lv_at hl 6 rfl) ?_
        exact W.iret (v := cc) hx hb hr (fun t ht hW => ⟨cc, rfl, (by rw [ec, stoU, hge]), ht⟩) (fun q h => by cases h) dX7_storageOfUnit_67
      · have hlt : max (30 * m0) f + k ≤ min (30 * m0 + 29) g := Nat.le_of_not_lt fun h => c_37 (by rw [e5, e7]; exact nI_lt h (by omega))
        refine lv_iload hx hb dX7_storageOfUnit_40 (lv_at hl 6 rfl) ?_
        refine lv_aload_n hx hb dX7_storageOfUnit_42 rfl (lv_at hl 0 rfl) ?_
        refine pv_get (ci := 9) (C := RX7) (T := TX7) (N := 7) hx hb hts hinX7 hown hK hP hX.1 hX.2 rfl 1 (by decide) (hts (.fieldLink RX7 19 "StorageCharge" "charges" "LStorageCharge$Charges;") (by decide +kernel)) (fun _ h9 => h9) rfl dX7_storageOfUnit_43 ?_
        refine lv_iload_n hx hb dX7_storageOfUnit_46 rfl (lv_at hl 1 rfl) ?_
        refine lv_aload_n hx hb dX7_storageOfUnit_47 rfl (lv_at hl 2 rfl) ?_
        refine lv_iload hx hb dX7_storageOfUnit_48 (lv_at hl 7 rfl) ?_
        refine vp_callSi (va_Run.run (va_runV (As := [.int x7]) (rest := [.int by0, .ref (ad ch), .int cc]) ⟨hx, hb, hml, hown, hts⟩ (c_X6_kindOn l D y Ls ad G u ow0 (nI f) (nI g) ig told kf df hU x7) (cwV 1 hts gX7_storageOfUnit_X6_kindOn rfl rfl rfl (by decide +kernel) ⟨Nat.le_of_ble_eq_true rfl, Nat.le_of_ble_eq_true rfl⟩) ⟨Wd_blind, Wd_recv hK hP (ci := 8) rfl hu eu, Wd_at hP hK hN⟩ rfl rfl hl.1 rfl (lv_room (Nat.le_of_ble_eq_true rfl)) dX7_storageOfUnit_50 ⟨Nat.zero_le _, Nat.zero_le _⟩)) (fun r_50 hr_50 => ?_)
        refine vp_callSi (va_Run.run (va_runV (As := [.int by0, .int r_50]) (rest := [.int cc]) ⟨hx, hb, hml, hown, hts⟩ (c_X2_storageCents l D y Ls ad G ch st ha mi dO dD dP nd li ow hC by0 r_50) (cwV 2 hts gX7_storageOfUnit_X2_storageCents rfl rfl rfl (by decide +kernel) ⟨Nat.le_of_ble_eq_true rfl, Nat.le_of_ble_eq_true rfl⟩) ⟨Wd_blind, Wd_recv hK hP (ci := 4) rfl hc0 ec0, Wd_at hP hK hN⟩ rfl rfl hl.1 rfl (lv_room (Nat.le_of_ble_eq_true rfl)) dX7_storageOfUnit_53 ⟨Nat.zero_le _, Nat.zero_le _⟩)) (fun r_53 hr_53 => ?_)
        refine lv_iadd hx hb dX7_storageOfUnit_56 ?_
        refine lv_topi (fun c8 ec8 => ?_)
        refine lv_istore (lv' := [(6, .int c8), (0, .ref (ad 0)), (1, .int by0), (2, .ref (ad u)), (3, .int (nI m0)), (4, .int x4), (5, .int x5), (7, .int x7)]) hx hb dX7_storageOfUnit_57 hl (by decide) rfl (fun ls hl => ?_)
        obtain ⟨x8, ex8⟩ : ∃ y9 : Int32, y9 = x7 + 1 := ⟨_, rfl⟩
        refine lv_iinc (v := x8) (lv' := [(7, .int x8), (6, .int c8), (0, .ref (ad 0)), (1, .int by0), (2, .ref (ad u)), (3, .int (nI m0)), (4, .int x4), (5, .int x5)]) hx hb dX7_storageOfUnit_59 hl (k := 7) rfl (by rw [ex8]; rfl) (by decide) rfl (fun ls hl => ?_)
        refine lv_goto (tgt := 33) hx hb dX7_storageOfUnit_62 (by decide) ?_
        exact ih33 (k + 1) x4 x5 c8 x8 (by omega) (by omega) e5 (by rw [sumD, ec8, ec, hr_53, hr_50, e7]) (by rw [ex8, e7]; exact nI_1 _) ls (lv_sub hl [2, 3, 4, 5, 6, 7, 1, 0] rfl)
  have hl := lv_entry ([.ref (ad 0), .int by0, .ref (ad u), .int (nI m0)]) (n := 8) (Nat.le_of_ble_eq_true rfl)
  rw [lg_entry_eq]
  generalize (lg_sl ([.ref (ad 0), .int by0, .ref (ad u), .int (nI m0)]) ++ List.replicate (8 - (lg_sl ([.ref (ad 0), .int by0, .ref (ad u), .int (nI m0)])).length) Slot.unset).toArray = ls at hl ⊢
  have hl : lv_has ls 8 [(0, .ref (ad 0)), (1, .int by0), (2, .ref (ad u)), (3, .int (nI m0))] := hl
  refine lv_iload_n hx hb dX7_storageOfUnit_0 rfl (lv_at hl 3 rfl) ?_
  refine vp_callSi (va_Run.run (va_runS (As := [.int (nI m0)]) (rest := []) ⟨hx, hb, hml, hown, hts⟩ (c_X7_firstDayOf l (nI m0)) (va_cwS 1 hts gX7_storageOfUnit_X7_firstDayOf rfl rfl rfl (by decide +kernel) ⟨Nat.le_of_ble_eq_true rfl, Nat.le_of_ble_eq_true rfl⟩) ⟨fun _ _ _ _ q => q, fun U hU hW => ⟨rfl, trivial⟩⟩ rfl rfl hl.1 rfl (lv_room (Nat.le_of_ble_eq_true rfl)) dX7_storageOfUnit_1 ⟨Nat.zero_le _, Nat.zero_le _⟩)) (fun r_1 hr_1 => ?_)
  refine lv_aload_n hx hb dX7_storageOfUnit_4 rfl (lv_at hl 2 rfl) ?_
  refine pv_getN (ci := 8) (C := RX6) (T := TX6) (N := 7) hx hb hts hinX6 hown hK hP hu eu rfl 1 (by decide) hN (by decide +kernel : Cond.fieldLinkNest RX7 302 "StorageCharge$Unit" "firstDay" "I" "StorageCharge" ∈ nestW) (fun _ h9 => h9) rfl dX7_storageOfUnit_5 ?_
  refine va_mmax hx hb (hml.trans hl.1.symm) hown (hts (.methodLink RX7 286 Lib.Math.max.name) (by decide +kernel)) (hts (.static Lib.Math.max.name) (by decide +kernel)) (hts (.initialized "java/lang/Math") (by decide +kernel)) (hts (.code Lib.Math.max.name Lib.Math.max.code 2 (some .int)) (by decide +kernel)) (Nat.le_of_ble_eq_true rfl) (Nat.le_of_ble_eq_true rfl) (Nat.zero_le _) (Nat.zero_le _) dX7_storageOfUnit_8 ?_
  refine lv_topi (fun x_11 ex_11 => ?_)
  refine lv_istore (lv' := [(4, .int x_11), (0, .ref (ad 0)), (1, .int by0), (2, .ref (ad u)), (3, .int (nI m0))]) hx hb dX7_storageOfUnit_11 hl (by decide) rfl (fun ls hl => ?_)
  refine lv_iload_n hx hb dX7_storageOfUnit_13 rfl (lv_at hl 4 rfl) ?_
  refine vp_callSi (va_Run.run (va_runS (As := [.int (nI m0)]) (rest := []) ⟨hx, hb, hml, hown, hts⟩ (c_X7_lastDayOf l (nI m0)) (va_cwS 1 hts gX7_storageOfUnit_X7_lastDayOf rfl rfl rfl (by decide +kernel) ⟨Nat.le_of_ble_eq_true rfl, Nat.le_of_ble_eq_true rfl⟩) ⟨fun _ _ _ _ q => q, fun U hU hW => ⟨rfl, trivial⟩⟩ rfl rfl hl.1 rfl (lv_room (Nat.le_of_ble_eq_true rfl)) dX7_storageOfUnit_14 ⟨Nat.zero_le _, Nat.zero_le _⟩)) (fun r_14 hr_14 => ?_)
  refine lv_aload_n hx hb dX7_storageOfUnit_17 rfl (lv_at hl 3 rfl) ?_
  refine pv_getN (ci := 8) (C := RX6) (T := TX6) (N := 7) hx hb hts hinX6 hown hK hP hu eu rfl 2 (by decide) hN (by decide +kernel : Cond.fieldLinkNest RX7 308 "StorageCharge$Unit" "lastDay" "I" "StorageCharge" ∈ nestW) (fun _ h9 => h9) rfl dX7_storageOfUnit_18 ?_
  refine va_mmin hx hb (hml.trans hl.1.symm) hown (hts (.methodLink RX7 311 Lib.Math.min.name) (by decide +kernel)) (hts (.static Lib.Math.min.name) (by decide +kernel)) (hts (.initialized "java/lang/Math") (by decide +kernel)) (hts (.code Lib.Math.min.name Lib.Math.min.code 2 (some .int)) (by decide +kernel)) (Nat.le_of_ble_eq_true rfl) (Nat.le_of_ble_eq_true rfl) (Nat.zero_le _) (Nat.zero_le _) dX7_storageOfUnit_21 ?_
  refine lv_topi (fun x_24 ex_24 => ?_)
  refine lv_istore (lv' := [(5, .int x_24), (4, .int x_11), (0, .ref (ad 0)), (1, .int by0), (2, .ref (ad u)), (3, .int (nI m0))]) hx hb dX7_storageOfUnit_24 hl (by decide) rfl (fun ls hl => ?_)
  refine lv_iconst (v := 0) hx hb dX7_storageOfUnit_26 (by decide) ?_
  refine lv_istore (lv' := [(6, .int 0), (5, .int x_24), (4, .int x_11), (0, .ref (ad 0)), (1, .int by0), (2, .ref (ad u)), (3, .int (nI m0))]) hx hb dX7_storageOfUnit_27 hl (by decide) rfl (fun ls hl => ?_)
  refine lv_iload hx hb dX7_storageOfUnit_29 (lv_at hl 2 rfl) ?_
  refine lv_istore (lv' := [(7, .int x_11), (6, .int 0), (5, .int x_24), (4, .int x_11), (0, .ref (ad 0)), (1, .int by0), (2, .ref (ad u)), (3, .int (nI m0))]) hx hb dX7_storageOfUnit_31 hl (by decide) rfl (fun ls hl => ?_)
  exact loop33 (min (30 * m0 + 29) g + 2) 0 x_11 x_24 0 x_11 (by omega) (by omega) (by rw [ex_24, hr_14, day2]; exact mn_nI (by omega) (by omega)) rfl (by rw [ex_11, hr_1, day1]; exact mx_nI (by omega) (by omega)) ls (lv_sub hl [4, 5, 6, 7, 3, 2, 1, 0] rfl)

def stoA (st dO dD dP : Nat → Int32) (nd nu : Nat) (uo : Nat → Int32) (uf ul ut : Nat → Nat) (uk ud : Nat → Nat → Int32) (by0 o : Int32) (m0 : Nat) : Int32 := sumO uo o (fun q => stoU st by0 m0 (uf q) (ul q) (ut q) (uk q) (ud q)) nu - sumO uo o (fun q => stoU st by0 m0 (uf q) (ul q) (ut q) (uk q) (ud q)) nu * (pF dO dD dP by0 (sumO uo o (fun q => dTh (nI m0) (uf q) (ul q)) nu) nd).2 / 100

set_option maxHeartbeats 4000000 in
set_option maxRecDepth 100000 in
/-- storageBy -/
theorem c_X7_storageBy (l : Launch) (D : va_G) (y : Nat → ClassId) (Ls : List Nat) (ad : Nat → Nat) (G : Nat → va_E) (ch dr : Nat) (hX : XAt Ls ad G ch dr) (st ha mi dO dD dP : Nat → Int32) (nd : Nat) (li ow : Int32) (hC : ChargesAt y Ls ad G ch st ha mi dO dD dP nd li ow) (nu : Nat) (uo : Nat → Int32) (uf ul : Nat → Nat) (ug : Nat → Int32) (ut : Nat → Nat) (uk ud : Nat → Nat → Int32) (hUs : UnitsAt y Ls ad G nu uo uf ul ug ut uk ud) (by0 o : Int32) (m0 : Nat) (hm : m0 < 120) : Met l yX7_storageBy wsX7_storageBy ({ frames := 4, cells := 0, slots := 0, locals := 92 }) (va_Pc [.ref (ad 0), .int by0, .int o, .int (nI m0)] (Wd D y (wl Ls ad G))) (vp_Si (fun r => r = stoA st dO dD dP nd nu uo uf ul ut uk ud by0 o m0)) 0 0 (fun _ => False) := by
  refine Met.ofW (cc := cX7_storageBy) (maxL := 7) (ret := (some .int)) (by decide) rfl ?_
  intro p e s m args below meth c s₁ B hml hv
  obtain ⟨rfl, hP, hK, hN⟩ := hv
  have hx := B.exec
  have hb := B.bytes
  have hr := B.returns
  have hts := atoms_spec (ws := wsX7_storageBy) B.pre
  have hown : s.vm.findClass RX7 = some m.cls := findClass_of_methodNamed B.named
  have hlocks := B.notSynchronized
  have hinX6 : ∀ w ∈ wsX60, w ∈ wsX7_storageBy := by decide +kernel
  have hinX7 : ∀ w ∈ wsX70, w ∈ wsX7_storageBy := by decide +kernel
  obtain ⟨⟨hc0, hc1, hc2, hc3, hc4, hc5, hc6⟩, ec0, ec1, ec2, ec3, ec4, ec5, ec6, hnd⟩ := id hC
  obtain ⟨mc3, ea3, hj3, ej3, hn3, -⟩ := id hUs.1
  have loop6 : ∀ (n : Nat) (i : Nat) (k : Int32), i ≤ nu → nu < i + n → k = sumO uo o (fun q => stoU st by0 m0 (uf q) (ul q) (ut q) (uk q) (ud q)) i → ∀ ls : Array Slot, lv_has ls 7 [(0, .ref (ad 0)), (1, .int by0), (2, .int o), (3, .int (nI m0)), (4, .int k), (5, .int (nI i))] → W p l e (headSpec wsX7_storageBy ({ frames := 4, cells := 0, slots := 0, locals := 92 })).room s m ([.ref (ad 0), .int by0, .int o, .int (nI m0)] : List Value).toArray below meth c s.heap [] 0 0 (MQ below (vp_Si (fun r => r = stoA st dO dD dP nd nu uo uf ul ut uk ud by0 o m0)) ([.ref (ad 0), .int by0, .int o, .int (nI m0)] : List Value).toArray s 0 0 (fun _ => False)) (F0 m 6 ls []) := by
    intro n
    induction n with
    | zero =>
      intro i k hi hn; exact absurd hn (by omega)
    | succ n ih6 =>
      intro i k hi hn ek ls hl
      refine lv_iload hx hb dX7_storageBy_6 (lv_at hl 5 rfl) ?_
      refine lv_aload_n hx hb dX7_storageBy_8 rfl (lv_at hl 0 rfl) ?_
      refine pv_get (ci := 9) (C := RX7) (T := TX7) (N := 7) hx hb hts hinX7 hown hK hP hX.1 hX.2 rfl 3 (by decide) (hts (.fieldLink RX7 29 "StorageCharge" "units" "Ljava/util/ArrayList;") (by decide +kernel)) (fun _ h9 => h9) rfl dX7_storageBy_9 ?_
      refine vp_callSi (va_Run.run (va_runV (As := []) (rest := [.int (nI i)]) ⟨hx, hb, hml, hown, hts⟩ (c_Jx4a65c_size_8abf5 l D y Ls ad G 3 nu (fun i => ad (1000 + 3 * i)) hUs.1) (cwV 0 hts gX7_storageBy_Jx4a65c_size_8abf5 rfl rfl rfl (by decide +kernel) ⟨Nat.le_of_ble_eq_true rfl, Nat.le_of_ble_eq_true rfl⟩) ⟨Wd_blind, Wd_recv hK hP (ci := 1) rfl hj3 ej3, Wd_at hP hK hN⟩ rfl rfl hl.1 rfl (lv_room (Nat.le_of_ble_eq_true rfl)) dX7_storageBy_12 ⟨Nat.zero_le _, Nat.zero_le _⟩)) (fun r_12 hr_12 => ?_)
      refine lv_icmp_ge (tgt := 60) hx hb dX7_storageBy_15 (by decide) (fun c_15 => ?_) (fun c_15 => ?_)
      · have hge : nu = i := by
          have h8 := Nat.le_of_not_lt (fun h : i < nu => absurd (by rw [← hr_12]; exact c_15) (nI_ge h (by omega)))
          omega
        refine lv_aload_n hx hb dX7_storageBy_60 rfl (lv_at hl 0 rfl) ?_
        refine pv_get (ci := 9) (C := RX7) (T := TX7) (N := 7) hx hb hts hinX7 hown hK hP hX.1 hX.2 rfl 1 (by decide) (hts (.fieldLink RX7 19 "StorageCharge" "charges" "LStorageCharge$Charges;") (by decide +kernel)) (fun _ h9 => h9) rfl dX7_storageBy_61 ?_
        refine lv_iload_n hx hb dX7_storageBy_64 rfl (lv_at hl 1 rfl) ?_
        refine lv_aload_n hx hb dX7_storageBy_65 rfl (lv_at hl 0 rfl) ?_
        refine lv_iload_n hx hb dX7_storageBy_66 rfl (lv_at hl 2 rfl) ?_
        refine lv_iload_n hx hb dX7_storageBy_67 rfl (lv_at hl 3 rfl) ?_
        refine vp_callSi (va_Run.run (va_runV (As := [.int o, .int (nI m0)]) (rest := [.int by0, .ref (ad ch)]) ⟨hx, hb, hml, hown, hts⟩ (c_X7_unitDays l D y Ls ad G ch dr hX nu uo uf ul ug ut uk ud hUs o (nI m0)) (cwV 2 hts gX7_storageBy_X7_unitDays rfl rfl rfl (by decide +kernel) ⟨Nat.le_of_ble_eq_true rfl, Nat.le_of_ble_eq_true rfl⟩) ⟨Wd_blind, Wd_recv hK hP (ci := 9) rfl hX.1 hX.2, Wd_at hP hK hN⟩ rfl rfl hl.1 rfl (lv_room (Nat.le_of_ble_eq_true rfl)) dX7_storageBy_68 ⟨Nat.zero_le _, Nat.zero_le _⟩)) (fun r_68 hr_68 => ?_)
        refine vp_callSi (va_Run.run (va_runV (As := [.int by0, .int r_68]) (rest := []) ⟨hx, hb, hml, hown, hts⟩ (c_X2_percentFor l D y Ls ad G ch st ha mi dO dD dP nd li ow hC by0 r_68) (cwV 2 hts gX7_storageBy_X2_percentFor rfl rfl rfl (by decide +kernel) ⟨Nat.le_of_ble_eq_true rfl, Nat.le_of_ble_eq_true rfl⟩) ⟨Wd_blind, Wd_recv hK hP (ci := 4) rfl hc0 ec0, Wd_at hP hK hN⟩ rfl rfl hl.1 rfl (lv_room (Nat.le_of_ble_eq_true rfl)) dX7_storageBy_71 ⟨Nat.zero_le _, Nat.zero_le _⟩)) (fun r_71 hr_71 => ?_)
        refine lv_istore (lv' := [(5, .int r_71), (0, .ref (ad 0)), (1, .int by0), (2, .int o), (3, .int (nI m0)), (4, .int k)]) hx hb dX7_storageBy_74 hl (by decide) rfl (fun ls hl => ?_)
        refine lv_iload hx hb dX7_storageBy_76 (lv_at hl 5 rfl) ?_
        refine lv_iload hx hb dX7_storageBy_78 (lv_at hl 5 rfl) ?_
        refine lv_iload hx hb dX7_storageBy_80 (lv_at hl 0 rfl) ?_
        refine lv_imul hx hb dX7_storageBy_82 ?_
        refine lv_bipush (v := 100) hx hb dX7_storageBy_83 (by decide) ?_
        refine lv_idiv hx hb dX7_storageBy_85 (by decide) ?_
        refine lv_isub hx hb dX7_storageBy_86 ?_
        exact W.iret (v := (k - ((k * r_71) / 100))) hx hb hr (fun t ht hW => ⟨(k - ((k * r_71) / 100)), rfl, (by rw [hr_71, hr_68, ek, hge]; rfl), ht⟩) (fun q h => by cases h) dX7_storageBy_87
      · have hlt : i < nu := Nat.lt_of_not_le fun h => c_15 (by rw [hr_12]; exact nI_le h (by omega))
        obtain ⟨hu, huk, hud, eu, euk, eud, h1, h9⟩ := (hUs.2 i hlt).1
        refine lv_aload_n hx hb dX7_storageBy_18 rfl (lv_at hl 0 rfl) ?_
        refine pv_get (ci := 9) (C := RX7) (T := TX7) (N := 7) hx hb hts hinX7 hown hK hP hX.1 hX.2 rfl 3 (by decide) (hts (.fieldLink RX7 29 "StorageCharge" "units" "Ljava/util/ArrayList;") (by decide +kernel)) (fun _ h9 => h9) rfl dX7_storageBy_19 ?_
        refine lv_iload hx hb dX7_storageBy_22 (lv_at hl 5 rfl) ?_
        refine va_csr (va_Run.run (va_runV (As := [.int (nI i)]) (rest := []) ⟨hx, hb, hml, hown, hts⟩ (c_Jx4a65c_get_915e3 l D y Ls ad G 3 nu (fun i => ad (1000 + 3 * i)) hUs.1 i hlt) (cwV 1 hts gX7_storageBy_Jx4a65c_get_915e3 rfl rfl rfl (by decide +kernel) ⟨Nat.le_of_ble_eq_true rfl, Nat.le_of_ble_eq_true rfl⟩) ⟨Wd_blind, Wd_recv hK hP (ci := 1) rfl hj3 ej3, Wd_at hP hK hN⟩ rfl rfl hl.1 rfl (lv_room (Nat.le_of_ble_eq_true rfl)) dX7_storageBy_24 ⟨Nat.zero_le _, Nat.zero_le _⟩)) (fun r_24 hr_24 => ?_)
        subst hr_24
        refine va_castS hx hb hown (hts (.classLink RX7 100 "StorageCharge$Unit") (by decide +kernel)) (hK.1 8 _ rfl).2 (Wd_recv hK hP (ci := 8) rfl hu eu) dX7_storageBy_27 ?_
        refine lv_astore (lv' := [(6, .ref (ad (1000 + 3 * i))), (0, .ref (ad 0)), (1, .int by0), (2, .int o), (3, .int (nI m0)), (4, .int k), (5, .int (nI i))]) hx hb dX7_storageBy_30 hl (by decide) rfl (fun ls hl => ?_)
        refine lv_aload hx hb dX7_storageBy_32 (lv_at hl 0 rfl) ?_
        refine pv_getN (ci := 8) (C := RX6) (T := TX6) (N := 7) hx hb hts hinX6 hown hK hP hu eu rfl 0 (by decide) hN (by decide +kernel : Cond.fieldLinkNest RX7 291 "StorageCharge$Unit" "owner" "I" "StorageCharge" ∈ nestW) (fun _ h9 => h9) rfl dX7_storageBy_34 ?_
        refine lv_iload_n hx hb dX7_storageBy_37 rfl (lv_at hl 3 rfl) ?_
        refine lv_icmp_ne (tgt := 54) hx hb dX7_storageBy_38 (by decide) (fun c_38 => ?_) (fun c_38 => ?_)
        · refine lv_iinc (v := nI (i + 1)) (lv' := [(5, .int (nI (i + 1))), (6, .ref (ad (1000 + 3 * i))), (0, .ref (ad 0)), (1, .int by0), (2, .int o), (3, .int (nI m0)), (4, .int k)]) hx hb dX7_storageBy_54 hl (k := 6) rfl (nI_1 i) (by decide) rfl (fun ls hl => ?_)
          refine lv_goto (tgt := 6) hx hb dX7_storageBy_57 (by decide) ?_
          exact ih6 (i + 1) k (by omega) (by omega) (by rw [sumO, if_neg c_38, ek]) ls (lv_sub hl [2, 3, 4, 5, 6, 0] rfl)
        · refine lv_iload hx hb dX7_storageBy_41 (lv_at hl 5 rfl) ?_
          refine lv_aload_n hx hb dX7_storageBy_43 rfl (lv_at hl 1 rfl) ?_
          refine lv_iload_n hx hb dX7_storageBy_44 rfl (lv_at hl 2 rfl) ?_
          refine lv_aload hx hb dX7_storageBy_45 (lv_at hl 0 rfl) ?_
          refine lv_iload_n hx hb dX7_storageBy_47 rfl (lv_at hl 4 rfl) ?_
          refine vp_callSi (va_Run.run (va_runV (As := [.int by0, .ref (ad (1000 + 3 * i)), .int (nI m0)]) (rest := [.int k]) ⟨hx, hb, hml, hown, hts⟩ (c_X7_storageOfUnit l D y Ls ad G ch dr hX st ha mi dO dD dP nd li ow hC (1000 + 3 * i) (uo i) (ug i) (uf i) (ul i) (ut i) (uk i) (ud i) (hUs.2 i hlt).1 (hUs.2 i hlt).2.1 (hUs.2 i hlt).2.2 by0 m0 hm) (cwV 3 hts gX7_storageBy_X7_storageOfUnit rfl rfl rfl (by decide +kernel) ⟨Nat.le_of_ble_eq_true rfl, Nat.le_of_ble_eq_true rfl⟩) ⟨Wd_blind, Wd_recv hK hP (ci := 9) rfl hX.1 hX.2, Wd_at hP hK hN⟩ rfl rfl hl.1 rfl (lv_room (Nat.le_of_ble_eq_true rfl)) dX7_storageBy_48 ⟨Nat.zero_le _, Nat.zero_le _⟩)) (fun r_48 hr_48 => ?_)
          refine lv_iadd hx hb dX7_storageBy_51 ?_
          refine lv_topi (fun x_52 ex_52 => ?_)
          refine lv_istore (lv' := [(4, .int x_52), (6, .ref (ad (1000 + 3 * i))), (0, .ref (ad 0)), (1, .int by0), (2, .int o), (3, .int (nI m0)), (5, .int (nI i))]) hx hb dX7_storageBy_52 hl (by decide) rfl (fun ls hl => ?_)
          refine lv_iinc (v := nI (i + 1)) (lv' := [(5, .int (nI (i + 1))), (4, .int x_52), (6, .ref (ad (1000 + 3 * i))), (0, .ref (ad 0)), (1, .int by0), (2, .int o), (3, .int (nI m0))]) hx hb dX7_storageBy_54 hl (k := 6) rfl (nI_1 i) (by decide) rfl (fun ls hl => ?_)
          refine lv_goto (tgt := 6) hx hb dX7_storageBy_57 (by decide) ?_
          exact ih6 (i + 1) x_52 (by omega) (by omega) (by rw [sumO, if_pos c_38, ex_52, ek, hr_48]) ls (lv_sub hl [3, 4, 5, 6, 1, 0] rfl)
  have hl := lv_entry ([.ref (ad 0), .int by0, .int o, .int (nI m0)]) (n := 7) (Nat.le_of_ble_eq_true rfl)
  rw [lg_entry_eq]
  generalize (lg_sl ([.ref (ad 0), .int by0, .int o, .int (nI m0)]) ++ List.replicate (7 - (lg_sl ([.ref (ad 0), .int by0, .int o, .int (nI m0)])).length) Slot.unset).toArray = ls at hl ⊢
  have hl : lv_has ls 7 [(0, .ref (ad 0)), (1, .int by0), (2, .int o), (3, .int (nI m0))] := hl
  refine lv_iconst (v := 0) hx hb dX7_storageBy_0 (by decide) ?_
  refine lv_istore (lv' := [(4, .int 0), (0, .ref (ad 0)), (1, .int by0), (2, .int o), (3, .int (nI m0))]) hx hb dX7_storageBy_1 hl (by decide) rfl (fun ls hl => ?_)
  refine lv_iconst (v := 0) hx hb dX7_storageBy_3 (by decide) ?_
  refine lv_istore (lv' := [(5, .int 0), (4, .int 0), (0, .ref (ad 0)), (1, .int by0), (2, .int o), (3, .int (nI m0))]) hx hb dX7_storageBy_4 hl (by decide) rfl (fun ls hl => ?_)
  exact loop6 (nu + 1) 0 0 (by omega) (by omega) rfl ls (lv_sub hl [2, 3, 4, 5, 1, 0] rfl)

set_option maxHeartbeats 4000000 in
set_option maxRecDepth 100000 in
/-- handlingBy -/
theorem c_X7_handlingBy (l : Launch) (D : va_G) (y : Nat → ClassId) (Ls : List Nat) (ad : Nat → Nat) (G : Nat → va_E) (ch dr : Nat) (hX : XAt Ls ad G ch dr) (st ha mi dO dD dP : Nat → Int32) (nd : Nat) (li ow : Int32) (hC : ChargesAt y Ls ad G ch st ha mi dO dD dP nd li ow) (nm : Nat) (mo mk md mp : Nat → Int32) (hMs : MovesAt y Ls ad G nm mo mk md mp) (by0 o : Int32) (m0 : Nat) (hm : m0 < 120) : Met l yX7_handlingBy wsX7_handlingBy ({ frames := 3, cells := 0, slots := 0, locals := 65 }) (va_Pc [.ref (ad 0), .int by0, .int o, .int (nI m0)] (Wd D y (wl Ls ad G))) (vp_Si (fun r => r = sumO mo o (fun q => hanM ha by0 (nI m0) (mk q) (md q) (mp q)) nm)) 0 0 (fun _ => False) := by
  refine Met.ofW (cc := cX7_handlingBy) (maxL := 7) (ret := (some .int)) (by decide) rfl ?_
  intro p e s m args below meth c s₁ B hml hv
  obtain ⟨rfl, hP, hK, hN⟩ := hv
  have hx := B.exec
  have hb := B.bytes
  have hr := B.returns
  have hts := atoms_spec (ws := wsX7_handlingBy) B.pre
  have hown : s.vm.findClass RX7 = some m.cls := findClass_of_methodNamed B.named
  have hlocks := B.notSynchronized
  have hinX3 : ∀ w ∈ wsX30, w ∈ wsX7_handlingBy := by decide +kernel
  have hinX7 : ∀ w ∈ wsX70, w ∈ wsX7_handlingBy := by decide +kernel
  obtain ⟨⟨hc0, hc1, hc2, hc3, hc4, hc5, hc6⟩, ec0, ec1, ec2, ec3, ec4, ec5, ec6, hnd⟩ := id hC
  obtain ⟨mc5, ea5, hj5, ej5, hn5, -⟩ := id hMs.1
  have loop6 : ∀ (n : Nat) (i : Nat) (k : Int32), i ≤ nm → nm < i + n → k = sumO mo o (fun q => hanM ha by0 (nI m0) (mk q) (md q) (mp q)) i → ∀ ls : Array Slot, lv_has ls 7 [(0, .ref (ad 0)), (1, .int by0), (2, .int o), (3, .int (nI m0)), (4, .int k), (5, .int (nI i))] → W p l e (headSpec wsX7_handlingBy ({ frames := 3, cells := 0, slots := 0, locals := 65 })).room s m ([.ref (ad 0), .int by0, .int o, .int (nI m0)] : List Value).toArray below meth c s.heap [] 0 0 (MQ below (vp_Si (fun r => r = sumO mo o (fun q => hanM ha by0 (nI m0) (mk q) (md q) (mp q)) nm)) ([.ref (ad 0), .int by0, .int o, .int (nI m0)] : List Value).toArray s 0 0 (fun _ => False)) (F0 m 6 ls []) := by
    intro n
    induction n with
    | zero =>
      intro i k hi hn; exact absurd hn (by omega)
    | succ n ih6 =>
      intro i k hi hn ek ls hl
      refine lv_iload hx hb dX7_handlingBy_6 (lv_at hl 5 rfl) ?_
      refine lv_aload_n hx hb dX7_handlingBy_8 rfl (lv_at hl 0 rfl) ?_
      refine pv_get (ci := 9) (C := RX7) (T := TX7) (N := 7) hx hb hts hinX7 hown hK hP hX.1 hX.2 rfl 4 (by decide) (hts (.fieldLink RX7 33 "StorageCharge" "moves" "Ljava/util/ArrayList;") (by decide +kernel)) (fun _ h9 => h9) rfl dX7_handlingBy_9 ?_
      refine vp_callSi (va_Run.run (va_runV (As := []) (rest := [.int (nI i)]) ⟨hx, hb, hml, hown, hts⟩ (c_Jx4a65c_size_8abf5 l D y Ls ad G 5 nm (fun i => ad (2000 + i)) hMs.1) (cwV 0 hts gX7_handlingBy_Jx4a65c_size_8abf5 rfl rfl rfl (by decide +kernel) ⟨Nat.le_of_ble_eq_true rfl, Nat.le_of_ble_eq_true rfl⟩) ⟨Wd_blind, Wd_recv hK hP (ci := 1) rfl hj5 ej5, Wd_at hP hK hN⟩ rfl rfl hl.1 rfl (lv_room (Nat.le_of_ble_eq_true rfl)) dX7_handlingBy_12 ⟨Nat.zero_le _, Nat.zero_le _⟩)) (fun r_12 hr_12 => ?_)
      refine lv_icmp_ge (tgt := 90) hx hb dX7_handlingBy_15 (by decide) (fun c_15 => ?_) (fun c_15 => ?_)
      · have hge : nm = i := by
          have h8 := Nat.le_of_not_lt (fun h : i < nm => absurd (by rw [← hr_12]; exact c_15) (nI_ge h (by omega)))
          omega
        refine lv_iload hx hb dX7_handlingBy_90 (lv_at hl 4 rfl) ?_
        exact W.iret (v := k) hx hb hr (fun t ht hW => ⟨k, rfl, (by rw [ek, hge]), ht⟩) (fun q h => by cases h) dX7_handlingBy_92
      · have hlt : i < nm := Nat.lt_of_not_le fun h => c_15 (by rw [hr_12]; exact nI_le h (by omega))
        refine lv_aload_n hx hb dX7_handlingBy_18 rfl (lv_at hl 0 rfl) ?_
        refine pv_get (ci := 9) (C := RX7) (T := TX7) (N := 7) hx hb hts hinX7 hown hK hP hX.1 hX.2 rfl 4 (by decide) (hts (.fieldLink RX7 33 "StorageCharge" "moves" "Ljava/util/ArrayList;") (by decide +kernel)) (fun _ h9 => h9) rfl dX7_handlingBy_19 ?_
        refine lv_iload hx hb dX7_handlingBy_22 (lv_at hl 5 rfl) ?_
        refine va_csr (va_Run.run (va_runV (As := [.int (nI i)]) (rest := []) ⟨hx, hb, hml, hown, hts⟩ (c_Jx4a65c_get_915e3 l D y Ls ad G 5 nm (fun i => ad (2000 + i)) hMs.1 i hlt) (cwV 1 hts gX7_handlingBy_Jx4a65c_get_915e3 rfl rfl rfl (by decide +kernel) ⟨Nat.le_of_ble_eq_true rfl, Nat.le_of_ble_eq_true rfl⟩) ⟨Wd_blind, Wd_recv hK hP (ci := 1) rfl hj5 ej5, Wd_at hP hK hN⟩ rfl rfl hl.1 rfl (lv_room (Nat.le_of_ble_eq_true rfl)) dX7_handlingBy_24 ⟨Nat.zero_le _, Nat.zero_le _⟩)) (fun r_24 hr_24 => ?_)
        subst hr_24
        refine va_castS hx hb hown (hts (.classLink RX7 140 "StorageCharge$Move") (by decide +kernel)) (hK.1 5 _ rfl).2 (Wd_recv hK hP (ci := 5) rfl (hMs.2 i hlt).1 (hMs.2 i hlt).2) dX7_handlingBy_27 ?_
        refine lv_astore (lv' := [(6, .ref (ad (2000 + i))), (0, .ref (ad 0)), (1, .int by0), (2, .int o), (3, .int (nI m0)), (4, .int k), (5, .int (nI i))]) hx hb dX7_handlingBy_30 hl (by decide) rfl (fun ls hl => ?_)
        refine lv_aload hx hb dX7_handlingBy_32 (lv_at hl 0 rfl) ?_
        refine pv_getN (ci := 5) (C := RX3) (T := TX3) (N := 4) hx hb hts hinX3 hown hK hP (hMs.2 i hlt).1 (hMs.2 i hlt).2 rfl 0 (by decide) hN (by decide +kernel : Cond.fieldLinkNest RX7 279 "StorageCharge$Move" "owner" "I" "StorageCharge" ∈ nestW) (fun _ h9 => h9) rfl dX7_handlingBy_34 ?_
        refine lv_iload_n hx hb dX7_handlingBy_37 rfl (lv_at hl 3 rfl) ?_
        refine lv_icmp_ne (tgt := 84) hx hb dX7_handlingBy_38 (by decide) (fun c_38 => ?_) (fun c_38 => ?_)
        · refine lv_iinc (v := nI (i + 1)) (lv' := [(5, .int (nI (i + 1))), (6, .ref (ad (2000 + i))), (0, .ref (ad 0)), (1, .int by0), (2, .int o), (3, .int (nI m0)), (4, .int k)]) hx hb dX7_handlingBy_84 hl (k := 6) rfl (nI_1 i) (by decide) rfl (fun ls hl => ?_)
          refine lv_goto (tgt := 6) hx hb dX7_handlingBy_87 (by decide) ?_
          exact ih6 (i + 1) k (by omega) (by omega) (by first | rw [sumO, if_neg c_38, ek] | (rw [sumO, if_pos c_38, hanM, if_neg hw, ek]; exact (Int32.add_zero _).symm)) ls (lv_sub hl [2, 3, 4, 5, 6, 0] rfl)
        · refine lv_aload hx hb dX7_handlingBy_41 (lv_at hl 0 rfl) ?_
          refine pv_getN (ci := 5) (C := RX3) (T := TX3) (N := 4) hx hb hts hinX3 hown hK hP (hMs.2 i hlt).1 (hMs.2 i hlt).2 rfl 2 (by decide) hN (by decide +kernel : Cond.fieldLinkNest RX7 320 "StorageCharge$Move" "day" "I" "StorageCharge" ∈ nestW) (fun _ h9 => h9) rfl dX7_handlingBy_43 ?_
          refine lv_iload_n hx hb dX7_handlingBy_46 rfl (lv_at hl 4 rfl) ?_
          refine vp_callSi (va_Run.run (va_runS (As := [.int (nI m0)]) (rest := [.int (md i)]) ⟨hx, hb, hml, hown, hts⟩ (c_X7_firstDayOf l (nI m0)) (va_cwS 1 hts gX7_handlingBy_X7_firstDayOf rfl rfl rfl (by decide +kernel) ⟨Nat.le_of_ble_eq_true rfl, Nat.le_of_ble_eq_true rfl⟩) ⟨fun _ _ _ _ q => q, fun U hU hW => ⟨rfl, trivial⟩⟩ rfl rfl hl.1 rfl (lv_room (Nat.le_of_ble_eq_true rfl)) dX7_handlingBy_47 ⟨Nat.zero_le _, Nat.zero_le _⟩)) (fun r_47 hr_47 => ?_)
          refine lv_iload_n hx hb dX7_handlingBy_50 rfl (lv_at hl 4 rfl) ?_
          refine vp_callSi (va_Run.run (va_runS (As := [.int (nI m0)]) (rest := [.int r_47, .int (md i)]) ⟨hx, hb, hml, hown, hts⟩ (c_X7_lastDayOf l (nI m0)) (va_cwS 1 hts gX7_handlingBy_X7_lastDayOf rfl rfl rfl (by decide +kernel) ⟨Nat.le_of_ble_eq_true rfl, Nat.le_of_ble_eq_true rfl⟩) ⟨fun _ _ _ _ q => q, fun U hU hW => ⟨rfl, trivial⟩⟩ rfl rfl hl.1 rfl (lv_room (Nat.le_of_ble_eq_true rfl)) dX7_handlingBy_51 ⟨Nat.zero_le _, Nat.zero_le _⟩)) (fun r_51 hr_51 => ?_)
          refine vp_callSi (va_Run.run (va_runS (As := [.int (md i), .int r_47, .int r_51]) (rest := []) ⟨hx, hb, hml, hown, hts⟩ (c_X7_isWithin l (md i) r_47 r_51) (va_cwS 3 hts gX7_handlingBy_X7_isWithin rfl rfl rfl (by decide +kernel) ⟨Nat.le_of_ble_eq_true rfl, Nat.le_of_ble_eq_true rfl⟩) ⟨fun _ _ _ _ q => q, fun U hU hW => ⟨rfl, trivial⟩⟩ rfl rfl hl.1 rfl (lv_room (Nat.le_of_ble_eq_true rfl)) dX7_handlingBy_54 ⟨Nat.zero_le _, Nat.zero_le _⟩)) (fun r_54 hr_54 => ?_)
          refine lv_if_eq (tgt := 84) hx hb dX7_handlingBy_57 (by decide) (fun c_57 => ?_) (fun c_57 => ?_)
          · have hw : ¬ (30 * nI m0 ≤ md i ∧ md i ≤ 30 * nI m0 + 30 - 1) := by
              rw [← hr_51, ← hr_47]; exact wI_eq0.mp (by rw [← hr_54]; exact c_57)
            refine lv_iinc (v := nI (i + 1)) (lv' := [(5, .int (nI (i + 1))), (6, .ref (ad (2000 + i))), (0, .ref (ad 0)), (1, .int by0), (2, .int o), (3, .int (nI m0)), (4, .int k)]) hx hb dX7_handlingBy_84 hl (k := 6) rfl (nI_1 i) (by decide) rfl (fun ls hl => ?_)
            refine lv_goto (tgt := 6) hx hb dX7_handlingBy_87 (by decide) ?_
            exact ih6 (i + 1) k (by omega) (by omega) (by first | rw [sumO, if_neg c_38, ek] | (rw [sumO, if_pos c_38, hanM, if_neg hw, ek]; exact (Int32.add_zero _).symm)) ls (lv_sub hl [2, 3, 4, 5, 6, 0] rfl)
          · have hw : 30 * nI m0 ≤ md i ∧ md i ≤ 30 * nI m0 + 30 - 1 := by
              rw [← hr_51, ← hr_47]; exact Decidable.byContradiction fun h => c_57 (by rw [hr_54]; exact wI_eq0.mpr h)
            refine lv_iload hx hb dX7_handlingBy_60 (lv_at hl 5 rfl) ?_
            refine lv_aload hx hb dX7_handlingBy_62 (lv_at hl 0 rfl) ?_
            refine pv_getN (ci := 5) (C := RX3) (T := TX3) (N := 4) hx hb hts hinX3 hown hK hP (hMs.2 i hlt).1 (hMs.2 i hlt).2 rfl 3 (by decide) hN (by decide +kernel : Cond.fieldLinkNest RX7 323 "StorageCharge$Move" "pieces" "I" "StorageCharge" ∈ nestW) (fun _ h9 => h9) rfl dX7_handlingBy_64 ?_
            refine lv_aload_n hx hb dX7_handlingBy_67 rfl (lv_at hl 1 rfl) ?_
            refine pv_get (ci := 9) (C := RX7) (T := TX7) (N := 7) hx hb hts hinX7 hown hK hP hX.1 hX.2 rfl 1 (by decide) (hts (.fieldLink RX7 19 "StorageCharge" "charges" "LStorageCharge$Charges;") (by decide +kernel)) (fun _ h9 => h9) rfl dX7_handlingBy_68 ?_
            refine lv_iload_n hx hb dX7_handlingBy_71 rfl (lv_at hl 2 rfl) ?_
            refine lv_aload hx hb dX7_handlingBy_72 (lv_at hl 0 rfl) ?_
            refine pv_getN (ci := 5) (C := RX3) (T := TX3) (N := 4) hx hb hts hinX3 hown hK hP (hMs.2 i hlt).1 (hMs.2 i hlt).2 rfl 1 (by decide) hN (by decide +kernel : Cond.fieldLinkNest RX7 326 "StorageCharge$Move" "kind" "I" "StorageCharge" ∈ nestW) (fun _ h9 => h9) rfl dX7_handlingBy_74 ?_
            refine vp_callSi (va_Run.run (va_runV (As := [.int by0, .int (mk i)]) (rest := [.int (mp i), .int k]) ⟨hx, hb, hml, hown, hts⟩ (c_X2_handlingCents l D y Ls ad G ch st ha mi dO dD dP nd li ow hC by0 (mk i)) (cwV 2 hts gX7_handlingBy_X2_handlingCents rfl rfl rfl (by decide +kernel) ⟨Nat.le_of_ble_eq_true rfl, Nat.le_of_ble_eq_true rfl⟩) ⟨Wd_blind, Wd_recv hK hP (ci := 4) rfl hc0 ec0, Wd_at hP hK hN⟩ rfl rfl hl.1 rfl (lv_room (Nat.le_of_ble_eq_true rfl)) dX7_handlingBy_77 ⟨Nat.zero_le _, Nat.zero_le _⟩)) (fun r_77 hr_77 => ?_)
            refine lv_imul hx hb dX7_handlingBy_80 ?_
            refine lv_iadd hx hb dX7_handlingBy_81 ?_
            refine lv_topi (fun x_82 ex_82 => ?_)
            refine lv_istore (lv' := [(4, .int x_82), (6, .ref (ad (2000 + i))), (0, .ref (ad 0)), (1, .int by0), (2, .int o), (3, .int (nI m0)), (5, .int (nI i))]) hx hb dX7_handlingBy_82 hl (by decide) rfl (fun ls hl => ?_)
            refine lv_iinc (v := nI (i + 1)) (lv' := [(5, .int (nI (i + 1))), (4, .int x_82), (6, .ref (ad (2000 + i))), (0, .ref (ad 0)), (1, .int by0), (2, .int o), (3, .int (nI m0))]) hx hb dX7_handlingBy_84 hl (k := 6) rfl (nI_1 i) (by decide) rfl (fun ls hl => ?_)
            refine lv_goto (tgt := 6) hx hb dX7_handlingBy_87 (by decide) ?_
            exact ih6 (i + 1) x_82 (by omega) (by omega) (by rw [sumO, if_pos c_38, hanM, if_pos hw, ex_82, ek, hr_77]) ls (lv_sub hl [3, 4, 5, 6, 1, 0] rfl)
  have hl := lv_entry ([.ref (ad 0), .int by0, .int o, .int (nI m0)]) (n := 7) (Nat.le_of_ble_eq_true rfl)
  rw [lg_entry_eq]
  generalize (lg_sl ([.ref (ad 0), .int by0, .int o, .int (nI m0)]) ++ List.replicate (7 - (lg_sl ([.ref (ad 0), .int by0, .int o, .int (nI m0)])).length) Slot.unset).toArray = ls at hl ⊢
  have hl : lv_has ls 7 [(0, .ref (ad 0)), (1, .int by0), (2, .int o), (3, .int (nI m0))] := hl
  refine lv_iconst (v := 0) hx hb dX7_handlingBy_0 (by decide) ?_
  refine lv_istore (lv' := [(4, .int 0), (0, .ref (ad 0)), (1, .int by0), (2, .int o), (3, .int (nI m0))]) hx hb dX7_handlingBy_1 hl (by decide) rfl (fun ls hl => ?_)
  refine lv_iconst (v := 0) hx hb dX7_handlingBy_3 (by decide) ?_
  refine lv_istore (lv' := [(5, .int 0), (4, .int 0), (0, .ref (ad 0)), (1, .int by0), (2, .int o), (3, .int (nI m0))]) hx hb dX7_handlingBy_4 hl (by decide) rfl (fun ls hl => ?_)
  exact loop6 (nm + 1) 0 0 (by omega) (by omega) rfl ls (lv_sub hl [2, 3, 4, 5, 1, 0] rfl)

def sumX (st ha mi dO dD dP : Nat → Int32) (nd nu : Nat) (uo : Nat → Int32) (uf ul ut : Nat → Nat) (uk ud : Nat → Nat → Int32) (nm : Nat) (mo mk md mp : Nat → Int32) (by0 o : Int32) (m0 : Nat) : Int32 := mxI (stoA st dO dD dP nd nu uo uf ul ut uk ud by0 o m0 + sumO mo o (fun q => hanM ha by0 (nI m0) (mk q) (md q) (mp q)) nm) (tZ 8 mi by0)

set_option maxHeartbeats 4000000 in
set_option maxRecDepth 100000 in
/-- sumBy -/
theorem c_X7_sumBy (l : Launch) (D : va_G) (y : Nat → ClassId) (Ls : List Nat) (ad : Nat → Nat) (G : Nat → va_E) (ch dr : Nat) (hX : XAt Ls ad G ch dr) (st ha mi dO dD dP : Nat → Int32) (nd : Nat) (li ow : Int32) (hC : ChargesAt y Ls ad G ch st ha mi dO dD dP nd li ow) (nu : Nat) (uo : Nat → Int32) (uf ul : Nat → Nat) (ug : Nat → Int32) (ut : Nat → Nat) (uk ud : Nat → Nat → Int32) (hUs : UnitsAt y Ls ad G nu uo uf ul ug ut uk ud) (nm : Nat) (mo mk md mp : Nat → Int32) (hMs : MovesAt y Ls ad G nm mo mk md mp) (by0 o : Int32) (m0 : Nat) (hm : m0 < 120) : Met l yX7_sumBy wsX7_sumBy ({ frames := 5, cells := 0, slots := 0, locals := 118 }) (va_Pc [.ref (ad 0), .int by0, .int o, .int (nI m0)] (Wd D y (wl Ls ad G))) (vp_Si (fun r => r = sumX st ha mi dO dD dP nd nu uo uf ul ut uk ud nm mo mk md mp by0 o m0)) 0 0 (fun _ => False) := by
  refine Met.ofW (cc := cX7_sumBy) (maxL := 5) (ret := (some .int)) (by decide) rfl ?_
  intro p e s m args below meth c s₁ B hml hv
  obtain ⟨rfl, hP, hK, hN⟩ := hv
  have hx := B.exec
  have hb := B.bytes
  have hr := B.returns
  have hts := atoms_spec (ws := wsX7_sumBy) B.pre
  have hown : s.vm.findClass RX7 = some m.cls := findClass_of_methodNamed B.named
  have hlocks := B.notSynchronized
  have hinX7 : ∀ w ∈ wsX70, w ∈ wsX7_sumBy := by decide +kernel
  obtain ⟨⟨hc0, hc1, hc2, hc3, hc4, hc5, hc6⟩, ec0, ec1, ec2, ec3, ec4, ec5, ec6, hnd⟩ := id hC
  have hl := lv_entry ([.ref (ad 0), .int by0, .int o, .int (nI m0)]) (n := 5) (Nat.le_of_ble_eq_true rfl)
  rw [lg_entry_eq]
  generalize (lg_sl ([.ref (ad 0), .int by0, .int o, .int (nI m0)]) ++ List.replicate (5 - (lg_sl ([.ref (ad 0), .int by0, .int o, .int (nI m0)])).length) Slot.unset).toArray = ls at hl ⊢
  have hl : lv_has ls 5 [(0, .ref (ad 0)), (1, .int by0), (2, .int o), (3, .int (nI m0))] := hl
  refine lv_aload_n hx hb dX7_sumBy_0 rfl (lv_at hl 0 rfl) ?_
  refine lv_iload_n hx hb dX7_sumBy_1 rfl (lv_at hl 1 rfl) ?_
  refine lv_iload_n hx hb dX7_sumBy_2 rfl (lv_at hl 2 rfl) ?_
  refine lv_iload_n hx hb dX7_sumBy_3 rfl (lv_at hl 3 rfl) ?_
  refine vp_callSi (va_Run.run (va_runV (As := [.int by0, .int o, .int (nI m0)]) (rest := []) ⟨hx, hb, hml, hown, hts⟩ (c_X7_storageBy l D y Ls ad G ch dr hX st ha mi dO dD dP nd li ow hC nu uo uf ul ug ut uk ud hUs by0 o m0 hm) (cwV 3 hts gX7_sumBy_X7_storageBy rfl rfl rfl (by decide +kernel) ⟨Nat.le_of_ble_eq_true rfl, Nat.le_of_ble_eq_true rfl⟩) ⟨Wd_blind, Wd_recv hK hP (ci := 9) rfl hX.1 hX.2, Wd_at hP hK hN⟩ rfl rfl hl.1 rfl (lv_room (Nat.le_of_ble_eq_true rfl)) dX7_sumBy_4 ⟨Nat.zero_le _, Nat.zero_le _⟩)) (fun r_4 hr_4 => ?_)
  refine lv_aload_n hx hb dX7_sumBy_7 rfl (lv_at hl 0 rfl) ?_
  refine lv_iload_n hx hb dX7_sumBy_8 rfl (lv_at hl 1 rfl) ?_
  refine lv_iload_n hx hb dX7_sumBy_9 rfl (lv_at hl 2 rfl) ?_
  refine lv_iload_n hx hb dX7_sumBy_10 rfl (lv_at hl 3 rfl) ?_
  refine vp_callSi (va_Run.run (va_runV (As := [.int by0, .int o, .int (nI m0)]) (rest := [.int r_4]) ⟨hx, hb, hml, hown, hts⟩ (c_X7_handlingBy l D y Ls ad G ch dr hX st ha mi dO dD dP nd li ow hC nm mo mk md mp hMs by0 o m0 hm) (cwV 3 hts gX7_sumBy_X7_handlingBy rfl rfl rfl (by decide +kernel) ⟨Nat.le_of_ble_eq_true rfl, Nat.le_of_ble_eq_true rfl⟩) ⟨Wd_blind, Wd_recv hK hP (ci := 9) rfl hX.1 hX.2, Wd_at hP hK hN⟩ rfl rfl hl.1 rfl (lv_room (Nat.le_of_ble_eq_true rfl)) dX7_sumBy_11 ⟨Nat.zero_le _, Nat.zero_le _⟩)) (fun r_11 hr_11 => ?_)
  refine lv_iadd hx hb dX7_sumBy_14 ?_
  refine lv_topi (fun x_15 ex_15 => ?_)
  refine lv_istore (lv' := [(4, .int x_15), (0, .ref (ad 0)), (1, .int by0), (2, .int o), (3, .int (nI m0))]) hx hb dX7_sumBy_15 hl (by decide) rfl (fun ls hl => ?_)
  refine lv_iload hx hb dX7_sumBy_17 (lv_at hl 0 rfl) ?_
  refine lv_aload_n hx hb dX7_sumBy_19 rfl (lv_at hl 1 rfl) ?_
  refine pv_get (ci := 9) (C := RX7) (T := TX7) (N := 7) hx hb hts hinX7 hown hK hP hX.1 hX.2 rfl 1 (by decide) (hts (.fieldLink RX7 19 "StorageCharge" "charges" "LStorageCharge$Charges;") (by decide +kernel)) (fun _ h9 => h9) rfl dX7_sumBy_20 ?_
  refine lv_iload_n hx hb dX7_sumBy_23 rfl (lv_at hl 2 rfl) ?_
  refine vp_callSi (va_Run.run (va_runV (As := [.int by0]) (rest := [.int x_15]) ⟨hx, hb, hml, hown, hts⟩ (c_X2_minimumOf l D y Ls ad G ch st ha mi dO dD dP nd li ow hC by0) (cwV 1 hts gX7_sumBy_X2_minimumOf rfl rfl rfl (by decide +kernel) ⟨Nat.le_of_ble_eq_true rfl, Nat.le_of_ble_eq_true rfl⟩) ⟨Wd_blind, Wd_recv hK hP (ci := 4) rfl hc0 ec0, Wd_at hP hK hN⟩ rfl rfl hl.1 rfl (lv_room (Nat.le_of_ble_eq_true rfl)) dX7_sumBy_24 ⟨Nat.zero_le _, Nat.zero_le _⟩)) (fun r_24 hr_24 => ?_)
  refine va_mmax hx hb (hml.trans hl.1.symm) hown (hts (.methodLink RX7 286 Lib.Math.max.name) (by decide +kernel)) (hts (.static Lib.Math.max.name) (by decide +kernel)) (hts (.initialized "java/lang/Math") (by decide +kernel)) (hts (.code Lib.Math.max.name Lib.Math.max.code 2 (some .int)) (by decide +kernel)) (Nat.le_of_ble_eq_true rfl) (Nat.le_of_ble_eq_true rfl) (Nat.zero_le _) (Nat.zero_le _) dX7_sumBy_27 ?_
  exact W.iret (v := (if x_15 < r_24 then r_24 else x_15)) hx hb hr (fun t ht hW => ⟨(if x_15 < r_24 then r_24 else x_15), rfl, (by rw [ex_15, hr_4, hr_11, hr_24]; rfl), ht⟩) (fun q h => by cases h) dX7_sumBy_30
