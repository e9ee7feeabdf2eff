/-! the model's read -/
abbrev MS : Type := Nat × (Nat → Int32) × (Nat → Int32) × (Nat → Int32) × (Nat → Int32)
def mStep (f : Nat → Int32) (len i : Nat) (d : MS) : MS := (mP4 f len d.1 + 1, upd d.2.1 i (nx f len d.1), upd d.2.2.1 i (mnV f len (d.1 + 1)), upd d.2.2.2.1 i (mW f len d.1), upd d.2.2.2.2 i (mN f len d.1))
def mrd (f : Nat → Int32) (len : Nat) (d0 : MS) : Nat → MS
  | 0 => d0
  | i + 1 => mStep f len i (mrd f len d0 i)
def mLOK (f : Nat → Int32) (len i : Nat) (d : MS) : Prop := mOK f len d.1 i d.2.1 d.2.2.1 d.2.2.2.1
def rF (F : Nat → Int32) (p i : Nat) : Nat → Int32 := va_up (va_up (va_up F 0 0) 13 (nI p)) 8 (nI i)
def rA (A : Nat → Nat → Int32) (d : MS) : Nat → Nat → Int32 := va_up (va_up (va_up (va_up A 9 d.2.1) 10 d.2.2.1) 11 d.2.2.2.1) 12 d.2.2.2.2
theorem va_up_swap {α : Type} (f : Nat → α) {k j : Nat} (h : k ≠ j) (a b : α) : va_up (va_up f k a) j b = va_up (va_up f j b) k a := by
  funext i
  by_cases h1 : i = k
  · subst h1; rw [va_up_ne _ _ h, va_up_self, va_up_self]
  · rw [va_up_ne _ _ h1]
    by_cases h2 : i = j
    · subst h2; rw [va_up_self, va_up_self]
    · rw [va_up_ne _ _ h2, va_up_ne _ _ h2, va_up_ne _ _ h1]
theorem rF_up {F : Nat → Int32} {p i p2 i2 : Nat} : va_up (va_up (rF F p i) 13 (nI p2)) 8 (nI i2) = rF F p2 i2 := by
  rw [rF, va_up_swap _ (by decide : 8 ≠ 13), va_up_twice, va_up_twice]; rfl
theorem rF_13 {F : Nat → Int32} {p i p2 : Nat} : va_up (rF F p i) 13 (nI p2) = rF F p2 i := by
  rw [rF, va_up_swap _ (by decide : 8 ≠ 13), va_up_twice]; rfl
theorem rA_up {A : Nat → Nat → Int32} {d : MS} {a b c e : Nat → Int32} {p : Nat} : va_up (va_up (va_up (va_up (rA A d) 9 a) 10 b) 11 c) 12 e = rA A (p, a, b, c, e) := by
  rw [rA, rA]
  rw [va_up_swap _ (by decide : 12 ≠ 9), va_up_swap _ (by decide : 11 ≠ 9), va_up_swap _ (by decide : 10 ≠ 9), va_up_twice, va_up_swap _ (by decide : 12 ≠ 10), va_up_swap _ (by decide : 11 ≠ 10), va_up_twice, va_up_swap _ (by decide : 12 ≠ 11), va_up_twice, va_up_twice]
theorem mOK_p {f : Nat → Int32} {len pl fr : Nat} {L O Wh : Nat → Int32} (h : mOK f len pl fr L O Wh) : mP4 f len pl + 1 ≤ len ∧ fr ≠ 60 := ⟨nx_in (by rw [h.1.2.2.1]; decide), h.1.2.2.2.1⟩

theorem cp_s {L O Wh Mu B4 B5 B6 B7 : Nat → Int32} {j : Nat} (h : ∀ q, q < j → B4 q = L q ∧ B5 q = O q ∧ B6 q = Wh q ∧ B7 q = Mu q) : ∀ q, q < j + 1 → upd B4 j (L j) q = L q ∧ upd B5 j (O j) q = O q ∧ upd B6 j (Wh j) q = Wh q ∧ upd B7 j (Mu j) q = Mu q := fun q hq => by
  by_cases e : q = j
  · subst e; rw [upd_self, upd_self, upd_self, upd_self]; exact ⟨rfl, rfl, rfl, rfl⟩
  · rw [upd_ne e, upd_ne e, upd_ne e, upd_ne e]; exact h q (by omega)

theorem va_up_same {α : Type} (f : Nat → α) (k j : Nat) : va_up f k (f k) j = f j := by
  by_cases h : j = k
  · subst h; rw [va_up_self]
  · rw [va_up_ne _ _ h]
theorem rA_0 {A : Nat → Nat → Int32} {p : Nat} (k : Nat) : rA A (p, A 9, A 10, A 11, A 12) k = A k := by
  unfold rA
  by_cases h12 : k = 12
  · subst h12; rfl
  · rw [va_up_ne _ _ h12]
    by_cases h11 : k = 11
    · subst h11; rfl
    · rw [va_up_ne _ _ h11]
      by_cases h10 : k = 10
      · subst h10; rfl
      · rw [va_up_ne _ _ h10]; exact va_up_same A 9 k
theorem rA_4 {A : Nat → Nat → Int32} {d : MS} (k : Nat) : va_up (va_up (va_up (va_up (rA A d) 4 (A 4)) 5 (A 5)) 6 (A 6)) 7 (A 7) k = rA A d k := by
  by_cases h12 : k = 7
  · subst h12; rfl
  · rw [va_up_ne _ _ h12]
    by_cases h11 : k = 6
    · subst h11; rfl
    · rw [va_up_ne _ _ h11]
      by_cases h10 : k = 5
      · subst h10; rfl
      · rw [va_up_ne _ _ h10]; exact va_up_same (rA A d) 4 k

set_option maxHeartbeats 4000000 in
set_option maxRecDepth 100000 in
/-- read -/
theorem c_X8_read (l : Launch) (hl0 : l.stackTraces = false) (D : va_G) (y : Nat → ClassId) (b0 : Nat) (Ls : List Nat) (ad : Nat → Nat) (G : Nat → va_E) (F : Nat → Int32) (A : Nat → Nat → Int32) (hM : ModelAt y Ls ad G F A) (sg : Nat) (h1 : F 1 = nI sg) (hsg : sg ≤ 400) : Met l yX8_read wsX8_read ({ frames := 3, cells := 0, slots := 0, locals := 69 }) (va_Pc [.ref (ad 100)] (WdM D y b0 (wl Ls ad G))) (va_Qi (fun (r : Int32) (u : va_W) => ∃ i, i ≤ 60 ∧ (∀ q, q < i → (mrd (A 2) sg (0, A 9, A 10, A 11, A 12) q).1 < sg ∧ mLOK (A 2) sg q (mrd (A 2) sg (0, A 9, A 10, A 11, A 12) q)) ∧ ((sg ≤ (mrd (A 2) sg (0, A 9, A 10, A 11, A 12) i).1 ∧ r = nI i ∧ ∃ G2 F2 A2, u = wl Ls ad G2 ∧ ModelAt y Ls ad G2 F2 A2 ∧ (∀ j, (j < 100 ∨ 134 < j) → G2 j = G j) ∧ F2 0 = 0 ∧ F2 1 = 0 ∧ (∀ k, k ≠ 0 → k ≠ 1 → k ≠ 3 → k ≠ 8 → k ≠ 13 → F2 k = F k) ∧ (∀ k, k ≠ 4 → k ≠ 5 → k ≠ 6 → k ≠ 7 → k ≠ 9 → k ≠ 10 → k ≠ 11 → k ≠ 12 → A2 k = A k) ∧ F2 3 = nI i ∧ (∀ q, q < i → A2 4 q = (mrd (A 2) sg (0, A 9, A 10, A 11, A 12) i).2.1 q ∧ A2 5 q = (mrd (A 2) sg (0, A 9, A 10, A 11, A 12) i).2.2.1 q ∧ A2 6 q = (mrd (A 2) sg (0, A 9, A 10, A 11, A 12) i).2.2.2.1 q ∧ A2 7 q = (mrd (A 2) sg (0, A 9, A 10, A 11, A 12) i).2.2.2.2 q)) ∨ ((mrd (A 2) sg (0, A 9, A 10, A 11, A 12) i).1 < sg ∧ ¬ mLOK (A 2) sg i (mrd (A 2) sg (0, A 9, A 10, A 11, A 12) i) ∧ r = -1 - nI (mrd (A 2) sg (0, A 9, A 10, A 11, A 12) i).1 ∧ ∃ G2 F2 A2, u = wl Ls ad G2 ∧ ModelAt y Ls ad G2 F2 A2 ∧ (∀ j, (j < 100 ∨ 134 < j) → G2 j = G j) ∧ F2 0 = 0 ∧ F2 1 = 0 ∧ (∀ k, k ≠ 0 → k ≠ 1 → k ≠ 3 → k ≠ 8 → k ≠ 13 → F2 k = F k) ∧ (∀ k, k ≠ 4 → k ≠ 5 → k ≠ 6 → k ≠ 7 → k ≠ 9 → k ≠ 10 → k ≠ 11 → k ≠ 12 → A2 k = A k) ∧ F2 3 = F 3 ∧ A2 4 = A 4 ∧ A2 5 = A 5 ∧ A2 6 = A 6 ∧ A2 7 = A 7))) (WB D b0) (fun q => b0 ≤ q)) 0 0 (fun q => b0 ≤ q) := by
  refine Met.ofW (cc := cX8_read) (maxL := 2) (ret := (some .int)) (by decide) rfl ?_
  intro p e s m args below meth c s₁ B hml hv
  obtain ⟨rfl, ⟨hP, hK, hN⟩, hD, hb0, hT⟩ := hv
  have hx := B.exec
  have hb := B.bytes
  have hr := B.returns
  have hts := atoms_spec (ws := wsX8_read) B.pre
  have hown : s.vm.findClass RX8 = some m.cls := findClass_of_methodNamed B.named
  have hlocks := B.notSynchronized
  have hS : va_S (fun q => b0 ≤ q) s.heap s.heap [] := va_S.rf
  have hinX8 : ∀ w ∈ wsX80, w ∈ wsX8_read := by decide +kernel
  have eM : G 100 = .inr (10, [.int (F 0), .int (nI sg), .ref (ad 103), .int (F 3), .ref (ad 105), .ref (ad 106), .ref (ad 107), .ref (ad 108), .int (F 8), .ref (ad 110), .ref (ad 111), .ref (ad 112), .ref (ad 113), .int (F 13), .int (F 14), .ref (ad 116), .ref (ad 117), .ref (ad 118), .ref (ad 119), .ref (ad 120), .ref (ad 121), .int (F 21), .ref (ad 123), .ref (ad 124), .ref (ad 125), .ref (ad 126), .int (F 26), .ref (ad 128), .ref (ad 129), .ref (ad 130), .ref (ad 131), .ref (ad 132), .int (F 32), .ref (ad 134)]) := hM.2.1.trans (by rw [mfs, h1])
  have loop15 : ∀ (n : Nat) (i : Nat) (G1 : Nat → va_E), i ≤ 60 → 60 < i + n → (∀ q, q < i → (mrd (A 2) sg (0, A 9, A 10, A 11, A 12) q).1 < sg ∧ mLOK (A 2) sg q (mrd (A 2) sg (0, A 9, A 10, A 11, A 12) q)) → (mrd (A 2) sg (0, A 9, A 10, A 11, A 12) i).1 ≤ sg → ModelAt y Ls ad G1 (rF F (mrd (A 2) sg (0, A 9, A 10, A 11, A 12) i).1 i) (rA A (mrd (A 2) sg (0, A 9, A 10, A 11, A 12) i)) → (∀ j, (j < 100 ∨ 134 < j) → G1 j = G j) → ∀ (H : Heap) (locs : List Loc), va_P D vwCl (wl Ls ad G1) H → va_D (fun q => b0 ≤ q) (wl Ls ad G1) → va_S (fun q => b0 ≤ q) s.heap H locs → ∀ ls : Array Slot, lv_has ls 2 [(0, .ref (ad 100))] → W p l e (headSpec wsX8_read ({ frames := 3, cells := 0, slots := 0, locals := 69 })).room s m ([.ref (ad 100)] : List Value).toArray below meth c H locs 0 0 (MQ below (va_Qi (fun (r : Int32) (u : va_W) => ∃ i, i ≤ 60 ∧ (∀ q, q < i → (mrd (A 2) sg (0, A 9, A 10, A 11, A 12) q).1 < sg ∧ mLOK (A 2) sg q (mrd (A 2) sg (0, A 9, A 10, A 11, A 12) q)) ∧ ((sg ≤ (mrd (A 2) sg (0, A 9, A 10, A 11, A 12) i).1 ∧ r = nI i ∧ ∃ G2 F2 A2, u = wl Ls ad G2 ∧ ModelAt y Ls ad G2 F2 A2 ∧ (∀ j, (j < 100 ∨ 134 < j) → G2 j = G j) ∧ F2 0 = 0 ∧ F2 1 = 0 ∧ (∀ k, k ≠ 0 → k ≠ 1 → k ≠ 3 → k ≠ 8 → k ≠ 13 → F2 k = F k) ∧ (∀ k, k ≠ 4 → k ≠ 5 → k ≠ 6 → k ≠ 7 → k ≠ 9 → k ≠ 10 → k ≠ 11 → k ≠ 12 → A2 k = A k) ∧ F2 3 = nI i ∧ (∀ q, q < i → A2 4 q = (mrd (A 2) sg (0, A 9, A 10, A 11, A 12) i).2.1 q ∧ A2 5 q = (mrd (A 2) sg (0, A 9, A 10, A 11, A 12) i).2.2.1 q ∧ A2 6 q = (mrd (A 2) sg (0, A 9, A 10, A 11, A 12) i).2.2.2.1 q ∧ A2 7 q = (mrd (A 2) sg (0, A 9, A 10, A 11, A 12) i).2.2.2.2 q)) ∨ ((mrd (A 2) sg (0, A 9, A 10, A 11, A 12) i).1 < sg ∧ ¬ mLOK (A 2) sg i (mrd (A 2) sg (0, A 9, A 10, A 11, A 12) i) ∧ r = -1 - nI (mrd (A 2) sg (0, A 9, A 10, A 11, A 12) i).1 ∧ ∃ G2 F2 A2, u = wl Ls ad G2 ∧ ModelAt y Ls ad G2 F2 A2 ∧ (∀ j, (j < 100 ∨ 134 < j) → G2 j = G j) ∧ F2 0 = 0 ∧ F2 1 = 0 ∧ (∀ k, k ≠ 0 → k ≠ 1 → k ≠ 3 → k ≠ 8 → k ≠ 13 → F2 k = F k) ∧ (∀ k, k ≠ 4 → k ≠ 5 → k ≠ 6 → k ≠ 7 → k ≠ 9 → k ≠ 10 → k ≠ 11 → k ≠ 12 → A2 k = A k) ∧ F2 3 = F 3 ∧ A2 4 = A 4 ∧ A2 5 = A 5 ∧ A2 6 = A 6 ∧ A2 7 = A 7))) (WB D b0) (fun q => b0 ≤ q)) ([.ref (ad 100)] : List Value).toArray s 0 0 (fun q => b0 ≤ q)) (F0 m 15 ls []) := by
    intro n
    induction n with
    | zero =>
      intro i G1 hi hn; exact absurd hn (by omega)
    | succ n ih15 =>
      intro i G1 hi hn hall hp hM1 hfr1 H locs hP hD hS ls hl
      have eM : G1 100 = .inr (10, [.int 0, .int (F 1), .ref (ad 103), .int (F 3), .ref (ad 105), .ref (ad 106), .ref (ad 107), .ref (ad 108), .int (nI i), .ref (ad 110), .ref (ad 111), .ref (ad 112), .ref (ad 113), .int (nI (mrd (A 2) sg (0, A 9, A 10, A 11, A 12) i).1), .int (F 14), .ref (ad 116), .ref (ad 117), .ref (ad 118), .ref (ad 119), .ref (ad 120), .ref (ad 121), .int (F 21), .ref (ad 123), .ref (ad 124), .ref (ad 125), .ref (ad 126), .int (F 26), .ref (ad 128), .ref (ad 129), .ref (ad 130), .ref (ad 131), .ref (ad 132), .int (F 32), .ref (ad 134)]) := hM1.2.1
      rw [h1] at eM
      refine lv_aload_n hx hb dX8_read_15 rfl (lv_at hl 0 rfl) ?_
      refine pv_get (ci := 10) (C := RX8) (T := TX8) (N := 34) hx hb hts hinX8 hown hK hP hM.1 eM rfl 13 (by decide) (hts (.fieldLink RX8 97 "StorageChargeModel" "at" "I") (by decide +kernel)) (fun _ h9 => h9) rfl dX8_read_16 ?_
      refine lv_aload_n hx hb dX8_read_19 rfl (lv_at hl 0 rfl) ?_
      refine pv_get (ci := 10) (C := RX8) (T := TX8) (N := 34) hx hb hts hinX8 hown hK hP hM.1 eM rfl 1 (by decide) (hts (.fieldLink RX8 94 "StorageChargeModel" "signs" "I") (by decide +kernel)) (fun _ h9 => h9) rfl dX8_read_20 ?_
      refine lv_icmp_ge (tgt := 50) hx hb dX8_read_23 (by decide) (fun c_23 => ?_) (fun c_23 => ?_)
      · have hge : sg ≤ (mrd (A 2) sg (0, A 9, A 10, A 11, A 12) i).1 := Nat.le_of_not_lt fun h => absurd c_23 (nI_ge h (by omega))
        have loop65 : ∀ (n : Nat) (j : Nat) (B4 B5 B6 B7 : Nat → Int32) (G1 : Nat → va_E), j ≤ i → i < j + n → (∀ q, q < j → B4 q = (mrd (A 2) sg (0, A 9, A 10, A 11, A 12) i).2.1 q ∧ B5 q = (mrd (A 2) sg (0, A 9, A 10, A 11, A 12) i).2.2.1 q ∧ B6 q = (mrd (A 2) sg (0, A 9, A 10, A 11, A 12) i).2.2.2.1 q ∧ B7 q = (mrd (A 2) sg (0, A 9, A 10, A 11, A 12) i).2.2.2.2 q) → ModelAt y Ls ad G1 (va_up (va_up (rF F (mrd (A 2) sg (0, A 9, A 10, A 11, A 12) i).1 i) 1 0) 3 (nI i)) (va_up (va_up (va_up (va_up (rA A (mrd (A 2) sg (0, A 9, A 10, A 11, A 12) i)) 4 B4) 5 B5) 6 B6) 7 B7) → (∀ j, (j < 100 ∨ 134 < j) → G1 j = G j) → ∀ (H : Heap) (locs : List Loc), va_P D vwCl (wl Ls ad G1) H → va_D (fun q => b0 ≤ q) (wl Ls ad G1) → va_S (fun q => b0 ≤ q) s.heap H locs → ∀ ls : Array Slot, lv_has ls 2 [(0, .ref (ad 100)), (1, .int (nI j))] → W p l e (headSpec wsX8_read ({ frames := 3, cells := 0, slots := 0, locals := 69 })).room s m ([.ref (ad 100)] : List Value).toArray below meth c H locs 0 0 (MQ below (va_Qi (fun (r : Int32) (u : va_W) => ∃ i, i ≤ 60 ∧ (∀ q, q < i → (mrd (A 2) sg (0, A 9, A 10, A 11, A 12) q).1 < sg ∧ mLOK (A 2) sg q (mrd (A 2) sg (0, A 9, A 10, A 11, A 12) q)) ∧ ((sg ≤ (mrd (A 2) sg (0, A 9, A 10, A 11, A 12) i).1 ∧ r = nI i ∧ ∃ G2 F2 A2, u = wl Ls ad G2 ∧ ModelAt y Ls ad G2 F2 A2 ∧ (∀ j, (j < 100 ∨ 134 < j) → G2 j = G j) ∧ F2 0 = 0 ∧ F2 1 = 0 ∧ (∀ k, k ≠ 0 → k ≠ 1 → k ≠ 3 → k ≠ 8 → k ≠ 13 → F2 k = F k) ∧ (∀ k, k ≠ 4 → k ≠ 5 → k ≠ 6 → k ≠ 7 → k ≠ 9 → k ≠ 10 → k ≠ 11 → k ≠ 12 → A2 k = A k) ∧ F2 3 = nI i ∧ (∀ q, q < i → A2 4 q = (mrd (A 2) sg (0, A 9, A 10, A 11, A 12) i).2.1 q ∧ A2 5 q = (mrd (A 2) sg (0, A 9, A 10, A 11, A 12) i).2.2.1 q ∧ A2 6 q = (mrd (A 2) sg (0, A 9, A 10, A 11, A 12) i).2.2.2.1 q ∧ A2 7 q = (mrd (A 2) sg (0, A 9, A 10, A 11, A 12) i).2.2.2.2 q)) ∨ ((mrd (A 2) sg (0, A 9, A 10, A 11, A 12) i).1 < sg ∧ ¬ mLOK (A 2) sg i (mrd (A 2) sg (0, A 9, A 10, A 11, A 12) i) ∧ r = -1 - nI (mrd (A 2) sg (0, A 9, A 10, A 11, A 12) i).1 ∧ ∃ G2 F2 A2, u = wl Ls ad G2 ∧ ModelAt y Ls ad G2 F2 A2 ∧ (∀ j, (j < 100 ∨ 134 < j) → G2 j = G j) ∧ F2 0 = 0 ∧ F2 1 = 0 ∧ (∀ k, k ≠ 0 → k ≠ 1 → k ≠ 3 → k ≠ 8 → k ≠ 13 → F2 k = F k) ∧ (∀ k, k ≠ 4 → k ≠ 5 → k ≠ 6 → k ≠ 7 → k ≠ 9 → k ≠ 10 → k ≠ 11 → k ≠ 12 → A2 k = A k) ∧ F2 3 = F 3 ∧ A2 4 = A 4 ∧ A2 5 = A 5 ∧ A2 6 = A 6 ∧ A2 7 = A 7))) (WB D b0) (fun q => b0 ≤ q)) ([.ref (ad 100)] : List Value).toArray s 0 0 (fun q => b0 ≤ q)) (F0 m 65 ls []) := by
          intro n
          induction n with
          | zero =>
            intro j B4 B5 B6 B7 G1 hj hn; exact absurd hn (by omega)
          | succ n ih65 =>
            intro j B4 B5 B6 B7 G1 hj hn hcp hM1 hfr1 H locs hP hD hS ls hl
            have eM : G1 100 = .inr (10, [.int 0, .int 0, .ref (ad 103), .int (nI i), .ref (ad 105), .ref (ad 106), .ref (ad 107), .ref (ad 108), .int (nI i), .ref (ad 110), .ref (ad 111), .ref (ad 112), .ref (ad 113), .int (nI (mrd (A 2) sg (0, A 9, A 10, A 11, A 12) i).1), .int (F 14), .ref (ad 116), .ref (ad 117), .ref (ad 118), .ref (ad 119), .ref (ad 120), .ref (ad 121), .int (F 21), .ref (ad 123), .ref (ad 124), .ref (ad 125), .ref (ad 126), .int (F 26), .ref (ad 128), .ref (ad 129), .ref (ad 130), .ref (ad 131), .ref (ad 132), .int (F 32), .ref (ad 134)]) := hM1.2.1
            obtain ⟨j4, a4⟩ : 105 ∈ Ls ∧ G1 105 = .inl (y 0, 60, .inl (B4)) := hM1.2.2 4 (by decide)
            obtain ⟨j5, a5⟩ : 106 ∈ Ls ∧ G1 106 = .inl (y 0, 60, .inl (B5)) := hM1.2.2 5 (by decide)
            obtain ⟨j6, a6⟩ : 107 ∈ Ls ∧ G1 107 = .inl (y 0, 60, .inl (B6)) := hM1.2.2 6 (by decide)
            obtain ⟨j7, a7⟩ : 108 ∈ Ls ∧ G1 108 = .inl (y 0, 60, .inl (B7)) := hM1.2.2 7 (by decide)
            obtain ⟨j9, a9⟩ : 110 ∈ Ls ∧ G1 110 = .inl (y 0, 60, .inl ((mrd (A 2) sg (0, A 9, A 10, A 11, A 12) i).2.1)) := hM1.2.2 9 (by decide)
            obtain ⟨j10, a10⟩ : 111 ∈ Ls ∧ G1 111 = .inl (y 0, 60, .inl ((mrd (A 2) sg (0, A 9, A 10, A 11, A 12) i).2.2.1)) := hM1.2.2 10 (by decide)
            obtain ⟨j11, a11⟩ : 112 ∈ Ls ∧ G1 112 = .inl (y 0, 60, .inl ((mrd (A 2) sg (0, A 9, A 10, A 11, A 12) i).2.2.2.1)) := hM1.2.2 11 (by decide)
            obtain ⟨j12, a12⟩ : 113 ∈ Ls ∧ G1 113 = .inl (y 0, 60, .inl ((mrd (A 2) sg (0, A 9, A 10, A 11, A 12) i).2.2.2.2)) := hM1.2.2 12 (by decide)
            refine lv_iload_n hx hb dX8_read_65 rfl (lv_at hl 1 rfl) ?_
            refine lv_aload_n hx hb dX8_read_66 rfl (lv_at hl 0 rfl) ?_
            refine pv_get (ci := 10) (C := RX8) (T := TX8) (N := 34) hx hb hts hinX8 hown hK hP hM.1 eM rfl 8 (by decide) (hts (.fieldLink RX8 104 "StorageChargeModel" "fresh" "I") (by decide +kernel)) (fun _ h9 => h9) rfl dX8_read_67 ?_
            refine lv_icmp_ge (tgt := 127) hx hb dX8_read_70 (by decide) (fun c_70 => ?_) (fun c_70 => ?_)
            · have hgj : i = j := by
                have h8 := Nat.le_of_not_lt (fun h : j < i => absurd c_70 (nI_ge h (by omega)))
                omega
              refine lv_aload_n hx hb dX8_read_127 rfl (lv_at hl 0 rfl) ?_
              refine pv_get (ci := 10) (C := RX8) (T := TX8) (N := 34) hx hb hts hinX8 hown hK hP hM.1 eM rfl 3 (by decide) (hts (.fieldLink RX8 124 "StorageChargeModel" "lines" "I") (by decide +kernel)) (fun _ h9 => h9) rfl dX8_read_128 ?_
              refine W.widen (k := 0) (n := 0) (Nat.le_of_ble_eq_true rfl) (Nat.le_of_ble_eq_true rfl) ?_
              exact W.iret (v := nI i) hx hb hr (fun t ht hW => ⟨⟨nI i, wl Ls ad G1, rfl, ⟨i, hi, hall, Or.inl ⟨hge, rfl, G1, _, _, rfl, hM1, hfr1, rfl, rfl, fun k h0 h1 h3 h8 h13 => by rw [va_up_ne _ _ h3, va_up_ne _ _ h1, rF, va_up_ne _ _ h8, va_up_ne _ _ h13, va_up_ne _ _ h0], fun k h4 h5 h6 h7 h9 h10 h11 h12 => by rw [va_up_ne _ _ h7, va_up_ne _ _ h6, va_up_ne _ _ h5, va_up_ne _ _ h4, rA, va_up_ne _ _ h12, va_up_ne _ _ h11, va_up_ne _ _ h10, va_up_ne _ _ h9], rfl, fun q hq => hcp q (by omega)⟩⟩, by rw [ht]; exact hP, hD⟩, hS.F ht⟩) hS.2.2 dX8_read_131
            · have hlj : j < i := Nat.lt_of_not_le fun h => c_70 (nI_le h (by omega))
              refine lv_aload_n hx hb dX8_read_73 rfl (lv_at hl 0 rfl) ?_
              refine pv_get (ci := 10) (C := RX8) (T := TX8) (N := 34) hx hb hts hinX8 hown hK hP hM.1 eM rfl 4 (by decide) (hts (.fieldLink RX8 13 "StorageChargeModel" "letter" "[I") (by decide +kernel)) (fun _ h9 => h9) rfl dX8_read_74 ?_
              refine lv_iload_n hx hb dX8_read_77 rfl (lv_at hl 1 rfl) ?_
              refine lv_aload_n hx hb dX8_read_78 rfl (lv_at hl 0 rfl) ?_
              refine pv_get (ci := 10) (C := RX8) (T := TX8) (N := 34) hx hb hts hinX8 hown hK hP hM.1 eM rfl 9 (by decide) (hts (.fieldLink RX8 25 "StorageChargeModel" "newLetter" "[I") (by decide +kernel)) (fun _ h9 => h9) rfl dX8_read_79 ?_
              refine lv_iload_n hx hb dX8_read_82 rfl (lv_at hl 1 rfl) ?_
              refine pv_iald hx hb hK hP j9 0 a9 rfl (k := j) rfl (by omega) (by decide) dX8_read_83 ?_
              refine pv_iast hx hb hK hP hD hS j4 0 a4 rfl (k := j) rfl (by omega) (by decide) dX8_read_84 (fun H locs hP hD hS => ?_)
              obtain ⟨G_84, eG_84⟩ : ∃ gg9 : Nat → va_E, gg9 = va_up G1 105 (.inl (y 0, 60, .inl (upd B4 j (((mrd (A 2) sg (0, A 9, A 10, A 11, A 12) i).2.1) j)))) := ⟨_, rfl⟩
              have hP : va_P D vwCl (wl Ls ad G_84) H := by rw [eG_84]; exact hP
              have hD : va_D (fun q => b0 ≤ q) (wl Ls ad G_84) := by rw [eG_84]; exact hD
              have eM : G_84 100 = .inr (10, [.int 0, .int 0, .ref (ad 103), .int (nI i), .ref (ad 105), .ref (ad 106), .ref (ad 107), .ref (ad 108), .int (nI i), .ref (ad 110), .ref (ad 111), .ref (ad 112), .ref (ad 113), .int (nI (mrd (A 2) sg (0, A 9, A 10, A 11, A 12) i).1), .int (F 14), .ref (ad 116), .ref (ad 117), .ref (ad 118), .ref (ad 119), .ref (ad 120), .ref (ad 121), .int (F 21), .ref (ad 123), .ref (ad 124), .ref (ad 125), .ref (ad 126), .int (F 26), .ref (ad 128), .ref (ad 129), .ref (ad 130), .ref (ad 131), .ref (ad 132), .int (F 32), .ref (ad 134)]) := by rw [eG_84, va_up_ne _ _ (by omega)]; exact eM
              have a5 : G_84 106 = .inl (y 0, 60, .inl B5) := by rw [eG_84, va_up_ne _ _ (by omega)]; exact a5
              have a6 : G_84 107 = .inl (y 0, 60, .inl B6) := by rw [eG_84, va_up_ne _ _ (by omega)]; exact a6
              have a7 : G_84 108 = .inl (y 0, 60, .inl B7) := by rw [eG_84, va_up_ne _ _ (by omega)]; exact a7
              have a9 : G_84 110 = .inl (y 0, 60, .inl ((mrd (A 2) sg (0, A 9, A 10, A 11, A 12) i).2.1)) := by rw [eG_84, va_up_ne _ _ (by omega)]; exact a9
              have a10 : G_84 111 = .inl (y 0, 60, .inl ((mrd (A 2) sg (0, A 9, A 10, A 11, A 12) i).2.2.1)) := by rw [eG_84, va_up_ne _ _ (by omega)]; exact a10
              have a11 : G_84 112 = .inl (y 0, 60, .inl ((mrd (A 2) sg (0, A 9, A 10, A 11, A 12) i).2.2.2.1)) := by rw [eG_84, va_up_ne _ _ (by omega)]; exact a11
              have a12 : G_84 113 = .inl (y 0, 60, .inl ((mrd (A 2) sg (0, A 9, A 10, A 11, A 12) i).2.2.2.2)) := by rw [eG_84, va_up_ne _ _ (by omega)]; exact a12
              have a4 : G_84 105 = .inl (y 0, 60, .inl (upd B4 j (((mrd (A 2) sg (0, A 9, A 10, A 11, A 12) i).2.1) j))) := by rw [eG_84]; exact va_up_self _ _ _
              refine lv_aload_n hx hb dX8_read_85 rfl (lv_at hl 0 rfl) ?_
              refine pv_get (ci := 10) (C := RX8) (T := TX8) (N := 34) hx hb hts hinX8 hown hK hP hM.1 eM rfl 5 (by decide) (hts (.fieldLink RX8 16 "StorageChargeModel" "lineOwner" "[I") (by decide +kernel)) (fun _ h9 => h9) rfl dX8_read_86 ?_
              refine lv_iload_n hx hb dX8_read_89 rfl (lv_at hl 1 rfl) ?_
              refine lv_aload_n hx hb dX8_read_90 rfl (lv_at hl 0 rfl) ?_
              refine pv_get (ci := 10) (C := RX8) (T := TX8) (N := 34) hx hb hts hinX8 hown hK hP hM.1 eM rfl 10 (by decide) (hts (.fieldLink RX8 28 "StorageChargeModel" "newOwner" "[I") (by decide +kernel)) (fun _ h9 => h9) rfl dX8_read_91 ?_
              refine lv_iload_n hx hb dX8_read_94 rfl (lv_at hl 1 rfl) ?_
              refine pv_iald hx hb hK hP j10 0 a10 rfl (k := j) rfl (by omega) (by decide) dX8_read_95 ?_
              refine pv_iast hx hb hK hP hD hS j5 0 a5 rfl (k := j) rfl (by omega) (by decide) dX8_read_96 (fun H locs hP hD hS => ?_)
              obtain ⟨G_96, eG_96⟩ : ∃ gg9 : Nat → va_E, gg9 = va_up G_84 106 (.inl (y 0, 60, .inl (upd B5 j (((mrd (A 2) sg (0, A 9, A 10, A 11, A 12) i).2.2.1) j)))) := ⟨_, rfl⟩
              have hP : va_P D vwCl (wl Ls ad G_96) H := by rw [eG_96]; exact hP
              have hD : va_D (fun q => b0 ≤ q) (wl Ls ad G_96) := by rw [eG_96]; exact hD
              have eM : G_96 100 = .inr (10, [.int 0, .int 0, .ref (ad 103), .int (nI i), .ref (ad 105), .ref (ad 106), .ref (ad 107), .ref (ad 108), .int (nI i), .ref (ad 110), .ref (ad 111), .ref (ad 112), .ref (ad 113), .int (nI (mrd (A 2) sg (0, A 9, A 10, A 11, A 12) i).1), .int (F 14), .ref (ad 116), .ref (ad 117), .ref (ad 118), .ref (ad 119), .ref (ad 120), .ref (ad 121), .int (F 21), .ref (ad 123), .ref (ad 124), .ref (ad 125), .ref (ad 126), .int (F 26), .ref (ad 128), .ref (ad 129), .ref (ad 130), .ref (ad 131), .ref (ad 132), .int (F 32), .ref (ad 134)]) := by rw [eG_96, va_up_ne _ _ (by omega)]; exact eM
              have a4 : G_96 105 = .inl (y 0, 60, .inl (upd B4 j (((mrd (A 2) sg (0, A 9, A 10, A 11, A 12) i).2.1) j))) := by rw [eG_96, va_up_ne _ _ (by omega)]; exact a4
              have a6 : G_96 107 = .inl (y 0, 60, .inl B6) := by rw [eG_96, va_up_ne _ _ (by omega)]; exact a6
              have a7 : G_96 108 = .inl (y 0, 60, .inl B7) := by rw [eG_96, va_up_ne _ _ (by omega)]; exact a7
              have a9 : G_96 110 = .inl (y 0, 60, .inl ((mrd (A 2) sg (0, A 9, A 10, A 11, A 12) i).2.1)) := by rw [eG_96, va_up_ne _ _ (by omega)]; exact a9
              have a10 : G_96 111 = .inl (y 0, 60, .inl ((mrd (A 2) sg (0, A 9, A 10, A 11, A 12) i).2.2.1)) := by rw [eG_96, va_up_ne _ _ (by omega)]; exact a10
              have a11 : G_96 112 = .inl (y 0, 60, .inl ((mrd (A 2) sg (0, A 9, A 10, A 11, A 12) i).2.2.2.1)) := by rw [eG_96, va_up_ne _ _ (by omega)]; exact a11
              have a12 : G_96 113 = .inl (y 0, 60, .inl ((mrd (A 2) sg (0, A 9, A 10, A 11, A 12) i).2.2.2.2)) := by rw [eG_96, va_up_ne _ _ (by omega)]; exact a12
              have a5 : G_96 106 = .inl (y 0, 60, .inl (upd B5 j (((mrd (A 2) sg (0, A 9, A 10, A 11, A 12) i).2.2.1) j))) := by rw [eG_96]; exact va_up_self _ _ _
              refine lv_aload_n hx hb dX8_read_97 rfl (lv_at hl 0 rfl) ?_
              refine pv_get (ci := 10) (C := RX8) (T := TX8) (N := 34) hx hb hts hinX8 hown hK hP hM.1 eM rfl 6 (by decide) (hts (.fieldLink RX8 19 "StorageChargeModel" "what" "[I") (by decide +kernel)) (fun _ h9 => h9) rfl dX8_read_98 ?_
              refine lv_iload_n hx hb dX8_read_101 rfl (lv_at hl 1 rfl) ?_
              refine lv_aload_n hx hb dX8_read_102 rfl (lv_at hl 0 rfl) ?_
              refine pv_get (ci := 10) (C := RX8) (T := TX8) (N := 34) hx hb hts hinX8 hown hK hP hM.1 eM rfl 11 (by decide) (hts (.fieldLink RX8 31 "StorageChargeModel" "newWhat" "[I") (by decide +kernel)) (fun _ h9 => h9) rfl dX8_read_103 ?_
              refine lv_iload_n hx hb dX8_read_106 rfl (lv_at hl 1 rfl) ?_
              refine pv_iald hx hb hK hP j11 0 a11 rfl (k := j) rfl (by omega) (by decide) dX8_read_107 ?_
              refine pv_iast hx hb hK hP hD hS j6 0 a6 rfl (k := j) rfl (by omega) (by decide) dX8_read_108 (fun H locs hP hD hS => ?_)
              obtain ⟨G_108, eG_108⟩ : ∃ gg9 : Nat → va_E, gg9 = va_up G_96 107 (.inl (y 0, 60, .inl (upd B6 j (((mrd (A 2) sg (0, A 9, A 10, A 11, A 12) i).2.2.2.1) j)))) := ⟨_, rfl⟩
              have hP : va_P D vwCl (wl Ls ad G_108) H := by rw [eG_108]; exact hP
              have hD : va_D (fun q => b0 ≤ q) (wl Ls ad G_108) := by rw [eG_108]; exact hD
              have eM : G_108 100 = .inr (10, [.int 0, .int 0, .ref (ad 103), .int (nI i), .ref (ad 105), .ref (ad 106), .ref (ad 107), .ref (ad 108), .int (nI i), .ref (ad 110), .ref (ad 111), .ref (ad 112), .ref (ad 113), .int (nI (mrd (A 2) sg (0, A 9, A 10, A 11, A 12) i).1), .int (F 14), .ref (ad 116), .ref (ad 117), .ref (ad 118), .ref (ad 119), .ref (ad 120), .ref (ad 121), .int (F 21), .ref (ad 123), .ref (ad 124), .ref (ad 125), .ref (ad 126), .int (F 26), .ref (ad 128), .ref (ad 129), .ref (ad 130), .ref (ad 131), .ref (ad 132), .int (F 32), .ref (ad 134)]) := by rw [eG_108, va_up_ne _ _ (by omega)]; exact eM
              have a4 : G_108 105 = .inl (y 0, 60, .inl (upd B4 j (((mrd (A 2) sg (0, A 9, A 10, A 11, A 12) i).2.1) j))) := by rw [eG_108, va_up_ne _ _ (by omega)]; exact a4
              have a5 : G_108 106 = .inl (y 0, 60, .inl (upd B5 j (((mrd (A 2) sg (0, A 9, A 10, A 11, A 12) i).2.2.1) j))) := by rw [eG_108, va_up_ne _ _ (by omega)]; exact a5
              have a7 : G_108 108 = .inl (y 0, 60, .inl B7) := by rw [eG_108, va_up_ne _ _ (by omega)]; exact a7
              have a9 : G_108 110 = .inl (y 0, 60, .inl ((mrd (A 2) sg (0, A 9, A 10, A 11, A 12) i).2.1)) := by rw [eG_108, va_up_ne _ _ (by omega)]; exact a9
              have a10 : G_108 111 = .inl (y 0, 60, .inl ((mrd (A 2) sg (0, A 9, A 10, A 11, A 12) i).2.2.1)) := by rw [eG_108, va_up_ne _ _ (by omega)]; exact a10
              have a11 : G_108 112 = .inl (y 0, 60, .inl ((mrd (A 2) sg (0, A 9, A 10, A 11, A 12) i).2.2.2.1)) := by rw [eG_108, va_up_ne _ _ (by omega)]; exact a11
              have a12 : G_108 113 = .inl (y 0, 60, .inl ((mrd (A 2) sg (0, A 9, A 10, A 11, A 12) i).2.2.2.2)) := by rw [eG_108, va_up_ne _ _ (by omega)]; exact a12
              have a6 : G_108 107 = .inl (y 0, 60, .inl (upd B6 j (((mrd (A 2) sg (0, A 9, A 10, A 11, A 12) i).2.2.2.1) j))) := by rw [eG_108]; exact va_up_self _ _ _
              refine lv_aload_n hx hb dX8_read_109 rfl (lv_at hl 0 rfl) ?_
              refine pv_get (ci := 10) (C := RX8) (T := TX8) (N := 34) hx hb hts hinX8 hown hK hP hM.1 eM rfl 7 (by decide) (hts (.fieldLink RX8 22 "StorageChargeModel" "much" "[I") (by decide +kernel)) (fun _ h9 => h9) rfl dX8_read_110 ?_
              refine lv_iload_n hx hb dX8_read_113 rfl (lv_at hl 1 rfl) ?_
              refine lv_aload_n hx hb dX8_read_114 rfl (lv_at hl 0 rfl) ?_
              refine pv_get (ci := 10) (C := RX8) (T := TX8) (N := 34) hx hb hts hinX8 hown hK hP hM.1 eM rfl 12 (by decide) (hts (.fieldLink RX8 34 "StorageChargeModel" "newMuch" "[I") (by decide +kernel)) (fun _ h9 => h9) rfl dX8_read_115 ?_
              refine lv_iload_n hx hb dX8_read_118 rfl (lv_at hl 1 rfl) ?_
              refine pv_iald hx hb hK hP j12 0 a12 rfl (k := j) rfl (by omega) (by decide) dX8_read_119 ?_
              refine pv_iast hx hb hK hP hD hS j7 0 a7 rfl (k := j) rfl (by omega) (by decide) dX8_read_120 (fun H locs hP hD hS => ?_)
              obtain ⟨G_120, eG_120⟩ : ∃ gg9 : Nat → va_E, gg9 = va_up G_108 108 (.inl (y 0, 60, .inl (upd B7 j (((mrd (A 2) sg (0, A 9, A 10, A 11, A 12) i).2.2.2.2) j)))) := ⟨_, rfl⟩
              have hP : va_P D vwCl (wl Ls ad G_120) H := by rw [eG_120]; exact hP
              have hD : va_D (fun q => b0 ≤ q) (wl Ls ad G_120) := by rw [eG_120]; exact hD
              have eM : G_120 100 = .inr (10, [.int 0, .int 0, .ref (ad 103), .int (nI i), .ref (ad 105), .ref (ad 106), .ref (ad 107), .ref (ad 108), .int (nI i), .ref (ad 110), .ref (ad 111), .ref (ad 112), .ref (ad 113), .int (nI (mrd (A 2) sg (0, A 9, A 10, A 11, A 12) i).1), .int (F 14), .ref (ad 116), .ref (ad 117), .ref (ad 118), .ref (ad 119), .ref (ad 120), .ref (ad 121), .int (F 21), .ref (ad 123), .ref (ad 124), .ref (ad 125), .ref (ad 126), .int (F 26), .ref (ad 128), .ref (ad 129), .ref (ad 130), .ref (ad 131), .ref (ad 132), .int (F 32), .ref (ad 134)]) := by rw [eG_120, va_up_ne _ _ (by omega)]; exact eM
              have a4 : G_120 105 = .inl (y 0, 60, .inl (upd B4 j (((mrd (A 2) sg (0, A 9, A 10, A 11, A 12) i).2.1) j))) := by rw [eG_120, va_up_ne _ _ (by omega)]; exact a4
              have a5 : G_120 106 = .inl (y 0, 60, .inl (upd B5 j (((mrd (A 2) sg (0, A 9, A 10, A 11, A 12) i).2.2.1) j))) := by rw [eG_120, va_up_ne _ _ (by omega)]; exact a5
              have a6 : G_120 107 = .inl (y 0, 60, .inl (upd B6 j (((mrd (A 2) sg (0, A 9, A 10, A 11, A 12) i).2.2.2.1) j))) := by rw [eG_120, va_up_ne _ _ (by omega)]; exact a6
              have a9 : G_120 110 = .inl (y 0, 60, .inl ((mrd (A 2) sg (0, A 9, A 10, A 11, A 12) i).2.1)) := by rw [eG_120, va_up_ne _ _ (by omega)]; exact a9
              have a10 : G_120 111 = .inl (y 0, 60, .inl ((mrd (A 2) sg (0, A 9, A 10, A 11, A 12) i).2.2.1)) := by rw [eG_120, va_up_ne _ _ (by omega)]; exact a10
              have a11 : G_120 112 = .inl (y 0, 60, .inl ((mrd (A 2) sg (0, A 9, A 10, A 11, A 12) i).2.2.2.1)) := by rw [eG_120, va_up_ne _ _ (by omega)]; exact a11
              have a12 : G_120 113 = .inl (y 0, 60, .inl ((mrd (A 2) sg (0, A 9, A 10, A 11, A 12) i).2.2.2.2)) := by rw [eG_120, va_up_ne _ _ (by omega)]; exact a12
              have a7 : G_120 108 = .inl (y 0, 60, .inl (upd B7 j (((mrd (A 2) sg (0, A 9, A 10, A 11, A 12) i).2.2.2.2) j))) := by rw [eG_120]; exact va_up_self _ _ _
              refine lv_iinc (v := nI (j + 1)) (lv' := [(1, .int (nI (j + 1))), (0, .ref (ad 100))]) hx hb dX8_read_121 hl (k := 1) rfl (nI_1 j) (by decide) rfl (fun ls hl => ?_)
              refine lv_goto (tgt := 65) hx hb dX8_read_124 (by decide) ?_
              exact ih65 (j + 1) (upd B4 j ((mrd (A 2) sg (0, A 9, A 10, A 11, A 12) i).2.1 j)) (upd B5 j ((mrd (A 2) sg (0, A 9, A 10, A 11, A 12) i).2.2.1 j)) (upd B6 j ((mrd (A 2) sg (0, A 9, A 10, A 11, A 12) i).2.2.2.1 j)) (upd B7 j ((mrd (A 2) sg (0, A 9, A 10, A 11, A 12) i).2.2.2.2 j)) G_120 (by omega) (by omega) (cp_s hcp) (show ModelAt y Ls ad G_120 (va_up (va_up (rF F (mrd (A 2) sg (0, A 9, A 10, A 11, A 12) i).1 i) 1 0) 3 (nI i)) (va_up (va_up (va_up (va_up (rA A (mrd (A 2) sg (0, A 9, A 10, A 11, A 12) i)) 4 (upd B4 j ((mrd (A 2) sg (0, A 9, A 10, A 11, A 12) i).2.1 j))) 5 (upd B5 j ((mrd (A 2) sg (0, A 9, A 10, A 11, A 12) i).2.2.1 j))) 6 (upd B6 j ((mrd (A 2) sg (0, A 9, A 10, A 11, A 12) i).2.2.2.1 j))) 7 (upd B7 j ((mrd (A 2) sg (0, A 9, A 10, A 11, A 12) i).2.2.2.2 j))) from ModelAt_w hM1 eM (fun k hk => if h49 : k = 4 then Or.inr (by subst h49; exact a4) else if h59 : k = 5 then Or.inr (by subst h59; exact a5) else if h69 : k = 6 then Or.inr (by subst h69; exact a6) else if h79 : k = 7 then Or.inr (by subst h79; exact a7) else Or.inl ⟨by rw [eG_120, va_up_ne _ _ (by omega), eG_108, va_up_ne _ _ (by omega), eG_96, va_up_ne _ _ (by omega), eG_84, va_up_ne _ _ (by omega)], by rw [va_up_ne _ _ h79, va_up_ne _ _ h69, va_up_ne _ _ h59, va_up_ne _ _ h49, va_up_ne _ _ h79, va_up_ne _ _ h69, va_up_ne _ _ h59, va_up_ne _ _ h49]⟩)) (fun j h9 => by rw [eG_120, va_up_ne _ _ (by omega), eG_108, va_up_ne _ _ (by omega), eG_96, va_up_ne _ _ (by omega), eG_84, va_up_ne _ _ (by omega)]; exact hfr1 j h9) _ _ hP hD hS ls (lv_sub hl [1, 0] rfl)
        refine lv_aload_n hx hb dX8_read_50 rfl (lv_at hl 0 rfl) ?_
        refine lv_iconst (v := 0) hx hb dX8_read_51 (by decide) ?_
        refine pv_put (ci := 10) (v := .int 0) (ty := .int) (C := RX8) (T := TX8) (N := 34) hx hb hts hinX8 tyX8 tyX8_ok nmX8 hown hK hP hD hS hM.1 eM rfl 1 (by decide) (hts (.fieldLink RX8 94 "StorageChargeModel" "signs" "I") (by decide +kernel)) (fun _ h9 => h9) rfl (by decide +kernel) rfl rfl (Nat.le_of_ble_eq_true rfl) dX8_read_52 (fun H locs hP hD hS => ?_)
        obtain ⟨G_52, eG_52⟩ : ∃ gg9 : Nat → va_E, gg9 = va_up G1 100 (.inr (10, [.int 0, .int 0, .ref (ad 103), .int (F 3), .ref (ad 105), .ref (ad 106), .ref (ad 107), .ref (ad 108), .int (nI i), .ref (ad 110), .ref (ad 111), .ref (ad 112), .ref (ad 113), .int (nI (mrd (A 2) sg (0, A 9, A 10, A 11, A 12) i).1), .int (F 14), .ref (ad 116), .ref (ad 117), .ref (ad 118), .ref (ad 119), .ref (ad 120), .ref (ad 121), .int (F 21), .ref (ad 123), .ref (ad 124), .ref (ad 125), .ref (ad 126), .int (F 26), .ref (ad 128), .ref (ad 129), .ref (ad 130), .ref (ad 131), .ref (ad 132), .int (F 32), .ref (ad 134)])) := ⟨_, rfl⟩
        have hP : va_P D vwCl (wl Ls ad G_52) H := by rw [eG_52]; exact hP
        have hD : va_D (fun q => b0 ≤ q) (wl Ls ad G_52) := by rw [eG_52]; exact hD
        have eM : G_52 100 = .inr (10, [.int 0, .int 0, .ref (ad 103), .int (F 3), .ref (ad 105), .ref (ad 106), .ref (ad 107), .ref (ad 108), .int (nI i), .ref (ad 110), .ref (ad 111), .ref (ad 112), .ref (ad 113), .int (nI (mrd (A 2) sg (0, A 9, A 10, A 11, A 12) i).1), .int (F 14), .ref (ad 116), .ref (ad 117), .ref (ad 118), .ref (ad 119), .ref (ad 120), .ref (ad 121), .int (F 21), .ref (ad 123), .ref (ad 124), .ref (ad 125), .ref (ad 126), .int (F 26), .ref (ad 128), .ref (ad 129), .ref (ad 130), .ref (ad 131), .ref (ad 132), .int (F 32), .ref (ad 134)]) := by rw [eG_52]; exact va_up_self _ _ _
        refine lv_aload_n hx hb dX8_read_55 rfl (lv_at hl 0 rfl) ?_
        refine lv_aload_n hx hb dX8_read_56 rfl (lv_at hl 0 rfl) ?_
        refine pv_get (ci := 10) (C := RX8) (T := TX8) (N := 34) hx hb hts hinX8 hown hK hP hM.1 eM rfl 8 (by decide) (hts (.fieldLink RX8 104 "StorageChargeModel" "fresh" "I") (by decide +kernel)) (fun _ h9 => h9) rfl dX8_read_57 ?_
        refine pv_put (ci := 10) (v := .int (nI i)) (ty := .int) (C := RX8) (T := TX8) (N := 34) hx hb hts hinX8 tyX8 tyX8_ok nmX8 hown hK hP hD hS hM.1 eM rfl 3 (by decide) (hts (.fieldLink RX8 124 "StorageChargeModel" "lines" "I") (by decide +kernel)) (fun _ h9 => h9) rfl (by decide +kernel) rfl rfl (Nat.le_of_ble_eq_true rfl) dX8_read_60 (fun H locs hP hD hS => ?_)
        obtain ⟨G_60, eG_60⟩ : ∃ gg9 : Nat → va_E, gg9 = va_up G_52 100 (.inr (10, [.int 0, .int 0, .ref (ad 103), .int (nI i), .ref (ad 105), .ref (ad 106), .ref (ad 107), .ref (ad 108), .int (nI i), .ref (ad 110), .ref (ad 111), .ref (ad 112), .ref (ad 113), .int (nI (mrd (A 2) sg (0, A 9, A 10, A 11, A 12) i).1), .int (F 14), .ref (ad 116), .ref (ad 117), .ref (ad 118), .ref (ad 119), .ref (ad 120), .ref (ad 121), .int (F 21), .ref (ad 123), .ref (ad 124), .ref (ad 125), .ref (ad 126), .int (F 26), .ref (ad 128), .ref (ad 129), .ref (ad 130), .ref (ad 131), .ref (ad 132), .int (F 32), .ref (ad 134)])) := ⟨_, rfl⟩
        have hP : va_P D vwCl (wl Ls ad G_60) H := by rw [eG_60]; exact hP
        have hD : va_D (fun q => b0 ≤ q) (wl Ls ad G_60) := by rw [eG_60]; exact hD
        have eM : G_60 100 = .inr (10, [.int 0, .int 0, .ref (ad 103), .int (nI i), .ref (ad 105), .ref (ad 106), .ref (ad 107), .ref (ad 108), .int (nI i), .ref (ad 110), .ref (ad 111), .ref (ad 112), .ref (ad 113), .int (nI (mrd (A 2) sg (0, A 9, A 10, A 11, A 12) i).1), .int (F 14), .ref (ad 116), .ref (ad 117), .ref (ad 118), .ref (ad 119), .ref (ad 120), .ref (ad 121), .int (F 21), .ref (ad 123), .ref (ad 124), .ref (ad 125), .ref (ad 126), .int (F 26), .ref (ad 128), .ref (ad 129), .ref (ad 130), .ref (ad 131), .ref (ad 132), .int (F 32), .ref (ad 134)]) := by rw [eG_60]; exact va_up_self _ _ _
        have hM60 : ModelAt y Ls ad G_60 (va_up (va_up (rF F (mrd (A 2) sg (0, A 9, A 10, A 11, A 12) i).1 i) 1 0) 3 (nI i)) (va_up (va_up (va_up (va_up (rA A (mrd (A 2) sg (0, A 9, A 10, A 11, A 12) i)) 4 (A 4)) 5 (A 5)) 6 (A 6)) 7 (A 7)) := ModelAt_w hM1 eM (fun k hk => Or.inl ⟨by rw [eG_60, va_up_ne _ _ (by omega), eG_52, va_up_ne _ _ (by omega)], rA_4 k⟩)
        refine lv_iconst (v := 0) hx hb dX8_read_63 (by decide) ?_
        refine lv_istore_n (lv' := [(1, .int 0), (0, .ref (ad 100))]) hx hb dX8_read_64 rfl hl (by decide) rfl (fun ls hl => ?_)
        exact loop65 61 0 (A 4) (A 5) (A 6) (A 7) G_60 (by omega) (by omega) (fun q h => absurd h (Nat.not_lt_zero q)) hM60 (fun j h9 => by rw [eG_60, va_up_ne _ _ (by omega), eG_52, va_up_ne _ _ (by omega)]; exact hfr1 j h9) _ _ hP hD hS ls (lv_sub hl [1, 0] rfl)
      · have hlt : (mrd (A 2) sg (0, A 9, A 10, A 11, A 12) i).1 < sg := Nat.lt_of_not_le fun h => c_23 (nI_le h (by omega))
        refine lv_aload_n hx hb dX8_read_26 rfl (lv_at hl 0 rfl) ?_
        refine pv_get (ci := 10) (C := RX8) (T := TX8) (N := 34) hx hb hts hinX8 hown hK hP hM.1 eM rfl 13 (by decide) (hts (.fieldLink RX8 97 "StorageChargeModel" "at" "I") (by decide +kernel)) (fun _ h9 => h9) rfl dX8_read_27 ?_
        refine lv_topi (fun x_30 ex_30 => ?_)
        refine lv_istore_n (lv' := [(1, .int x_30), (0, .ref (ad 100))]) hx hb dX8_read_30 rfl hl (by decide) rfl (fun ls hl => ?_)
        refine lv_aload_n hx hb dX8_read_31 rfl (lv_at hl 1 rfl) ?_
        refine va_calli (va_runV (As := []) (rest := []) ⟨hx, hb, hml, hown, hts⟩ (c_X8_line l hl0 D y b0 Ls ad G1 (rF F (mrd (A 2) sg (0, A 9, A 10, A 11, A 12) i).1 i) (rA A (mrd (A 2) sg (0, A 9, A 10, A 11, A 12) i)) hM1 sg h1 i rfl (mrd (A 2) sg (0, A 9, A 10, A 11, A 12) i).1 rfl hsg hp (by omega)) (cwV 0 hts gX8_read_X8_line rfl rfl rfl (by decide +kernel) ⟨(Nat.le_of_ble_eq_true rfl), (Nat.le_of_ble_eq_true rfl)⟩) ⟨WdM_blind, Wd_recv hK hP (ci := 10) rfl hM.1 eM, WdM_at hP hK hN hD hS hb0 hT⟩ rfl rfl hl.1 rfl (lv_room (Nat.le_of_ble_eq_true rfl)) dX8_read_32 ⟨(Nat.le_of_ble_eq_true rfl), (Nat.le_of_ble_eq_true rfl)⟩) hS (fun _ _ h => h) (fun _ h => h) (fun r_32 u32 t H locs ht hvm hw32 hB hz1 hk1 hS => ?_)
        obtain ⟨hP, hD⟩ := hB
        rw [ht] at hP
        rcases hw32 with ⟨rfl, hok0, g32, rfl, hM32, hfr32⟩ | ⟨rfl, hbad0, g32, p2, rfl, hM32, hfr32⟩
        · have hok : mLOK (A 2) sg i (mrd (A 2) sg (0, A 9, A 10, A 11, A 12) i) := hok0
          have hM32 : ModelAt y Ls ad g32 (rF F (mrd (A 2) sg (0, A 9, A 10, A 11, A 12) (i + 1)).1 (i + 1)) (rA A (mrd (A 2) sg (0, A 9, A 10, A 11, A 12) (i + 1))) := by
            rw [rF_up, rA_up (p := (mrd (A 2) sg (0, A 9, A 10, A 11, A 12) (i + 1)).1)] at hM32
            exact hM32
          refine lv_if_eq (tgt := 41) hx hb dX8_read_35 (by decide) (fun c_35 => ?_) (fun c_35 => ?_)
          · exact absurd c_35 (by decide)
          · refine lv_goto (tgt := 15) hx hb dX8_read_38 (by decide) ?_
            exact ih15 (i + 1) g32 (by have := (mOK_p hok).2; omega) (by omega) (lt_s hall ⟨hlt, hok⟩) (mOK_p hok).1 hM32 (fun j h9 => (hfr32 j h9).trans (hfr1 j h9)) _ _ hP hD hS ls (lv_sub hl [1] rfl)
        · have hbad : ¬ mLOK (A 2) sg i (mrd (A 2) sg (0, A 9, A 10, A 11, A 12) i) := hbad0
          rw [rF_13] at hM32
          have eM : g32 100 = .inr (10, [.int 0, .int (F 1), .ref (ad 103), .int (F 3), .ref (ad 105), .ref (ad 106), .ref (ad 107), .ref (ad 108), .int (nI i), .ref (ad 110), .ref (ad 111), .ref (ad 112), .ref (ad 113), .int (nI p2), .int (F 14), .ref (ad 116), .ref (ad 117), .ref (ad 118), .ref (ad 119), .ref (ad 120), .ref (ad 121), .int (F 21), .ref (ad 123), .ref (ad 124), .ref (ad 125), .ref (ad 126), .int (F 26), .ref (ad 128), .ref (ad 129), .ref (ad 130), .ref (ad 131), .ref (ad 132), .int (F 32), .ref (ad 134)]) := hM32.2.1
          rw [h1] at eM
          refine lv_if_eq (tgt := 41) hx hb dX8_read_35 (by decide) (fun c_35 => ?_) (fun c_35 => ?_)
          · refine lv_aload_n hx hb dX8_read_41 rfl (lv_at hl 1 rfl) ?_
            refine lv_iconst (v := 0) hx hb dX8_read_42 (by decide) ?_
            refine pv_put (ci := 10) (v := .int 0) (ty := .int) (C := RX8) (T := TX8) (N := 34) hx hb hts hinX8 tyX8 tyX8_ok nmX8 hown hK hP hD hS hM.1 eM rfl 1 (by decide) (hts (.fieldLink RX8 94 "StorageChargeModel" "signs" "I") (by decide +kernel)) (fun _ h9 => h9) rfl (by decide +kernel) rfl rfl (Nat.le_of_ble_eq_true rfl) dX8_read_43 (fun H locs hP hD hS => ?_)
            obtain ⟨G_43, eG_43⟩ : ∃ gg9 : Nat → va_E, gg9 = va_up g32 100 (.inr (10, [.int 0, .int 0, .ref (ad 103), .int (F 3), .ref (ad 105), .ref (ad 106), .ref (ad 107), .ref (ad 108), .int (nI i), .ref (ad 110), .ref (ad 111), .ref (ad 112), .ref (ad 113), .int (nI p2), .int (F 14), .ref (ad 116), .ref (ad 117), .ref (ad 118), .ref (ad 119), .ref (ad 120), .ref (ad 121), .int (F 21), .ref (ad 123), .ref (ad 124), .ref (ad 125), .ref (ad 126), .int (F 26), .ref (ad 128), .ref (ad 129), .ref (ad 130), .ref (ad 131), .ref (ad 132), .int (F 32), .ref (ad 134)])) := ⟨_, rfl⟩
            have hP : va_P D vwCl (wl Ls ad G_43) H := by rw [eG_43]; exact hP
            have hD : va_D (fun q => b0 ≤ q) (wl Ls ad G_43) := by rw [eG_43]; exact hD
            have eM : G_43 100 = .inr (10, [.int 0, .int 0, .ref (ad 103), .int (F 3), .ref (ad 105), .ref (ad 106), .ref (ad 107), .ref (ad 108), .int (nI i), .ref (ad 110), .ref (ad 111), .ref (ad 112), .ref (ad 113), .int (nI p2), .int (F 14), .ref (ad 116), .ref (ad 117), .ref (ad 118), .ref (ad 119), .ref (ad 120), .ref (ad 121), .int (F 21), .ref (ad 123), .ref (ad 124), .ref (ad 125), .ref (ad 126), .int (F 26), .ref (ad 128), .ref (ad 129), .ref (ad 130), .ref (ad 131), .ref (ad 132), .int (F 32), .ref (ad 134)]) := by rw [eG_43]; exact va_up_self _ _ _
            refine lv_iconst (v := (-1)) hx hb dX8_read_46 (by decide) ?_
            refine lv_iload_n hx hb dX8_read_47 rfl (lv_at hl 0 rfl) ?_
            refine lv_isub hx hb dX8_read_48 ?_
            refine W.widen (k := 0) (n := 0) (Nat.le_of_ble_eq_true rfl) (Nat.le_of_ble_eq_true rfl) ?_
            exact W.iret (v := ((-1) - x_30)) hx hb hr (fun t ht hW => ⟨⟨((-1) - x_30), wl Ls ad G_43, rfl, ⟨i, hi, hall, Or.inr ⟨hlt, hbad, by rw [ex_30], G_43, _, _, rfl, ModelAt_w (F2 := va_up (rF F p2 i) 1 0) (A2 := rA A (mrd (A 2) sg (0, A 9, A 10, A 11, A 12) i)) hM32 eM (fun k hk => Or.inl ⟨by rw [eG_43, va_up_ne _ _ (by omega)], rfl⟩), fun j h9 => by rw [eG_43, va_up_ne _ _ (by omega)]; exact (hfr32 j h9).trans (hfr1 j h9), rfl, rfl, fun k h0 h1 h3 h8 h13 => by rw [va_up_ne _ _ h1, rF, va_up_ne _ _ h8, va_up_ne _ _ h13, va_up_ne _ _ h0], fun k _ _ _ _ h9 h10 h11 h12 => by rw [rA, va_up_ne _ _ h12, va_up_ne _ _ h11, va_up_ne _ _ h10, va_up_ne _ _ h9], rfl, rfl, rfl, rfl, rfl⟩⟩, by rw [ht]; exact hP, hD⟩, hS.F ht⟩) hS.2.2 dX8_read_49
          · exact absurd rfl c_35
  have hl := lv_entry ([.ref (ad 100)]) (n := 2) (Nat.le_of_ble_eq_true rfl)
  rw [lg_entry_eq]
  generalize (lg_sl ([.ref (ad 100)]) ++ List.replicate (2 - (lg_sl ([.ref (ad 100)])).length) Slot.unset).toArray = ls at hl ⊢
  have hl : lv_has ls 2 [(0, .ref (ad 100))] := hl
  refine lv_aload_n hx hb dX8_read_0 rfl (lv_at hl 0 rfl) ?_
  refine lv_iconst (v := 0) hx hb dX8_read_1 (by decide) ?_
  refine pv_put (ci := 10) (v := .int 0) (ty := .int) (C := RX8) (T := TX8) (N := 34) hx hb hts hinX8 tyX8 tyX8_ok nmX8 hown hK hP hD hS hM.1 eM rfl 0 (by decide) (hts (.fieldLink RX8 86 "StorageChargeModel" "code" "I") (by decide +kernel)) (fun _ h9 => h9) rfl (by decide +kernel) rfl rfl (Nat.le_of_ble_eq_true rfl) dX8_read_2 (fun H locs hP hD hS => ?_)
  obtain ⟨G_2, eG_2⟩ : ∃ gg9 : Nat → va_E, gg9 = va_up G 100 (.inr (10, [.int 0, .int (nI sg), .ref (ad 103), .int (F 3), .ref (ad 105), .ref (ad 106), .ref (ad 107), .ref (ad 108), .int (F 8), .ref (ad 110), .ref (ad 111), .ref (ad 112), .ref (ad 113), .int (F 13), .int (F 14), .ref (ad 116), .ref (ad 117), .ref (ad 118), .ref (ad 119), .ref (ad 120), .ref (ad 121), .int (F 21), .ref (ad 123), .ref (ad 124), .ref (ad 125), .ref (ad 126), .int (F 26), .ref (ad 128), .ref (ad 129), .ref (ad 130), .ref (ad 131), .ref (ad 132), .int (F 32), .ref (ad 134)])) := ⟨_, rfl⟩
  have hP : va_P D vwCl (wl Ls ad G_2) H := by rw [eG_2]; exact hP
  have hD : va_D (fun q => b0 ≤ q) (wl Ls ad G_2) := by rw [eG_2]; exact hD
  have eM : G_2 100 = .inr (10, [.int 0, .int (nI sg), .ref (ad 103), .int (F 3), .ref (ad 105), .ref (ad 106), .ref (ad 107), .ref (ad 108), .int (F 8), .ref (ad 110), .ref (ad 111), .ref (ad 112), .ref (ad 113), .int (F 13), .int (F 14), .ref (ad 116), .ref (ad 117), .ref (ad 118), .ref (ad 119), .ref (ad 120), .ref (ad 121), .int (F 21), .ref (ad 123), .ref (ad 124), .ref (ad 125), .ref (ad 126), .int (F 26), .ref (ad 128), .ref (ad 129), .ref (ad 130), .ref (ad 131), .ref (ad 132), .int (F 32), .ref (ad 134)]) := by rw [eG_2]; exact va_up_self _ _ _
  refine lv_aload_n hx hb dX8_read_5 rfl (lv_at hl 0 rfl) ?_
  refine lv_iconst (v := 0) hx hb dX8_read_6 (by decide) ?_
  refine pv_put (ci := 10) (v := .int 0) (ty := .int) (C := RX8) (T := TX8) (N := 34) hx hb hts hinX8 tyX8 tyX8_ok nmX8 hown hK hP hD hS hM.1 eM rfl 13 (by decide) (hts (.fieldLink RX8 97 "StorageChargeModel" "at" "I") (by decide +kernel)) (fun _ h9 => h9) rfl (by decide +kernel) rfl rfl (Nat.le_of_ble_eq_true rfl) dX8_read_7 (fun H locs hP hD hS => ?_)
  obtain ⟨G_7, eG_7⟩ : ∃ gg9 : Nat → va_E, gg9 = va_up G_2 100 (.inr (10, [.int 0, .int (nI sg), .ref (ad 103), .int (F 3), .ref (ad 105), .ref (ad 106), .ref (ad 107), .ref (ad 108), .int (F 8), .ref (ad 110), .ref (ad 111), .ref (ad 112), .ref (ad 113), .int 0, .int (F 14), .ref (ad 116), .ref (ad 117), .ref (ad 118), .ref (ad 119), .ref (ad 120), .ref (ad 121), .int (F 21), .ref (ad 123), .ref (ad 124), .ref (ad 125), .ref (ad 126), .int (F 26), .ref (ad 128), .ref (ad 129), .ref (ad 130), .ref (ad 131), .ref (ad 132), .int (F 32), .ref (ad 134)])) := ⟨_, rfl⟩
  have hP : va_P D vwCl (wl Ls ad G_7) H := by rw [eG_7]; exact hP
  have hD : va_D (fun q => b0 ≤ q) (wl Ls ad G_7) := by rw [eG_7]; exact hD
  have eM : G_7 100 = .inr (10, [.int 0, .int (nI sg), .ref (ad 103), .int (F 3), .ref (ad 105), .ref (ad 106), .ref (ad 107), .ref (ad 108), .int (F 8), .ref (ad 110), .ref (ad 111), .ref (ad 112), .ref (ad 113), .int 0, .int (F 14), .ref (ad 116), .ref (ad 117), .ref (ad 118), .ref (ad 119), .ref (ad 120), .ref (ad 121), .int (F 21), .ref (ad 123), .ref (ad 124), .ref (ad 125), .ref (ad 126), .int (F 26), .ref (ad 128), .ref (ad 129), .ref (ad 130), .ref (ad 131), .ref (ad 132), .int (F 32), .ref (ad 134)]) := by rw [eG_7]; exact va_up_self _ _ _
  refine lv_aload_n hx hb dX8_read_10 rfl (lv_at hl 0 rfl) ?_
  refine lv_iconst (v := 0) hx hb dX8_read_11 (by decide) ?_
  refine pv_put (ci := 10) (v := .int 0) (ty := .int) (C := RX8) (T := TX8) (N := 34) hx hb hts hinX8 tyX8 tyX8_ok nmX8 hown hK hP hD hS hM.1 eM rfl 8 (by decide) (hts (.fieldLink RX8 104 "StorageChargeModel" "fresh" "I") (by decide +kernel)) (fun _ h9 => h9) rfl (by decide +kernel) rfl rfl (Nat.le_of_ble_eq_true rfl) dX8_read_12 (fun H locs hP hD hS => ?_)
  obtain ⟨G_12, eG_12⟩ : ∃ gg9 : Nat → va_E, gg9 = va_up G_7 100 (.inr (10, [.int 0, .int (nI sg), .ref (ad 103), .int (F 3), .ref (ad 105), .ref (ad 106), .ref (ad 107), .ref (ad 108), .int 0, .ref (ad 110), .ref (ad 111), .ref (ad 112), .ref (ad 113), .int 0, .int (F 14), .ref (ad 116), .ref (ad 117), .ref (ad 118), .ref (ad 119), .ref (ad 120), .ref (ad 121), .int (F 21), .ref (ad 123), .ref (ad 124), .ref (ad 125), .ref (ad 126), .int (F 26), .ref (ad 128), .ref (ad 129), .ref (ad 130), .ref (ad 131), .ref (ad 132), .int (F 32), .ref (ad 134)])) := ⟨_, rfl⟩
  have hP : va_P D vwCl (wl Ls ad G_12) H := by rw [eG_12]; exact hP
  have hD : va_D (fun q => b0 ≤ q) (wl Ls ad G_12) := by rw [eG_12]; exact hD
  have eM : G_12 100 = .inr (10, [.int 0, .int (nI sg), .ref (ad 103), .int (F 3), .ref (ad 105), .ref (ad 106), .ref (ad 107), .ref (ad 108), .int 0, .ref (ad 110), .ref (ad 111), .ref (ad 112), .ref (ad 113), .int 0, .int (F 14), .ref (ad 116), .ref (ad 117), .ref (ad 118), .ref (ad 119), .ref (ad 120), .ref (ad 121), .int (F 21), .ref (ad 123), .ref (ad 124), .ref (ad 125), .ref (ad 126), .int (F 26), .ref (ad 128), .ref (ad 129), .ref (ad 130), .ref (ad 131), .ref (ad 132), .int (F 32), .ref (ad 134)]) := by rw [eG_12]; exact va_up_self _ _ _
  have hM12 : ModelAt y Ls ad G_12 (rF F (mrd (A 2) sg (0, A 9, A 10, A 11, A 12) 0).1 0) (rA A (mrd (A 2) sg (0, A 9, A 10, A 11, A 12) 0)) := ModelAt_w hM (eM.trans (by rw [← h1]; rfl)) (fun k hk => Or.inl ⟨by rw [eG_12, va_up_ne _ _ (by omega), eG_7, va_up_ne _ _ (by omega), eG_2, va_up_ne _ _ (by omega)], rA_0 k⟩)
  exact loop15 61 0 G_12 (by decide) (by decide) (fun q h => absurd h (Nat.not_lt_zero q)) (Nat.zero_le _) hM12 (fun j h9 => by rw [eG_12, va_up_ne _ _ (by omega), eG_7, va_up_ne _ _ (by omega), eG_2, va_up_ne _ _ (by omega)]) _ _ hP hD hS ls (lv_sub hl [0] rfl)
