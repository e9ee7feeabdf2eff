/-! the model's line and read -/
theorem va_up_twice {α : Type} (f : Nat → α) (k : Nat) (a b : α) : va_up (va_up f k a) k b = va_up f k b := by
  funext j
  by_cases h : j = k
  · subst h; rw [va_up_self, va_up_self]
  · rw [va_up_ne _ _ h, va_up_ne _ _ h, va_up_ne _ _ h]
def mP3 (f : Nat → Int32) (len pl : Nat) : Nat := if nx f len pl = 77 then mnP f len (pl + 1) else mnP f len (mnP f len (pl + 1))
def mW (f : Nat → Int32) (len pl : Nat) : Int32 := if nx f len pl = 77 then 0 else mnV f len (mnP f len (pl + 1))
def mN (f : Nat → Int32) (len pl : Nat) : Int32 := mnV f len (mP3 f len pl)
def mP4 (f : Nat → Int32) (len pl : Nat) : Nat := mnP f len (mP3 f len pl)
def mLet (l : Int32) : Prop := l = 83 ∨ l = 72 ∨ l = 77 ∨ l = 86
def mGood (l w n : Int32) : Prop := if l = 77 then n ≤ 10000 else if l = 86 then (1 ≤ w ∧ w ≤ 9000) ∧ n ≤ 100 else inR w 4 ∧ n ≤ 10000
def mPre (f : Nat → Int32) (len pl fr : Nat) : Prop := mLet (nx f len pl) ∧ inR (mnV f len (pl + 1)) 7 ∧ nx f len (mP4 f len pl) = 10 ∧ fr ≠ 60 ∧ 0 ≤ mW f len pl ∧ 0 ≤ mN f len pl
def mOK (f : Nat → Int32) (len pl fr : Nat) (L O Wh : Nat → Int32) : Prop := mPre f len pl fr ∧ mGood (nx f len pl) (mW f len pl) (mN f len pl) ∧ ¬ mHas L O Wh (nx f len pl) (mnV f len (pl + 1)) (mW f len pl) fr
theorem mLet_in {f : Nat → Int32} {len pl : Nat} (h : mLet (nx f len pl)) : pl < len := nx_in (fun e => by rw [e] at h; rcases h with h | h | h | h <;> exact absurd h (by decide))
theorem mP3_le {f : Nat → Int32} {len pl : Nat} (h : pl < len) : mP3 f len pl ≤ len := by
  rw [mP3]
  split
  · exact mnP_le h
  · exact mnP_le (mnP_le h)

set_option maxHeartbeats 4000000 in
set_option maxRecDepth 100000 in
/-- line -/
theorem c_X8_line (l : Launch) (hl0 : l.stackTraces = false) (D : va_G) (y : Nat → ClassId) (b0 : Nat) (Ls : List Nat) (ad : Nat → Nat) (G : Nat → va_E) (F : Nat → Int32) (A : Nat → Nat → Int32) (hM : ModelAt y Ls ad G F A) (sg : Nat) (h1 : F 1 = nI sg) (fr : Nat) (h8 : F 8 = nI fr) (pl : Nat) (h13 : F 13 = nI pl) (hsg : sg ≤ 400) (hpl : pl ≤ sg) (hfr0 : fr ≤ 60) : Met l yX8_line wsX8_line ({ frames := 2, cells := 0, slots := 0, locals := 44 }) (va_Pc [.ref (ad 100)] (WdM D y b0 (wl Ls ad G))) (va_Qi (fun (r : Int32) (u : va_W) => (r = 1 ∧ mOK (A 2) sg pl fr (A 9) (A 10) (A 11) ∧ ∃ G2, u = wl Ls ad G2 ∧ ModelAt y Ls ad G2 (va_up (va_up F 13 (nI (mP4 (A 2) sg pl + 1))) 8 (nI (fr + 1))) (va_up (va_up (va_up (va_up A 9 (upd (A 9) fr (nx (A 2) sg pl))) 10 (upd (A 10) fr (mnV (A 2) sg (pl + 1)))) 11 (upd (A 11) fr (mW (A 2) sg pl))) 12 (upd (A 12) fr (mN (A 2) sg pl))) ∧ (∀ j, (j < 100 ∨ 134 < j) → G2 j = G j)) ∨ (r = 0 ∧ ¬ mOK (A 2) sg pl fr (A 9) (A 10) (A 11) ∧ ∃ G2 p2, u = wl Ls ad G2 ∧ ModelAt y Ls ad G2 (va_up F 13 (nI p2)) A ∧ (∀ j, (j < 100 ∨ 134 < j) → G2 j = G j))) (WB D b0) (fun q => b0 ≤ q)) 0 0 (fun q => b0 ≤ q) := by
  refine Met.ofW (cc := cX8_line) (maxL := 6) (ret := (some .boolean)) (by decide) rfl ?_
  intro p e s m args below meth c s₁ B hml hv
  obtain ⟨rfl, ⟨hP, hK, hN⟩, hD, hb0, hT⟩ := hv
  have hx := B.exec
  have hb := B.bytes
  have hr := B.returns
  have hts := atoms_spec (ws := wsX8_line) B.pre
  have hown : s.vm.findClass RX8 = some m.cls := findClass_of_methodNamed B.named
  have hlocks := B.notSynchronized
  have hS : va_S (fun q => b0 ≤ q) s.heap s.heap [] := va_S.rf
  have hinX8 : ∀ w ∈ wsX80, w ∈ wsX8_line := by decide +kernel
  have eM : G 100 = .inr (10, [.int (F 0), .int (nI sg), .ref (ad 103), .int (F 3), .ref (ad 105), .ref (ad 106), .ref (ad 107), .ref (ad 108), .int (nI fr), .ref (ad 110), .ref (ad 111), .ref (ad 112), .ref (ad 113), .int (nI pl), .int (F 14), .ref (ad 116), .ref (ad 117), .ref (ad 118), .ref (ad 119), .ref (ad 120), .ref (ad 121), .int (F 21), .ref (ad 123), .ref (ad 124), .ref (ad 125), .ref (ad 126), .int (F 26), .ref (ad 128), .ref (ad 129), .ref (ad 130), .ref (ad 131), .ref (ad 132), .int (F 32), .ref (ad 134)]) := hM.2.1.trans (by rw [mfs, h1, h8, h13])
  have loop187 : ∀ (n : Nat) (g l1 x2 x3 x4 : Int32) (G1 : Nat → va_E), 0 < n → l1 = nx (A 2) sg pl → x2 = mnV (A 2) sg (pl + 1) → x3 = mW (A 2) sg pl → x4 = mN (A 2) sg pl → mPre (A 2) sg pl fr → ((g = 1 ∧ mGood l1 x3 x4) ∨ (g = 0 ∧ ¬ mGood l1 x3 x4)) → ModelAt y Ls ad G1 (va_up F 13 (nI (mP4 (A 2) sg pl + 1))) A → (∀ j, (j < 100 ∨ 134 < j) → G1 j = G j) → ∀ (H : Heap) (locs : List Loc), va_P D vwCl (wl Ls ad G1) H → va_D (fun q => b0 ≤ q) (wl Ls ad G1) → va_S (fun q => b0 ≤ q) s.heap H locs → ∀ ls : Array Slot, lv_has ls 6 [(0, .ref (ad 100)), (1, .int l1), (2, .int x2), (3, .int x3), (4, .int x4)] → W p l e (headSpec wsX8_line ({ frames := 2, cells := 0, slots := 0, locals := 44 })).room s m ([.ref (ad 100)] : List Value).toArray below meth c H locs 0 0 (MQ below (va_Qi (fun (r : Int32) (u : va_W) => (r = 1 ∧ mOK (A 2) sg pl fr (A 9) (A 10) (A 11) ∧ ∃ G2, u = wl Ls ad G2 ∧ ModelAt y Ls ad G2 (va_up (va_up F 13 (nI (mP4 (A 2) sg pl + 1))) 8 (nI (fr + 1))) (va_up (va_up (va_up (va_up A 9 (upd (A 9) fr (nx (A 2) sg pl))) 10 (upd (A 10) fr (mnV (A 2) sg (pl + 1)))) 11 (upd (A 11) fr (mW (A 2) sg pl))) 12 (upd (A 12) fr (mN (A 2) sg pl))) ∧ (∀ j, (j < 100 ∨ 134 < j) → G2 j = G j)) ∨ (r = 0 ∧ ¬ mOK (A 2) sg pl fr (A 9) (A 10) (A 11) ∧ ∃ G2 p2, u = wl Ls ad G2 ∧ ModelAt y Ls ad G2 (va_up F 13 (nI p2)) A ∧ (∀ j, (j < 100 ∨ 134 < j) → G2 j = G j))) (WB D b0) (fun q => b0 ≤ q)) ([.ref (ad 100)] : List Value).toArray s 0 0 (fun q => b0 ≤ q)) (F0 m 187 ls [.int g]) := by
    intro n
    induction n with
    | zero =>
      intro g l1 x2 x3 x4 G1 hn; exact absurd hn (by decide)
    | succ n ih187 =>
      intro g l1 x2 x3 x4 G1 hn el e2 e3 e4 hpre hg hM1 hfr1 H locs hP hD hS ls hl
      have hfr60 : fr < 60 := by have := hpre.2.2.2.1; omega
      have eM : G1 100 = .inr (10, [.int (F 0), .int (F 1), .ref (ad 103), .int (F 3), .ref (ad 105), .ref (ad 106), .ref (ad 107), .ref (ad 108), .int (F 8), .ref (ad 110), .ref (ad 111), .ref (ad 112), .ref (ad 113), .int (nI (mP4 (A 2) sg pl + 1)), .int (F 14), .ref (ad 116), .ref (ad 117), .ref (ad 118), .ref (ad 119), .ref (ad 120), .ref (ad 121), .int (F 21), .ref (ad 123), .ref (ad 124), .ref (ad 125), .ref (ad 126), .int (F 26), .ref (ad 128), .ref (ad 129), .ref (ad 130), .ref (ad 131), .ref (ad 132), .int (F 32), .ref (ad 134)]) := hM1.2.1
      rw [h1, h8] at eM
      obtain ⟨j9, a9⟩ : 110 ∈ Ls ∧ G1 110 = .inl (y 0, 60, .inl (A 9)) := hM1.2.2 9 (by decide)
      obtain ⟨j10, a10⟩ : 111 ∈ Ls ∧ G1 111 = .inl (y 0, 60, .inl (A 10)) := hM1.2.2 10 (by decide)
      obtain ⟨j11, a11⟩ : 112 ∈ Ls ∧ G1 112 = .inl (y 0, 60, .inl (A 11)) := hM1.2.2 11 (by decide)
      obtain ⟨j12, a12⟩ : 113 ∈ Ls ∧ G1 113 = .inl (y 0, 60, .inl (A 12)) := hM1.2.2 12 (by decide)
      refine lv_istore (lv' := [(5, .int g), (0, .ref (ad 100)), (1, .int l1), (2, .int x2), (3, .int x3), (4, .int x4)]) hx hb dX8_line_187 hl (by decide) rfl (fun ls hl => ?_)
      refine lv_iload hx hb dX8_line_189 (lv_at hl 0 rfl) ?_
      refine lv_if_eq (tgt := 204) hx hb dX8_line_191 (by decide) (fun c_191 => ?_) (fun c_191 => ?_)
      · refine lv_iconst (v := 0) hx hb dX8_line_204 (by decide) ?_
        refine W.widen (k := 0) (n := 0) (Nat.le_of_ble_eq_true rfl) (Nat.le_of_ble_eq_true rfl) ?_
        exact W.zret (v := 0) hx hb hr (by first | rfl | decide | (simp [narrow]; done) | assumption) (fun t ht hW => ⟨⟨0, wl Ls ad G1, rfl, Or.inr ⟨rfl, fun h => (by first | exact absurd h.2.1 (hg.elim (fun h9 => absurd (h9.1.symm.trans c_191) (by decide)) (fun h9 => by rw [← el, ← e3, ← e4]; exact h9.2)) | exact absurd (hr_198.elim (fun h9 => h9.2) (fun h9 => absurd h9.1 c_201)) (by rw [el, e2, e3]; exact h.2.2)), G1, _, rfl, hM1, hfr1⟩, by rw [ht]; exact hP, hD⟩, hS.F ht⟩) hS.2.2 dX8_line_205
      · refine lv_aload_n hx hb dX8_line_194 rfl (lv_at hl 1 rfl) ?_
        refine lv_iload_n hx hb dX8_line_195 rfl (lv_at hl 2 rfl) ?_
        refine lv_iload_n hx hb dX8_line_196 rfl (lv_at hl 3 rfl) ?_
        refine lv_iload_n hx hb dX8_line_197 rfl (lv_at hl 4 rfl) ?_
        refine vp_callSi (va_Run.run (va_runV (As := [.int l1, .int x2, .int x3]) (rest := []) ⟨hx, hb, hml, hown, hts⟩ (c_X8_isAgain l D y Ls ad G1 (va_up F 13 (nI (mP4 (A 2) sg pl + 1))) A hM1 fr ((va_up_ne _ _ (by decide)).trans h8) (by omega) l1 x2 x3) (cwV 3 hts gX8_line_X8_isAgain rfl rfl rfl (by decide +kernel) ⟨Nat.le_of_ble_eq_true rfl, Nat.le_of_ble_eq_true rfl⟩) ⟨Wd_blind, Wd_recv hK hP (ci := 10) rfl hM.1 eM, Wd_at hP hK hN⟩ rfl rfl hl.1 rfl (lv_room (Nat.le_of_ble_eq_true rfl)) dX8_line_198 ⟨(Nat.le_of_ble_eq_true rfl), (Nat.le_of_ble_eq_true rfl)⟩)) (fun r_198 hr_198 => ?_)
        refine lv_if_eq (tgt := 206) hx hb dX8_line_201 (by decide) (fun c_201 => ?_) (fun c_201 => ?_)
        · refine lv_aload_n hx hb dX8_line_206 rfl (lv_at hl 1 rfl) ?_
          refine pv_get (ci := 10) (C := RX8) (T := TX8) (N := 34) hx hb hts hinX8 hown hK hP hM.1 eM rfl 9 (by decide) (hts (.fieldLink RX8 25 "StorageChargeModel" "newLetter" "[I") (by decide +kernel)) (fun _ h9 => h9) rfl dX8_line_207 ?_
          refine lv_aload_n hx hb dX8_line_210 rfl (lv_at hl 1 rfl) ?_
          refine pv_get (ci := 10) (C := RX8) (T := TX8) (N := 34) hx hb hts hinX8 hown hK hP hM.1 eM rfl 8 (by decide) (hts (.fieldLink RX8 104 "StorageChargeModel" "fresh" "I") (by decide +kernel)) (fun _ h9 => h9) rfl dX8_line_211 ?_
          refine lv_iload_n hx hb dX8_line_214 rfl (lv_at hl 2 rfl) ?_
          refine pv_iast hx hb hK hP hD hS j9 0 a9 rfl (k := fr) rfl (by omega) (by decide) dX8_line_215 (fun H locs hP hD hS => ?_)
          obtain ⟨G_215, eG_215⟩ : ∃ gg9 : Nat → va_E, gg9 = va_up G1 110 (.inl (y 0, 60, .inl (upd (A 9) fr l1))) := ⟨_, rfl⟩
          have hP : va_P D vwCl (wl Ls ad G_215) H := by rw [eG_215]; exact hP
          have hD : va_D (fun q => b0 ≤ q) (wl Ls ad G_215) := by rw [eG_215]; exact hD
          have eM : G_215 100 = .inr (10, [.int (F 0), .int (nI sg), .ref (ad 103), .int (F 3), .ref (ad 105), .ref (ad 106), .ref (ad 107), .ref (ad 108), .int (nI fr), .ref (ad 110), .ref (ad 111), .ref (ad 112), .ref (ad 113), .int (nI (mP4 (A 2) sg pl + 1)), .int (F 14), .ref (ad 116), .ref (ad 117), .ref (ad 118), .ref (ad 119), .ref (ad 120), .ref (ad 121), .int (F 21), .ref (ad 123), .ref (ad 124), .ref (ad 125), .ref (ad 126), .int (F 26), .ref (ad 128), .ref (ad 129), .ref (ad 130), .ref (ad 131), .ref (ad 132), .int (F 32), .ref (ad 134)]) := by rw [eG_215, va_up_ne _ _ (by omega)]; exact eM
          have a10 : G_215 111 = .inl (y 0, 60, .inl (A 10)) := by rw [eG_215, va_up_ne _ _ (by omega)]; exact a10
          have a11 : G_215 112 = .inl (y 0, 60, .inl (A 11)) := by rw [eG_215, va_up_ne _ _ (by omega)]; exact a11
          have a12 : G_215 113 = .inl (y 0, 60, .inl (A 12)) := by rw [eG_215, va_up_ne _ _ (by omega)]; exact a12
          have a9 : G_215 110 = .inl (y 0, 60, .inl (upd (A 9) fr l1)) := by rw [eG_215]; exact va_up_self _ _ _
          refine lv_aload_n hx hb dX8_line_216 rfl (lv_at hl 1 rfl) ?_
          refine pv_get (ci := 10) (C := RX8) (T := TX8) (N := 34) hx hb hts hinX8 hown hK hP hM.1 eM rfl 10 (by decide) (hts (.fieldLink RX8 28 "StorageChargeModel" "newOwner" "[I") (by decide +kernel)) (fun _ h9 => h9) rfl dX8_line_217 ?_
          refine lv_aload_n hx hb dX8_line_220 rfl (lv_at hl 1 rfl) ?_
          refine pv_get (ci := 10) (C := RX8) (T := TX8) (N := 34) hx hb hts hinX8 hown hK hP hM.1 eM rfl 8 (by decide) (hts (.fieldLink RX8 104 "StorageChargeModel" "fresh" "I") (by decide +kernel)) (fun _ h9 => h9) rfl dX8_line_221 ?_
          refine lv_iload_n hx hb dX8_line_224 rfl (lv_at hl 3 rfl) ?_
          refine pv_iast hx hb hK hP hD hS j10 0 a10 rfl (k := fr) rfl (by omega) (by decide) dX8_line_225 (fun H locs hP hD hS => ?_)
          obtain ⟨G_225, eG_225⟩ : ∃ gg9 : Nat → va_E, gg9 = va_up G_215 111 (.inl (y 0, 60, .inl (upd (A 10) fr x2))) := ⟨_, rfl⟩
          have hP : va_P D vwCl (wl Ls ad G_225) H := by rw [eG_225]; exact hP
          have hD : va_D (fun q => b0 ≤ q) (wl Ls ad G_225) := by rw [eG_225]; exact hD
          have eM : G_225 100 = .inr (10, [.int (F 0), .int (nI sg), .ref (ad 103), .int (F 3), .ref (ad 105), .ref (ad 106), .ref (ad 107), .ref (ad 108), .int (nI fr), .ref (ad 110), .ref (ad 111), .ref (ad 112), .ref (ad 113), .int (nI (mP4 (A 2) sg pl + 1)), .int (F 14), .ref (ad 116), .ref (ad 117), .ref (ad 118), .ref (ad 119), .ref (ad 120), .ref (ad 121), .int (F 21), .ref (ad 123), .ref (ad 124), .ref (ad 125), .ref (ad 126), .int (F 26), .ref (ad 128), .ref (ad 129), .ref (ad 130), .ref (ad 131), .ref (ad 132), .int (F 32), .ref (ad 134)]) := by rw [eG_225, va_up_ne _ _ (by omega)]; exact eM
          have a9 : G_225 110 = .inl (y 0, 60, .inl (upd (A 9) fr l1)) := by rw [eG_225, va_up_ne _ _ (by omega)]; exact a9
          have a11 : G_225 112 = .inl (y 0, 60, .inl (A 11)) := by rw [eG_225, va_up_ne _ _ (by omega)]; exact a11
          have a12 : G_225 113 = .inl (y 0, 60, .inl (A 12)) := by rw [eG_225, va_up_ne _ _ (by omega)]; exact a12
          have a10 : G_225 111 = .inl (y 0, 60, .inl (upd (A 10) fr x2)) := by rw [eG_225]; exact va_up_self _ _ _
          refine lv_aload_n hx hb dX8_line_226 rfl (lv_at hl 1 rfl) ?_
          refine pv_get (ci := 10) (C := RX8) (T := TX8) (N := 34) hx hb hts hinX8 hown hK hP hM.1 eM rfl 11 (by decide) (hts (.fieldLink RX8 31 "StorageChargeModel" "newWhat" "[I") (by decide +kernel)) (fun _ h9 => h9) rfl dX8_line_227 ?_
          refine lv_aload_n hx hb dX8_line_230 rfl (lv_at hl 1 rfl) ?_
          refine pv_get (ci := 10) (C := RX8) (T := TX8) (N := 34) hx hb hts hinX8 hown hK hP hM.1 eM rfl 8 (by decide) (hts (.fieldLink RX8 104 "StorageChargeModel" "fresh" "I") (by decide +kernel)) (fun _ h9 => h9) rfl dX8_line_231 ?_
          refine lv_iload_n hx hb dX8_line_234 rfl (lv_at hl 4 rfl) ?_
          refine pv_iast hx hb hK hP hD hS j11 0 a11 rfl (k := fr) rfl (by omega) (by decide) dX8_line_235 (fun H locs hP hD hS => ?_)
          obtain ⟨G_235, eG_235⟩ : ∃ gg9 : Nat → va_E, gg9 = va_up G_225 112 (.inl (y 0, 60, .inl (upd (A 11) fr x3))) := ⟨_, rfl⟩
          have hP : va_P D vwCl (wl Ls ad G_235) H := by rw [eG_235]; exact hP
          have hD : va_D (fun q => b0 ≤ q) (wl Ls ad G_235) := by rw [eG_235]; exact hD
          have eM : G_235 100 = .inr (10, [.int (F 0), .int (nI sg), .ref (ad 103), .int (F 3), .ref (ad 105), .ref (ad 106), .ref (ad 107), .ref (ad 108), .int (nI fr), .ref (ad 110), .ref (ad 111), .ref (ad 112), .ref (ad 113), .int (nI (mP4 (A 2) sg pl + 1)), .int (F 14), .ref (ad 116), .ref (ad 117), .ref (ad 118), .ref (ad 119), .ref (ad 120), .ref (ad 121), .int (F 21), .ref (ad 123), .ref (ad 124), .ref (ad 125), .ref (ad 126), .int (F 26), .ref (ad 128), .ref (ad 129), .ref (ad 130), .ref (ad 131), .ref (ad 132), .int (F 32), .ref (ad 134)]) := by rw [eG_235, va_up_ne _ _ (by omega)]; exact eM
          have a9 : G_235 110 = .inl (y 0, 60, .inl (upd (A 9) fr l1)) := by rw [eG_235, va_up_ne _ _ (by omega)]; exact a9
          have a10 : G_235 111 = .inl (y 0, 60, .inl (upd (A 10) fr x2)) := by rw [eG_235, va_up_ne _ _ (by omega)]; exact a10
          have a12 : G_235 113 = .inl (y 0, 60, .inl (A 12)) := by rw [eG_235, va_up_ne _ _ (by omega)]; exact a12
          have a11 : G_235 112 = .inl (y 0, 60, .inl (upd (A 11) fr x3)) := by rw [eG_235]; exact va_up_self _ _ _
          refine lv_aload_n hx hb dX8_line_236 rfl (lv_at hl 1 rfl) ?_
          refine pv_get (ci := 10) (C := RX8) (T := TX8) (N := 34) hx hb hts hinX8 hown hK hP hM.1 eM rfl 12 (by decide) (hts (.fieldLink RX8 34 "StorageChargeModel" "newMuch" "[I") (by decide +kernel)) (fun _ h9 => h9) rfl dX8_line_237 ?_
          refine lv_aload_n hx hb dX8_line_240 rfl (lv_at hl 1 rfl) ?_
          refine pv_get (ci := 10) (C := RX8) (T := TX8) (N := 34) hx hb hts hinX8 hown hK hP hM.1 eM rfl 8 (by decide) (hts (.fieldLink RX8 104 "StorageChargeModel" "fresh" "I") (by decide +kernel)) (fun _ h9 => h9) rfl dX8_line_241 ?_
          refine lv_iload hx hb dX8_line_244 (lv_at hl 5 rfl) ?_
          refine pv_iast hx hb hK hP hD hS j12 0 a12 rfl (k := fr) rfl (by omega) (by decide) dX8_line_246 (fun H locs hP hD hS => ?_)
          obtain ⟨G_246, eG_246⟩ : ∃ gg9 : Nat → va_E, gg9 = va_up G_235 113 (.inl (y 0, 60, .inl (upd (A 12) fr x4))) := ⟨_, rfl⟩
          have hP : va_P D vwCl (wl Ls ad G_246) H := by rw [eG_246]; exact hP
          have hD : va_D (fun q => b0 ≤ q) (wl Ls ad G_246) := by rw [eG_246]; exact hD
          have eM : G_246 100 = .inr (10, [.int (F 0), .int (nI sg), .ref (ad 103), .int (F 3), .ref (ad 105), .ref (ad 106), .ref (ad 107), .ref (ad 108), .int (nI fr), .ref (ad 110), .ref (ad 111), .ref (ad 112), .ref (ad 113), .int (nI (mP4 (A 2) sg pl + 1)), .int (F 14), .ref (ad 116), .ref (ad 117), .ref (ad 118), .ref (ad 119), .ref (ad 120), .ref (ad 121), .int (F 21), .ref (ad 123), .ref (ad 124), .ref (ad 125), .ref (ad 126), .int (F 26), .ref (ad 128), .ref (ad 129), .ref (ad 130), .ref (ad 131), .ref (ad 132), .int (F 32), .ref (ad 134)]) := by rw [eG_246, va_up_ne _ _ (by omega)]; exact eM
          have a9 : G_246 110 = .inl (y 0, 60, .inl (upd (A 9) fr l1)) := by rw [eG_246, va_up_ne _ _ (by omega)]; exact a9
          have a10 : G_246 111 = .inl (y 0, 60, .inl (upd (A 10) fr x2)) := by rw [eG_246, va_up_ne _ _ (by omega)]; exact a10
          have a11 : G_246 112 = .inl (y 0, 60, .inl (upd (A 11) fr x3)) := by rw [eG_246, va_up_ne _ _ (by omega)]; exact a11
          have a12 : G_246 113 = .inl (y 0, 60, .inl (upd (A 12) fr x4)) := by rw [eG_246]; exact va_up_self _ _ _
          refine lv_aload_n hx hb dX8_line_247 rfl (lv_at hl 1 rfl) ?_
          refine lv_dup hx hb dX8_line_248 rfl ?_
          refine pv_get (ci := 10) (C := RX8) (T := TX8) (N := 34) hx hb hts hinX8 hown hK hP hM.1 eM rfl 8 (by decide) (hts (.fieldLink RX8 104 "StorageChargeModel" "fresh" "I") (by decide +kernel)) (fun _ h9 => h9) rfl dX8_line_249 ?_
          refine lv_iconst (v := 1) hx hb dX8_line_252 (by decide) ?_
          refine lv_iadd hx hb dX8_line_253 ?_
          refine lv_topi (fun z9 ez9 => ?_)
          obtain rfl : z9 = nI (fr + 1) := ez9.trans (nI_1 fr)
          refine pv_put (ci := 10) (v := .int (nI (fr + 1))) (ty := .int) (C := RX8) (T := TX8) (N := 34) hx hb hts hinX8 tyX8 tyX8_ok nmX8 hown hK hP hD hS hM.1 eM rfl 8 (by decide) (hts (.fieldLink RX8 104 "StorageChargeModel" "fresh" "I") (by decide +kernel)) (fun _ h9 => h9) rfl (by decide +kernel) rfl rfl (Nat.le_of_ble_eq_true rfl) dX8_line_254 (fun H locs hP hD hS => ?_)
          obtain ⟨G_254, eG_254⟩ : ∃ gg9 : Nat → va_E, gg9 = va_up G_246 100 (.inr (10, [.int (F 0), .int (nI sg), .ref (ad 103), .int (F 3), .ref (ad 105), .ref (ad 106), .ref (ad 107), .ref (ad 108), .int (nI (fr + 1)), .ref (ad 110), .ref (ad 111), .ref (ad 112), .ref (ad 113), .int (nI (mP4 (A 2) sg pl + 1)), .int (F 14), .ref (ad 116), .ref (ad 117), .ref (ad 118), .ref (ad 119), .ref (ad 120), .ref (ad 121), .int (F 21), .ref (ad 123), .ref (ad 124), .ref (ad 125), .ref (ad 126), .int (F 26), .ref (ad 128), .ref (ad 129), .ref (ad 130), .ref (ad 131), .ref (ad 132), .int (F 32), .ref (ad 134)])) := ⟨_, rfl⟩
          have hP : va_P D vwCl (wl Ls ad G_254) H := by rw [eG_254]; exact hP
          have hD : va_D (fun q => b0 ≤ q) (wl Ls ad G_254) := by rw [eG_254]; exact hD
          have a9 : G_254 110 = .inl (y 0, 60, .inl (upd (A 9) fr l1)) := by rw [eG_254, va_up_ne _ _ (by omega)]; exact a9
          have a10 : G_254 111 = .inl (y 0, 60, .inl (upd (A 10) fr x2)) := by rw [eG_254, va_up_ne _ _ (by omega)]; exact a10
          have a11 : G_254 112 = .inl (y 0, 60, .inl (upd (A 11) fr x3)) := by rw [eG_254, va_up_ne _ _ (by omega)]; exact a11
          have a12 : G_254 113 = .inl (y 0, 60, .inl (upd (A 12) fr x4)) := by rw [eG_254, va_up_ne _ _ (by omega)]; exact a12
          have eM : G_254 100 = .inr (10, [.int (F 0), .int (nI sg), .ref (ad 103), .int (F 3), .ref (ad 105), .ref (ad 106), .ref (ad 107), .ref (ad 108), .int (nI (fr + 1)), .ref (ad 110), .ref (ad 111), .ref (ad 112), .ref (ad 113), .int (nI (mP4 (A 2) sg pl + 1)), .int (F 14), .ref (ad 116), .ref (ad 117), .ref (ad 118), .ref (ad 119), .ref (ad 120), .ref (ad 121), .int (F 21), .ref (ad 123), .ref (ad 124), .ref (ad 125), .ref (ad 126), .int (F 26), .ref (ad 128), .ref (ad 129), .ref (ad 130), .ref (ad 131), .ref (ad 132), .int (F 32), .ref (ad 134)]) := by rw [eG_254]; exact va_up_self _ _ _
          refine lv_iconst (v := 1) hx hb dX8_line_257 (by decide) ?_
          refine W.widen (k := 0) (n := 0) (Nat.le_of_ble_eq_true rfl) (Nat.le_of_ble_eq_true rfl) ?_
          exact W.zret (v := 1) hx hb hr (by first | rfl | decide | (simp [narrow]; done) | assumption) (fun t ht hW => ⟨⟨1, wl Ls ad G_254, rfl, Or.inl ⟨rfl, ⟨hpre, by rw [← el, ← e3, ← e4]; exact hg.elim (fun h9 => h9.2) (fun h9 => absurd h9.1 c_191), by rw [← el, ← e2, ← e3]; exact hr_198.elim (fun h9 => absurd (h9.1.symm.trans c_201) (by decide)) (fun h9 => h9.2)⟩, G_254, rfl, by subst el e2 e3 e4; exact (ModelAt_w hM1 (eM.trans (by rw [← h1]; rfl)) (fun k hk => if h99 : k = 9 then Or.inr (by subst h99; exact a9) else (if h109 : k = 10 then Or.inr (by subst h109; exact a10) else (if h119 : k = 11 then Or.inr (by subst h119; exact a11) else (if h129 : k = 12 then Or.inr (by subst h129; exact a12) else (Or.inl ⟨by rw [eG_254, va_up_ne _ _ (by omega), eG_246, va_up_ne _ _ (by omega), eG_235, va_up_ne _ _ (by omega), eG_225, va_up_ne _ _ (by omega), eG_215, va_up_ne _ _ (by omega)], by rw [va_up_ne _ _ h129, va_up_ne _ _ h119, va_up_ne _ _ h109, va_up_ne _ _ h99]⟩)))))), fun j h9 => by rw [eG_254, va_up_ne _ _ (by omega), eG_246, va_up_ne _ _ (by omega), eG_235, va_up_ne _ _ (by omega), eG_225, va_up_ne _ _ (by omega), eG_215, va_up_ne _ _ (by omega)]; exact hfr1 j h9⟩, by rw [ht]; exact hP, hD⟩, hS.F ht⟩) hS.2.2 dX8_line_258
        · refine lv_iconst (v := 0) hx hb dX8_line_204 (by decide) ?_
          refine W.widen (k := 0) (n := 0) (Nat.le_of_ble_eq_true rfl) (Nat.le_of_ble_eq_true rfl) ?_
          exact W.zret (v := 0) hx hb hr (by first | rfl | decide | (simp [narrow]; done) | assumption) (fun t ht hW => ⟨⟨0, wl Ls ad G1, rfl, Or.inr ⟨rfl, fun h => (by first | exact absurd h.2.1 (hg.elim (fun h9 => absurd (h9.1.symm.trans c_191) (by decide)) (fun h9 => by rw [← el, ← e3, ← e4]; exact h9.2)) | exact absurd (hr_198.elim (fun h9 => h9.2) (fun h9 => absurd h9.1 c_201)) (by rw [el, e2, e3]; exact h.2.2)), G1, _, rfl, hM1, hfr1⟩, by rw [ht]; exact hP, hD⟩, hS.F ht⟩) hS.2.2 dX8_line_205
  have loop61 : ∀ (n : Nat) (l1 x2 x3 : Int32) (G1 : Nat → va_E), 0 < n → l1 = nx (A 2) sg pl → mLet l1 → x2 = mnV (A 2) sg (pl + 1) → x3 = mW (A 2) sg pl → ModelAt y Ls ad G1 (va_up F 13 (nI (mP3 (A 2) sg pl))) A → (∀ j, (j < 100 ∨ 134 < j) → G1 j = G j) → ∀ (H : Heap) (locs : List Loc), va_P D vwCl (wl Ls ad G1) H → va_D (fun q => b0 ≤ q) (wl Ls ad G1) → va_S (fun q => b0 ≤ q) s.heap H locs → ∀ ls : Array Slot, lv_has ls 6 [(0, .ref (ad 100)), (1, .int l1), (2, .int x2), (3, .int x3)] → W p l e (headSpec wsX8_line ({ frames := 2, cells := 0, slots := 0, locals := 44 })).room s m ([.ref (ad 100)] : List Value).toArray below meth c H locs 0 0 (MQ below (va_Qi (fun (r : Int32) (u : va_W) => (r = 1 ∧ mOK (A 2) sg pl fr (A 9) (A 10) (A 11) ∧ ∃ G2, u = wl Ls ad G2 ∧ ModelAt y Ls ad G2 (va_up (va_up F 13 (nI (mP4 (A 2) sg pl + 1))) 8 (nI (fr + 1))) (va_up (va_up (va_up (va_up A 9 (upd (A 9) fr (nx (A 2) sg pl))) 10 (upd (A 10) fr (mnV (A 2) sg (pl + 1)))) 11 (upd (A 11) fr (mW (A 2) sg pl))) 12 (upd (A 12) fr (mN (A 2) sg pl))) ∧ (∀ j, (j < 100 ∨ 134 < j) → G2 j = G j)) ∨ (r = 0 ∧ ¬ mOK (A 2) sg pl fr (A 9) (A 10) (A 11) ∧ ∃ G2 p2, u = wl Ls ad G2 ∧ ModelAt y Ls ad G2 (va_up F 13 (nI p2)) A ∧ (∀ j, (j < 100 ∨ 134 < j) → G2 j = G j))) (WB D b0) (fun q => b0 ≤ q)) ([.ref (ad 100)] : List Value).toArray s 0 0 (fun q => b0 ≤ q)) (F0 m 61 ls []) := by
    intro n
    induction n with
    | zero =>
      intro l1 x2 x3 G1 hn; exact absurd hn (by decide)
    | succ n ih61 =>
      intro l1 x2 x3 G1 hn el hlet e2 e3 hM1 hfr1 H locs hP hD hS ls hl
      have hin0 : pl < sg := mLet_in (by rw [← el]; exact hlet)
      have eM : G1 100 = .inr (10, [.int (F 0), .int (F 1), .ref (ad 103), .int (F 3), .ref (ad 105), .ref (ad 106), .ref (ad 107), .ref (ad 108), .int (F 8), .ref (ad 110), .ref (ad 111), .ref (ad 112), .ref (ad 113), .int (nI (mP3 (A 2) sg pl)), .int (F 14), .ref (ad 116), .ref (ad 117), .ref (ad 118), .ref (ad 119), .ref (ad 120), .ref (ad 121), .int (F 21), .ref (ad 123), .ref (ad 124), .ref (ad 125), .ref (ad 126), .int (F 26), .ref (ad 128), .ref (ad 129), .ref (ad 130), .ref (ad 131), .ref (ad 132), .int (F 32), .ref (ad 134)]) := hM1.2.1
      rw [h1, h8] at eM
      refine lv_aload_n hx hb dX8_line_61 rfl (lv_at hl 0 rfl) ?_
      refine va_calli (va_runV (As := []) (rest := []) ⟨hx, hb, hml, hown, hts⟩ (c_X8_number l hl0 D y b0 Ls ad G1 (va_up F 13 (nI (mP3 (A 2) sg pl))) A hM1 sg ((va_up_ne _ _ (by decide)).trans h1) (mP3 (A 2) sg pl) (va_up_self _ _ _) hsg (mP3_le hin0)) (cwV 0 hts gX8_line_X8_number rfl rfl rfl (by decide +kernel) ⟨(Nat.le_of_ble_eq_true rfl), (Nat.le_of_ble_eq_true rfl)⟩) ⟨WdM_blind, Wd_recv hK hP (ci := 10) rfl hM.1 eM, WdM_at hP hK hN hD hS hb0 hT⟩ rfl rfl hl.1 rfl (lv_room (Nat.le_of_ble_eq_true rfl)) dX8_line_62 ⟨(Nat.le_of_ble_eq_true rfl), (Nat.le_of_ble_eq_true rfl)⟩) hS (fun _ _ h => h) (fun _ h => h) (fun r_62 u62 t H locs ht hvm hw62 hB hz1 hk1 hS => ?_)
      obtain ⟨hP, hD⟩ := hB
      rw [ht] at hP
      obtain ⟨hv62, g62, rfl, hM62, hfr62⟩ := hw62
      rw [va_up_twice] at hM62
      have hfr62 : ∀ j, (j < 100 ∨ 134 < j) → g62 j = G j := fun j h9 => (hfr62 j (by omega)).trans (hfr1 j h9)
      have eM : g62 100 = .inr (10, [.int (F 0), .int (F 1), .ref (ad 103), .int (F 3), .ref (ad 105), .ref (ad 106), .ref (ad 107), .ref (ad 108), .int (F 8), .ref (ad 110), .ref (ad 111), .ref (ad 112), .ref (ad 113), .int (nI (mnP (A 2) sg (mP3 (A 2) sg pl))), .int (F 14), .ref (ad 116), .ref (ad 117), .ref (ad 118), .ref (ad 119), .ref (ad 120), .ref (ad 121), .int (F 21), .ref (ad 123), .ref (ad 124), .ref (ad 125), .ref (ad 126), .int (F 26), .ref (ad 128), .ref (ad 129), .ref (ad 130), .ref (ad 131), .ref (ad 132), .int (F 32), .ref (ad 134)]) := hM62.2.1
      rw [h1, h8] at eM
      refine lv_istore (lv' := [(4, .int r_62), (0, .ref (ad 100)), (1, .int l1), (2, .int x2), (3, .int x3)]) hx hb dX8_line_65 hl (by decide) rfl (fun ls hl => ?_)
      refine lv_iload_n hx hb dX8_line_67 rfl (lv_at hl 3 rfl) ?_
      refine vp_callSi (va_Run.run (va_runS (As := [.int x2]) (rest := []) ⟨hx, hb, hml, hown, hts⟩ (c_X8_isOwner l x2) (va_cwS 1 hts gX8_line_X8_isOwner rfl rfl rfl (by decide +kernel) ⟨Nat.le_of_ble_eq_true rfl, Nat.le_of_ble_eq_true rfl⟩) ⟨fun _ _ _ _ q => q, fun U hU hW => ⟨rfl, trivial⟩⟩ rfl rfl hl.1 rfl (lv_room (Nat.le_of_ble_eq_true rfl)) dX8_line_68 ⟨(Nat.le_of_ble_eq_true rfl), (Nat.le_of_ble_eq_true rfl)⟩)) (fun r_68 hr_68 => ?_)
      refine lv_if_eq (tgt := 101) hx hb dX8_line_71 (by decide) (fun c_71 => ?_) (fun c_71 => ?_)
      · refine lv_iconst (v := 0) hx hb dX8_line_101 (by decide) ?_
        refine W.widen (k := 0) (n := 0) (Nat.le_of_ble_eq_true rfl) (Nat.le_of_ble_eq_true rfl) ?_
        exact W.zret (v := 0) hx hb hr (by first | rfl | decide | (simp [narrow]; done) | assumption) (fun t ht hW => ⟨⟨0, wl Ls ad g62, rfl, Or.inr ⟨rfl, fun h => (by first | exact c_98 (by rw [hv62]; exact h.1.2.2.2.2.2) | exact absurd h.1.2.2.2.2.1 (by rw [← e3]; exact Int32.not_le.mpr c_93) | exact absurd ((nI_eq (by omega) (by decide)).mp (show nI fr = nI 60 from c_89)) h.1.2.2.2.1 | exact c_80 (by rw [hr_75]; exact h.1.2.2.1) | exact absurd h.1.2.1 (by rw [← e2]; exact wI_eq0.mp (by rw [← hr_68]; exact c_71))), g62, _, rfl, hM62, hfr62⟩, by rw [ht]; exact hP, hD⟩, hS.F ht⟩) hS.2.2 dX8_line_102
      · refine lv_aload_n hx hb dX8_line_74 rfl (lv_at hl 1 rfl) ?_
        refine vp_callSi (va_Run.run (va_runV (As := []) (rest := []) ⟨hx, hb, hml, hown, hts⟩ (c_X8_next l D y Ls ad g62 (va_up F 13 (nI (mP4 (A 2) sg pl))) A hM62 sg ((va_up_ne _ _ (by decide)).trans h1) (mP4 (A 2) sg pl) (va_up_self _ _ _) hsg (Nat.le_trans (mnP_le (mP3_le hin0)) hsg)) (cwV 0 hts gX8_line_X8_next rfl rfl rfl (by decide +kernel) ⟨Nat.le_of_ble_eq_true rfl, Nat.le_of_ble_eq_true rfl⟩) ⟨Wd_blind, Wd_recv hK hP (ci := 10) rfl hM.1 eM, Wd_at hP hK hN⟩ rfl rfl hl.1 rfl (lv_room (Nat.le_of_ble_eq_true rfl)) dX8_line_75 ⟨(Nat.le_of_ble_eq_true rfl), (Nat.le_of_ble_eq_true rfl)⟩)) (fun r_75 hr_75 => ?_)
        refine lv_bipush (v := 10) hx hb dX8_line_78 (by decide) ?_
        refine lv_icmp_ne (tgt := 101) hx hb dX8_line_80 (by decide) (fun c_80 => ?_) (fun c_80 => ?_)
        · refine lv_iconst (v := 0) hx hb dX8_line_101 (by decide) ?_
          refine W.widen (k := 0) (n := 0) (Nat.le_of_ble_eq_true rfl) (Nat.le_of_ble_eq_true rfl) ?_
          exact W.zret (v := 0) hx hb hr (by first | rfl | decide | (simp [narrow]; done) | assumption) (fun t ht hW => ⟨⟨0, wl Ls ad g62, rfl, Or.inr ⟨rfl, fun h => (by first | exact c_98 (by rw [hv62]; exact h.1.2.2.2.2.2) | exact absurd h.1.2.2.2.2.1 (by rw [← e3]; exact Int32.not_le.mpr c_93) | exact absurd ((nI_eq (by omega) (by decide)).mp (show nI fr = nI 60 from c_89)) h.1.2.2.2.1 | exact c_80 (by rw [hr_75]; exact h.1.2.2.1) | exact absurd h.1.2.1 (by rw [← e2]; exact wI_eq0.mp (by rw [← hr_68]; exact c_71))), g62, _, rfl, hM62, hfr62⟩, by rw [ht]; exact hP, hD⟩, hS.F ht⟩) hS.2.2 dX8_line_102
        · refine lv_aload_n hx hb dX8_line_83 rfl (lv_at hl 1 rfl) ?_
          refine pv_get (ci := 10) (C := RX8) (T := TX8) (N := 34) hx hb hts hinX8 hown hK hP hM.1 eM rfl 8 (by decide) (hts (.fieldLink RX8 104 "StorageChargeModel" "fresh" "I") (by decide +kernel)) (fun _ h9 => h9) rfl dX8_line_84 ?_
          refine lv_bipush (v := 60) hx hb dX8_line_87 (by decide) ?_
          refine lv_icmp_eq (tgt := 101) hx hb dX8_line_89 (by decide) (fun c_89 => ?_) (fun c_89 => ?_)
          · refine lv_iconst (v := 0) hx hb dX8_line_101 (by decide) ?_
            refine W.widen (k := 0) (n := 0) (Nat.le_of_ble_eq_true rfl) (Nat.le_of_ble_eq_true rfl) ?_
            exact W.zret (v := 0) hx hb hr (by first | rfl | decide | (simp [narrow]; done) | assumption) (fun t ht hW => ⟨⟨0, wl Ls ad g62, rfl, Or.inr ⟨rfl, fun h => (by first | exact c_98 (by rw [hv62]; exact h.1.2.2.2.2.2) | exact absurd h.1.2.2.2.2.1 (by rw [← e3]; exact Int32.not_le.mpr c_93) | exact absurd ((nI_eq (by omega) (by decide)).mp (show nI fr = nI 60 from c_89)) h.1.2.2.2.1 | exact c_80 (by rw [hr_75]; exact h.1.2.2.1) | exact absurd h.1.2.1 (by rw [← e2]; exact wI_eq0.mp (by rw [← hr_68]; exact c_71))), g62, _, rfl, hM62, hfr62⟩, by rw [ht]; exact hP, hD⟩, hS.F ht⟩) hS.2.2 dX8_line_102
          · refine lv_iload_n hx hb dX8_line_92 rfl (lv_at hl 4 rfl) ?_
            refine lv_if_lt (tgt := 101) hx hb dX8_line_93 (by decide) (fun c_93 => ?_) (fun c_93 => ?_)
            · refine lv_iconst (v := 0) hx hb dX8_line_101 (by decide) ?_
              refine W.widen (k := 0) (n := 0) (Nat.le_of_ble_eq_true rfl) (Nat.le_of_ble_eq_true rfl) ?_
              exact W.zret (v := 0) hx hb hr (by first | rfl | decide | (simp [narrow]; done) | assumption) (fun t ht hW => ⟨⟨0, wl Ls ad g62, rfl, Or.inr ⟨rfl, fun h => (by first | exact c_98 (by rw [hv62]; exact h.1.2.2.2.2.2) | exact absurd h.1.2.2.2.2.1 (by rw [← e3]; exact Int32.not_le.mpr c_93) | exact absurd ((nI_eq (by omega) (by decide)).mp (show nI fr = nI 60 from c_89)) h.1.2.2.2.1 | exact c_80 (by rw [hr_75]; exact h.1.2.2.1) | exact absurd h.1.2.1 (by rw [← e2]; exact wI_eq0.mp (by rw [← hr_68]; exact c_71))), g62, _, rfl, hM62, hfr62⟩, by rw [ht]; exact hP, hD⟩, hS.F ht⟩) hS.2.2 dX8_line_102
            · refine lv_iload hx hb dX8_line_96 (lv_at hl 0 rfl) ?_
              refine lv_if_ge (tgt := 103) hx hb dX8_line_98 (by decide) (fun c_98 => ?_) (fun c_98 => ?_)
              · have hpre : mPre (A 2) sg pl fr := ⟨by rw [← el]; exact hlet, by rw [← e2]; exact Decidable.byContradiction fun h => c_71 (by rw [hr_68]; exact wI_eq0.mpr h), by rw [← hr_75]; exact c_80, fun h => c_89 (by rw [h]; rfl), by rw [← e3]; exact Int32.not_lt.mp c_93, by rw [mN, ← hv62]; exact c_98⟩
                refine lv_aload_n hx hb dX8_line_103 rfl (lv_at hl 1 rfl) ?_
                refine lv_dup hx hb dX8_line_104 rfl ?_
                refine pv_get (ci := 10) (C := RX8) (T := TX8) (N := 34) hx hb hts hinX8 hown hK hP hM.1 eM rfl 13 (by decide) (hts (.fieldLink RX8 97 "StorageChargeModel" "at" "I") (by decide +kernel)) (fun _ h9 => h9) rfl dX8_line_105 ?_
                refine lv_iconst (v := 1) hx hb dX8_line_108 (by decide) ?_
                refine lv_iadd hx hb dX8_line_109 ?_
                refine lv_topi (fun z9 ez9 => ?_)
                obtain rfl : z9 = nI (mP4 (A 2) sg pl + 1) := ez9.trans (nI_1 _)
                refine pv_put (ci := 10) (v := .int (nI (mP4 (A 2) sg pl + 1))) (ty := .int) (C := RX8) (T := TX8) (N := 34) hx hb hts hinX8 tyX8 tyX8_ok nmX8 hown hK hP hD hS hM.1 eM rfl 13 (by decide) (hts (.fieldLink RX8 97 "StorageChargeModel" "at" "I") (by decide +kernel)) (fun _ h9 => h9) rfl (by decide +kernel) rfl rfl (Nat.le_of_ble_eq_true rfl) dX8_line_110 (fun H locs hP hD hS => ?_)
                obtain ⟨G_110, eG_110⟩ : ∃ gg9 : Nat → va_E, gg9 = va_up g62 100 (.inr (10, [.int (F 0), .int (nI sg), .ref (ad 103), .int (F 3), .ref (ad 105), .ref (ad 106), .ref (ad 107), .ref (ad 108), .int (nI fr), .ref (ad 110), .ref (ad 111), .ref (ad 112), .ref (ad 113), .int (nI (mP4 (A 2) sg pl + 1)), .int (F 14), .ref (ad 116), .ref (ad 117), .ref (ad 118), .ref (ad 119), .ref (ad 120), .ref (ad 121), .int (F 21), .ref (ad 123), .ref (ad 124), .ref (ad 125), .ref (ad 126), .int (F 26), .ref (ad 128), .ref (ad 129), .ref (ad 130), .ref (ad 131), .ref (ad 132), .int (F 32), .ref (ad 134)])) := ⟨_, rfl⟩
                have hP : va_P D vwCl (wl Ls ad G_110) H := by rw [eG_110]; exact hP
                have hD : va_D (fun q => b0 ≤ q) (wl Ls ad G_110) := by rw [eG_110]; exact hD
                have eM : G_110 100 = .inr (10, [.int (F 0), .int (nI sg), .ref (ad 103), .int (F 3), .ref (ad 105), .ref (ad 106), .ref (ad 107), .ref (ad 108), .int (nI fr), .ref (ad 110), .ref (ad 111), .ref (ad 112), .ref (ad 113), .int (nI (mP4 (A 2) sg pl + 1)), .int (F 14), .ref (ad 116), .ref (ad 117), .ref (ad 118), .ref (ad 119), .ref (ad 120), .ref (ad 121), .int (F 21), .ref (ad 123), .ref (ad 124), .ref (ad 125), .ref (ad 126), .int (F 26), .ref (ad 128), .ref (ad 129), .ref (ad 130), .ref (ad 131), .ref (ad 132), .int (F 32), .ref (ad 134)]) := by rw [eG_110]; exact va_up_self _ _ _
                have hM110 : ModelAt y Ls ad G_110 (va_up F 13 (nI (mP4 (A 2) sg pl + 1))) A := (ModelAt_w hM62 (eM.trans (by rw [← h1, ← h8]; rfl)) (fun k hk => Or.inl ⟨by rw [eG_110, va_up_ne _ _ (by omega)], rfl⟩))
                refine lv_iload_n hx hb dX8_line_113 rfl (lv_at hl 2 rfl) ?_
                refine lv_bipush (v := 77) hx hb dX8_line_114 (by decide) ?_
                refine lv_icmp_ne (tgt := 135) hx hb dX8_line_116 (by decide) (fun c_116 => ?_) (fun c_116 => ?_)
                · refine lv_iload_n hx hb dX8_line_135 rfl (lv_at hl 2 rfl) ?_
                  refine lv_bipush (v := 86) hx hb dX8_line_136 (by decide) ?_
                  refine lv_icmp_ne (tgt := 167) hx hb dX8_line_138 (by decide) (fun c_138 => ?_) (fun c_138 => ?_)
                  · refine lv_iload_n hx hb dX8_line_167 rfl (lv_at hl 4 rfl) ?_
                    refine vp_callSi (va_Run.run (va_runS (As := [.int x3]) (rest := []) ⟨hx, hb, hml, hown, hts⟩ (c_X8_isKind l x3) (va_cwS 1 hts gX8_line_X8_isKind rfl rfl rfl (by decide +kernel) ⟨Nat.le_of_ble_eq_true rfl, Nat.le_of_ble_eq_true rfl⟩) ⟨fun _ _ _ _ q => q, fun U hU hW => ⟨rfl, trivial⟩⟩ rfl rfl hl.1 rfl (lv_room (Nat.le_of_ble_eq_true rfl)) dX8_line_168 ⟨(Nat.le_of_ble_eq_true rfl), (Nat.le_of_ble_eq_true rfl)⟩)) (fun r_168 hr_168 => ?_)
                    refine lv_if_eq (tgt := 186) hx hb dX8_line_171 (by decide) (fun c_171 => ?_) (fun c_171 => ?_)
                    · have hk9 : ¬ inR x3 4 := wI_eq0.mp (by rw [← hr_168]; exact c_171)
                      refine lv_iconst (v := 0) hx hb dX8_line_186 (by decide) ?_
                      exact loop187 1 0 l1 x2 x3 r_62 G_110 (by decide) el e2 e3 hv62 hpre (by first | exact Or.inl ⟨rfl, by rw [mGood, if_pos c_116]; exact Int32.not_lt.mp c_124⟩ | exact Or.inr ⟨rfl, by rw [mGood, if_pos c_116]; exact Int32.not_le.mpr c_124⟩ | exact Or.inl ⟨rfl, by rw [mGood, if_neg c_116, if_pos c_138]; exact ⟨hw9, Int32.not_lt.mp c_156⟩⟩ | exact Or.inr ⟨rfl, by rw [mGood, if_neg c_116, if_pos c_138]; exact fun h => absurd h.1 hw9⟩ | exact Or.inr ⟨rfl, by rw [mGood, if_neg c_116, if_pos c_138]; exact fun h => absurd h.2 (Int32.not_le.mpr c_156)⟩ | exact Or.inl ⟨rfl, by rw [mGood, if_neg c_116, if_neg c_138]; exact ⟨hk9, Int32.not_lt.mp c_179⟩⟩ | exact Or.inr ⟨rfl, by rw [mGood, if_neg c_116, if_neg c_138]; exact fun h => absurd h.1 hk9⟩ | exact Or.inr ⟨rfl, by rw [mGood, if_neg c_116, if_neg c_138]; exact fun h => absurd h.2 (Int32.not_le.mpr c_179)⟩) hM110 (fun j h9 => by rw [eG_110, va_up_ne _ _ (by omega)]; exact hfr62 j h9) _ _ hP hD hS ls (lv_sub hl [1, 2, 3, 4, 0] rfl)
                    · have hk9 : inR x3 4 := Decidable.byContradiction fun h => c_171 (by rw [hr_168]; exact wI_eq0.mpr h)
                      refine lv_iload hx hb dX8_line_174 (lv_at hl 0 rfl) ?_
                      refine lv_sipush (v := 10000) hx hb dX8_line_176 (by decide) ?_
                      refine lv_icmp_gt (tgt := 186) hx hb dX8_line_179 (by decide) (fun c_179 => ?_) (fun c_179 => ?_)
                      · refine lv_iconst (v := 0) hx hb dX8_line_186 (by decide) ?_
                        exact loop187 1 0 l1 x2 x3 r_62 G_110 (by decide) el e2 e3 hv62 hpre (by first | exact Or.inl ⟨rfl, by rw [mGood, if_pos c_116]; exact Int32.not_lt.mp c_124⟩ | exact Or.inr ⟨rfl, by rw [mGood, if_pos c_116]; exact Int32.not_le.mpr c_124⟩ | exact Or.inl ⟨rfl, by rw [mGood, if_neg c_116, if_pos c_138]; exact ⟨hw9, Int32.not_lt.mp c_156⟩⟩ | exact Or.inr ⟨rfl, by rw [mGood, if_neg c_116, if_pos c_138]; exact fun h => absurd h.1 hw9⟩ | exact Or.inr ⟨rfl, by rw [mGood, if_neg c_116, if_pos c_138]; exact fun h => absurd h.2 (Int32.not_le.mpr c_156)⟩ | exact Or.inl ⟨rfl, by rw [mGood, if_neg c_116, if_neg c_138]; exact ⟨hk9, Int32.not_lt.mp c_179⟩⟩ | exact Or.inr ⟨rfl, by rw [mGood, if_neg c_116, if_neg c_138]; exact fun h => absurd h.1 hk9⟩ | exact Or.inr ⟨rfl, by rw [mGood, if_neg c_116, if_neg c_138]; exact fun h => absurd h.2 (Int32.not_le.mpr c_179)⟩) hM110 (fun j h9 => by rw [eG_110, va_up_ne _ _ (by omega)]; exact hfr62 j h9) _ _ hP hD hS ls (lv_sub hl [1, 2, 3, 4, 0] rfl)
                      · refine lv_iconst (v := 1) hx hb dX8_line_182 (by decide) ?_
                        refine lv_goto (tgt := 187) hx hb dX8_line_183 (by decide) ?_
                        exact loop187 1 1 l1 x2 x3 r_62 G_110 (by decide) el e2 e3 hv62 hpre (by first | exact Or.inl ⟨rfl, by rw [mGood, if_pos c_116]; exact Int32.not_lt.mp c_124⟩ | exact Or.inr ⟨rfl, by rw [mGood, if_pos c_116]; exact Int32.not_le.mpr c_124⟩ | exact Or.inl ⟨rfl, by rw [mGood, if_neg c_116, if_pos c_138]; exact ⟨hw9, Int32.not_lt.mp c_156⟩⟩ | exact Or.inr ⟨rfl, by rw [mGood, if_neg c_116, if_pos c_138]; exact fun h => absurd h.1 hw9⟩ | exact Or.inr ⟨rfl, by rw [mGood, if_neg c_116, if_pos c_138]; exact fun h => absurd h.2 (Int32.not_le.mpr c_156)⟩ | exact Or.inl ⟨rfl, by rw [mGood, if_neg c_116, if_neg c_138]; exact ⟨hk9, Int32.not_lt.mp c_179⟩⟩ | exact Or.inr ⟨rfl, by rw [mGood, if_neg c_116, if_neg c_138]; exact fun h => absurd h.1 hk9⟩ | exact Or.inr ⟨rfl, by rw [mGood, if_neg c_116, if_neg c_138]; exact fun h => absurd h.2 (Int32.not_le.mpr c_179)⟩) hM110 (fun j h9 => by rw [eG_110, va_up_ne _ _ (by omega)]; exact hfr62 j h9) _ _ hP hD hS ls (lv_sub hl [1, 2, 3, 4, 0] rfl)
                  · refine lv_iload_n hx hb dX8_line_141 rfl (lv_at hl 4 rfl) ?_
                    refine lv_iconst (v := 1) hx hb dX8_line_142 (by decide) ?_
                    refine lv_sipush (v := 9000) hx hb dX8_line_143 (by decide) ?_
                    refine vp_callSi (va_Run.run (va_runS (As := [.int x3, .int 1, .int 9000]) (rest := []) ⟨hx, hb, hml, hown, hts⟩ (c_X8_in l x3 1 9000) (va_cwS 3 hts gX8_line_X8_in rfl rfl rfl (by decide +kernel) ⟨Nat.le_of_ble_eq_true rfl, Nat.le_of_ble_eq_true rfl⟩) ⟨fun _ _ _ _ q => q, fun U hU hW => ⟨rfl, trivial⟩⟩ rfl rfl hl.1 rfl (lv_room (Nat.le_of_ble_eq_true rfl)) dX8_line_146 ⟨(Nat.le_of_ble_eq_true rfl), (Nat.le_of_ble_eq_true rfl)⟩)) (fun r_146 hr_146 => ?_)
                    refine lv_if_eq (tgt := 163) hx hb dX8_line_149 (by decide) (fun c_149 => ?_) (fun c_149 => ?_)
                    · have hw9 : ¬ (1 ≤ x3 ∧ x3 ≤ 9000) := wI_eq0.mp (by rw [← hr_146]; exact c_149)
                      refine lv_iconst (v := 0) hx hb dX8_line_163 (by decide) ?_
                      refine lv_goto (tgt := 187) hx hb dX8_line_164 (by decide) ?_
                      exact loop187 1 0 l1 x2 x3 r_62 G_110 (by decide) el e2 e3 hv62 hpre (by first | exact Or.inl ⟨rfl, by rw [mGood, if_pos c_116]; exact Int32.not_lt.mp c_124⟩ | exact Or.inr ⟨rfl, by rw [mGood, if_pos c_116]; exact Int32.not_le.mpr c_124⟩ | exact Or.inl ⟨rfl, by rw [mGood, if_neg c_116, if_pos c_138]; exact ⟨hw9, Int32.not_lt.mp c_156⟩⟩ | exact Or.inr ⟨rfl, by rw [mGood, if_neg c_116, if_pos c_138]; exact fun h => absurd h.1 hw9⟩ | exact Or.inr ⟨rfl, by rw [mGood, if_neg c_116, if_pos c_138]; exact fun h => absurd h.2 (Int32.not_le.mpr c_156)⟩ | exact Or.inl ⟨rfl, by rw [mGood, if_neg c_116, if_neg c_138]; exact ⟨hk9, Int32.not_lt.mp c_179⟩⟩ | exact Or.inr ⟨rfl, by rw [mGood, if_neg c_116, if_neg c_138]; exact fun h => absurd h.1 hk9⟩ | exact Or.inr ⟨rfl, by rw [mGood, if_neg c_116, if_neg c_138]; exact fun h => absurd h.2 (Int32.not_le.mpr c_179)⟩) hM110 (fun j h9 => by rw [eG_110, va_up_ne _ _ (by omega)]; exact hfr62 j h9) _ _ hP hD hS ls (lv_sub hl [1, 2, 3, 4, 0] rfl)
                    · have hw9 : 1 ≤ x3 ∧ x3 ≤ 9000 := Decidable.byContradiction fun h => c_149 (by rw [hr_146]; exact wI_eq0.mpr h)
                      refine lv_iload hx hb dX8_line_152 (lv_at hl 0 rfl) ?_
                      refine lv_bipush (v := 100) hx hb dX8_line_154 (by decide) ?_
                      refine lv_icmp_gt (tgt := 163) hx hb dX8_line_156 (by decide) (fun c_156 => ?_) (fun c_156 => ?_)
                      · refine lv_iconst (v := 0) hx hb dX8_line_163 (by decide) ?_
                        refine lv_goto (tgt := 187) hx hb dX8_line_164 (by decide) ?_
                        exact loop187 1 0 l1 x2 x3 r_62 G_110 (by decide) el e2 e3 hv62 hpre (by first | exact Or.inl ⟨rfl, by rw [mGood, if_pos c_116]; exact Int32.not_lt.mp c_124⟩ | exact Or.inr ⟨rfl, by rw [mGood, if_pos c_116]; exact Int32.not_le.mpr c_124⟩ | exact Or.inl ⟨rfl, by rw [mGood, if_neg c_116, if_pos c_138]; exact ⟨hw9, Int32.not_lt.mp c_156⟩⟩ | exact Or.inr ⟨rfl, by rw [mGood, if_neg c_116, if_pos c_138]; exact fun h => absurd h.1 hw9⟩ | exact Or.inr ⟨rfl, by rw [mGood, if_neg c_116, if_pos c_138]; exact fun h => absurd h.2 (Int32.not_le.mpr c_156)⟩ | exact Or.inl ⟨rfl, by rw [mGood, if_neg c_116, if_neg c_138]; exact ⟨hk9, Int32.not_lt.mp c_179⟩⟩ | exact Or.inr ⟨rfl, by rw [mGood, if_neg c_116, if_neg c_138]; exact fun h => absurd h.1 hk9⟩ | exact Or.inr ⟨rfl, by rw [mGood, if_neg c_116, if_neg c_138]; exact fun h => absurd h.2 (Int32.not_le.mpr c_179)⟩) hM110 (fun j h9 => by rw [eG_110, va_up_ne _ _ (by omega)]; exact hfr62 j h9) _ _ hP hD hS ls (lv_sub hl [1, 2, 3, 4, 0] rfl)
                      · refine lv_iconst (v := 1) hx hb dX8_line_159 (by decide) ?_
                        refine lv_goto (tgt := 187) hx hb dX8_line_160 (by decide) ?_
                        exact loop187 1 1 l1 x2 x3 r_62 G_110 (by decide) el e2 e3 hv62 hpre (by first | exact Or.inl ⟨rfl, by rw [mGood, if_pos c_116]; exact Int32.not_lt.mp c_124⟩ | exact Or.inr ⟨rfl, by rw [mGood, if_pos c_116]; exact Int32.not_le.mpr c_124⟩ | exact Or.inl ⟨rfl, by rw [mGood, if_neg c_116, if_pos c_138]; exact ⟨hw9, Int32.not_lt.mp c_156⟩⟩ | exact Or.inr ⟨rfl, by rw [mGood, if_neg c_116, if_pos c_138]; exact fun h => absurd h.1 hw9⟩ | exact Or.inr ⟨rfl, by rw [mGood, if_neg c_116, if_pos c_138]; exact fun h => absurd h.2 (Int32.not_le.mpr c_156)⟩ | exact Or.inl ⟨rfl, by rw [mGood, if_neg c_116, if_neg c_138]; exact ⟨hk9, Int32.not_lt.mp c_179⟩⟩ | exact Or.inr ⟨rfl, by rw [mGood, if_neg c_116, if_neg c_138]; exact fun h => absurd h.1 hk9⟩ | exact Or.inr ⟨rfl, by rw [mGood, if_neg c_116, if_neg c_138]; exact fun h => absurd h.2 (Int32.not_le.mpr c_179)⟩) hM110 (fun j h9 => by rw [eG_110, va_up_ne _ _ (by omega)]; exact hfr62 j h9) _ _ hP hD hS ls (lv_sub hl [1, 2, 3, 4, 0] rfl)
                · refine lv_iload hx hb dX8_line_119 (lv_at hl 0 rfl) ?_
                  refine lv_sipush (v := 10000) hx hb dX8_line_121 (by decide) ?_
                  refine lv_icmp_gt (tgt := 131) hx hb dX8_line_124 (by decide) (fun c_124 => ?_) (fun c_124 => ?_)
                  · refine lv_iconst (v := 0) hx hb dX8_line_131 (by decide) ?_
                    refine lv_goto (tgt := 187) hx hb dX8_line_132 (by decide) ?_
                    exact loop187 1 0 l1 x2 x3 r_62 G_110 (by decide) el e2 e3 hv62 hpre (by first | exact Or.inl ⟨rfl, by rw [mGood, if_pos c_116]; exact Int32.not_lt.mp c_124⟩ | exact Or.inr ⟨rfl, by rw [mGood, if_pos c_116]; exact Int32.not_le.mpr c_124⟩ | exact Or.inl ⟨rfl, by rw [mGood, if_neg c_116, if_pos c_138]; exact ⟨hw9, Int32.not_lt.mp c_156⟩⟩ | exact Or.inr ⟨rfl, by rw [mGood, if_neg c_116, if_pos c_138]; exact fun h => absurd h.1 hw9⟩ | exact Or.inr ⟨rfl, by rw [mGood, if_neg c_116, if_pos c_138]; exact fun h => absurd h.2 (Int32.not_le.mpr c_156)⟩ | exact Or.inl ⟨rfl, by rw [mGood, if_neg c_116, if_neg c_138]; exact ⟨hk9, Int32.not_lt.mp c_179⟩⟩ | exact Or.inr ⟨rfl, by rw [mGood, if_neg c_116, if_neg c_138]; exact fun h => absurd h.1 hk9⟩ | exact Or.inr ⟨rfl, by rw [mGood, if_neg c_116, if_neg c_138]; exact fun h => absurd h.2 (Int32.not_le.mpr c_179)⟩) hM110 (fun j h9 => by rw [eG_110, va_up_ne _ _ (by omega)]; exact hfr62 j h9) _ _ hP hD hS ls (lv_sub hl [1, 2, 3, 4, 0] rfl)
                  · refine lv_iconst (v := 1) hx hb dX8_line_127 (by decide) ?_
                    refine lv_goto (tgt := 187) hx hb dX8_line_128 (by decide) ?_
                    exact loop187 1 1 l1 x2 x3 r_62 G_110 (by decide) el e2 e3 hv62 hpre (by first | exact Or.inl ⟨rfl, by rw [mGood, if_pos c_116]; exact Int32.not_lt.mp c_124⟩ | exact Or.inr ⟨rfl, by rw [mGood, if_pos c_116]; exact Int32.not_le.mpr c_124⟩ | exact Or.inl ⟨rfl, by rw [mGood, if_neg c_116, if_pos c_138]; exact ⟨hw9, Int32.not_lt.mp c_156⟩⟩ | exact Or.inr ⟨rfl, by rw [mGood, if_neg c_116, if_pos c_138]; exact fun h => absurd h.1 hw9⟩ | exact Or.inr ⟨rfl, by rw [mGood, if_neg c_116, if_pos c_138]; exact fun h => absurd h.2 (Int32.not_le.mpr c_156)⟩ | exact Or.inl ⟨rfl, by rw [mGood, if_neg c_116, if_neg c_138]; exact ⟨hk9, Int32.not_lt.mp c_179⟩⟩ | exact Or.inr ⟨rfl, by rw [mGood, if_neg c_116, if_neg c_138]; exact fun h => absurd h.1 hk9⟩ | exact Or.inr ⟨rfl, by rw [mGood, if_neg c_116, if_neg c_138]; exact fun h => absurd h.2 (Int32.not_le.mpr c_179)⟩) hM110 (fun j h9 => by rw [eG_110, va_up_ne _ _ (by omega)]; exact hfr62 j h9) _ _ hP hD hS ls (lv_sub hl [1, 2, 3, 4, 0] rfl)
              · refine lv_iconst (v := 0) hx hb dX8_line_101 (by decide) ?_
                refine W.widen (k := 0) (n := 0) (Nat.le_of_ble_eq_true rfl) (Nat.le_of_ble_eq_true rfl) ?_
                exact W.zret (v := 0) hx hb hr (by first | rfl | decide | (simp [narrow]; done) | assumption) (fun t ht hW => ⟨⟨0, wl Ls ad g62, rfl, Or.inr ⟨rfl, fun h => (by first | exact c_98 (by rw [hv62]; exact h.1.2.2.2.2.2) | exact absurd h.1.2.2.2.2.1 (by rw [← e3]; exact Int32.not_le.mpr c_93) | exact absurd ((nI_eq (by omega) (by decide)).mp (show nI fr = nI 60 from c_89)) h.1.2.2.2.1 | exact c_80 (by rw [hr_75]; exact h.1.2.2.1) | exact absurd h.1.2.1 (by rw [← e2]; exact wI_eq0.mp (by rw [← hr_68]; exact c_71))), g62, _, rfl, hM62, hfr62⟩, by rw [ht]; exact hP, hD⟩, hS.F ht⟩) hS.2.2 dX8_line_102
  have loop31 : ∀ (n : Nat) (l1 : Int32), 0 < n → l1 = nx (A 2) sg pl → mLet l1 → ∀ (H : Heap) (locs : List Loc), va_P D vwCl (wl Ls ad G) H → va_D (fun q => b0 ≤ q) (wl Ls ad G) → va_S (fun q => b0 ≤ q) s.heap H locs → ∀ ls : Array Slot, lv_has ls 6 [(0, .ref (ad 100)), (1, .int l1)] → W p l e (headSpec wsX8_line ({ frames := 2, cells := 0, slots := 0, locals := 44 })).room s m ([.ref (ad 100)] : List Value).toArray below meth c H locs 0 0 (MQ below (va_Qi (fun (r : Int32) (u : va_W) => (r = 1 ∧ mOK (A 2) sg pl fr (A 9) (A 10) (A 11) ∧ ∃ G2, u = wl Ls ad G2 ∧ ModelAt y Ls ad G2 (va_up (va_up F 13 (nI (mP4 (A 2) sg pl + 1))) 8 (nI (fr + 1))) (va_up (va_up (va_up (va_up A 9 (upd (A 9) fr (nx (A 2) sg pl))) 10 (upd (A 10) fr (mnV (A 2) sg (pl + 1)))) 11 (upd (A 11) fr (mW (A 2) sg pl))) 12 (upd (A 12) fr (mN (A 2) sg pl))) ∧ (∀ j, (j < 100 ∨ 134 < j) → G2 j = G j)) ∨ (r = 0 ∧ ¬ mOK (A 2) sg pl fr (A 9) (A 10) (A 11) ∧ ∃ G2 p2, u = wl Ls ad G2 ∧ ModelAt y Ls ad G2 (va_up F 13 (nI p2)) A ∧ (∀ j, (j < 100 ∨ 134 < j) → G2 j = G j))) (WB D b0) (fun q => b0 ≤ q)) ([.ref (ad 100)] : List Value).toArray s 0 0 (fun q => b0 ≤ q)) (F0 m 31 ls []) := by
    intro n
    induction n with
    | zero =>
      intro l1 hn; exact absurd hn (by decide)
    | succ n ih31 =>
      intro l1 hn el hlet H locs hP hD hS ls hl
      have hin0 : pl < sg := mLet_in (by rw [← el]; exact hlet)
      refine lv_aload_n hx hb dX8_line_31 rfl (lv_at hl 0 rfl) ?_
      refine lv_dup hx hb dX8_line_32 rfl ?_
      refine pv_get (ci := 10) (C := RX8) (T := TX8) (N := 34) hx hb hts hinX8 hown hK hP hM.1 eM rfl 13 (by decide) (hts (.fieldLink RX8 97 "StorageChargeModel" "at" "I") (by decide +kernel)) (fun _ h9 => h9) rfl dX8_line_33 ?_
      refine lv_iconst (v := 1) hx hb dX8_line_36 (by decide) ?_
      refine lv_iadd hx hb dX8_line_37 ?_
      refine lv_topi (fun z9 ez9 => ?_)
      obtain rfl : z9 = nI (pl + 1) := ez9.trans (nI_1 pl)
      refine pv_put (ci := 10) (v := .int (nI (pl + 1))) (ty := .int) (C := RX8) (T := TX8) (N := 34) hx hb hts hinX8 tyX8 tyX8_ok nmX8 hown hK hP hD hS hM.1 eM rfl 13 (by decide) (hts (.fieldLink RX8 97 "StorageChargeModel" "at" "I") (by decide +kernel)) (fun _ h9 => h9) rfl (by decide +kernel) rfl rfl (Nat.le_of_ble_eq_true rfl) dX8_line_38 (fun H locs hP hD hS => ?_)
      obtain ⟨G_38, eG_38⟩ : ∃ gg9 : Nat → va_E, gg9 = va_up G 100 (.inr (10, [.int (F 0), .int (nI sg), .ref (ad 103), .int (F 3), .ref (ad 105), .ref (ad 106), .ref (ad 107), .ref (ad 108), .int (nI fr), .ref (ad 110), .ref (ad 111), .ref (ad 112), .ref (ad 113), .int (nI (pl + 1)), .int (F 14), .ref (ad 116), .ref (ad 117), .ref (ad 118), .ref (ad 119), .ref (ad 120), .ref (ad 121), .int (F 21), .ref (ad 123), .ref (ad 124), .ref (ad 125), .ref (ad 126), .int (F 26), .ref (ad 128), .ref (ad 129), .ref (ad 130), .ref (ad 131), .ref (ad 132), .int (F 32), .ref (ad 134)])) := ⟨_, rfl⟩
      have hP : va_P D vwCl (wl Ls ad G_38) H := by rw [eG_38]; exact hP
      have hD : va_D (fun q => b0 ≤ q) (wl Ls ad G_38) := by rw [eG_38]; exact hD
      have eM : G_38 100 = .inr (10, [.int (F 0), .int (nI sg), .ref (ad 103), .int (F 3), .ref (ad 105), .ref (ad 106), .ref (ad 107), .ref (ad 108), .int (nI fr), .ref (ad 110), .ref (ad 111), .ref (ad 112), .ref (ad 113), .int (nI (pl + 1)), .int (F 14), .ref (ad 116), .ref (ad 117), .ref (ad 118), .ref (ad 119), .ref (ad 120), .ref (ad 121), .int (F 21), .ref (ad 123), .ref (ad 124), .ref (ad 125), .ref (ad 126), .int (F 26), .ref (ad 128), .ref (ad 129), .ref (ad 130), .ref (ad 131), .ref (ad 132), .int (F 32), .ref (ad 134)]) := by rw [eG_38]; exact va_up_self _ _ _
      have hM38 : ModelAt y Ls ad G_38 (va_up F 13 (nI (pl + 1))) A := (ModelAt_w hM (eM.trans (by rw [← h1, ← h8]; rfl)) (fun k hk => Or.inl ⟨by rw [eG_38, va_up_ne _ _ (by omega)], rfl⟩))
      refine lv_aload_n hx hb dX8_line_41 rfl (lv_at hl 0 rfl) ?_
      refine va_calli (va_runV (As := []) (rest := []) ⟨hx, hb, hml, hown, hts⟩ (c_X8_number l hl0 D y b0 Ls ad G_38 (va_up F 13 (nI (pl + 1))) A hM38 sg ((va_up_ne _ _ (by decide)).trans h1) (pl + 1) (va_up_self _ _ _) hsg (by omega)) (cwV 0 hts gX8_line_X8_number rfl rfl rfl (by decide +kernel) ⟨(Nat.le_of_ble_eq_true rfl), (Nat.le_of_ble_eq_true rfl)⟩) ⟨WdM_blind, Wd_recv hK hP (ci := 10) rfl hM.1 eM, WdM_at hP hK hN hD hS hb0 hT⟩ rfl rfl hl.1 rfl (lv_room (Nat.le_of_ble_eq_true rfl)) dX8_line_42 ⟨(Nat.le_of_ble_eq_true rfl), (Nat.le_of_ble_eq_true rfl)⟩) hS (fun _ _ h => h) (fun _ h => h) (fun r_42 u42 t H locs ht hvm hw42 hB hz1 hk1 hS => ?_)
      obtain ⟨hP, hD⟩ := hB
      rw [ht] at hP
      obtain ⟨hv42, g42, rfl, hM42, hfr42⟩ := hw42
      rw [va_up_twice] at hM42
      have hfr42 : ∀ j, (j < 100 ∨ 134 < j) → g42 j = G j := fun j h9 => (hfr42 j (by omega)).trans (by rw [eG_38, va_up_ne _ _ (by omega)])
      have eM : g42 100 = .inr (10, [.int (F 0), .int (F 1), .ref (ad 103), .int (F 3), .ref (ad 105), .ref (ad 106), .ref (ad 107), .ref (ad 108), .int (F 8), .ref (ad 110), .ref (ad 111), .ref (ad 112), .ref (ad 113), .int (nI (mnP (A 2) sg (pl + 1))), .int (F 14), .ref (ad 116), .ref (ad 117), .ref (ad 118), .ref (ad 119), .ref (ad 120), .ref (ad 121), .int (F 21), .ref (ad 123), .ref (ad 124), .ref (ad 125), .ref (ad 126), .int (F 26), .ref (ad 128), .ref (ad 129), .ref (ad 130), .ref (ad 131), .ref (ad 132), .int (F 32), .ref (ad 134)]) := hM42.2.1
      rw [h1, h8] at eM
      refine lv_istore_n (lv' := [(2, .int r_42), (0, .ref (ad 100)), (1, .int l1)]) hx hb dX8_line_45 rfl hl (by decide) rfl (fun ls hl => ?_)
      refine lv_iload_n hx hb dX8_line_46 rfl (lv_at hl 2 rfl) ?_
      refine lv_bipush (v := 77) hx hb dX8_line_47 (by decide) ?_
      refine lv_icmp_ne (tgt := 56) hx hb dX8_line_49 (by decide) (fun c_49 => ?_) (fun c_49 => ?_)
      · refine lv_aload_n hx hb dX8_line_56 rfl (lv_at hl 1 rfl) ?_
        refine va_calli (va_runV (As := []) (rest := []) ⟨hx, hb, hml, hown, hts⟩ (c_X8_number l hl0 D y b0 Ls ad g42 (va_up F 13 (nI (mnP (A 2) sg (pl + 1)))) A hM42 sg ((va_up_ne _ _ (by decide)).trans h1) (mnP (A 2) sg (pl + 1)) (va_up_self _ _ _) hsg (mnP_le (by omega))) (cwV 0 hts gX8_line_X8_number rfl rfl rfl (by decide +kernel) ⟨(Nat.le_of_ble_eq_true rfl), (Nat.le_of_ble_eq_true rfl)⟩) ⟨WdM_blind, Wd_recv hK hP (ci := 10) rfl hM.1 eM, WdM_at hP hK hN hD hS hb0 hT⟩ rfl rfl hl.1 rfl (lv_room (Nat.le_of_ble_eq_true rfl)) dX8_line_57 ⟨(Nat.le_of_ble_eq_true rfl), (Nat.le_of_ble_eq_true rfl)⟩) hS (fun _ _ h => h) (fun _ h => h) (fun r_57 u57 t H locs ht hvm hw57 hB hz1 hk1 hS => ?_)
        obtain ⟨hP, hD⟩ := hB
        rw [ht] at hP
        obtain ⟨hv57, g57, rfl, hM57, hfr57⟩ := hw57
        rw [va_up_twice] at hM57
        have hfr57 : ∀ j, (j < 100 ∨ 134 < j) → g57 j = G j := fun j h9 => (hfr57 j (by omega)).trans (hfr42 j h9)
        have eM : g57 100 = .inr (10, [.int (F 0), .int (F 1), .ref (ad 103), .int (F 3), .ref (ad 105), .ref (ad 106), .ref (ad 107), .ref (ad 108), .int (F 8), .ref (ad 110), .ref (ad 111), .ref (ad 112), .ref (ad 113), .int (nI (mnP (A 2) sg (mnP (A 2) sg (pl + 1)))), .int (F 14), .ref (ad 116), .ref (ad 117), .ref (ad 118), .ref (ad 119), .ref (ad 120), .ref (ad 121), .int (F 21), .ref (ad 123), .ref (ad 124), .ref (ad 125), .ref (ad 126), .int (F 26), .ref (ad 128), .ref (ad 129), .ref (ad 130), .ref (ad 131), .ref (ad 132), .int (F 32), .ref (ad 134)]) := hM57.2.1
        rw [h1, h8] at eM
        refine lv_istore_n (lv' := [(3, .int r_57), (2, .int r_42), (0, .ref (ad 100)), (1, .int l1)]) hx hb dX8_line_60 rfl hl (by decide) rfl (fun ls hl => ?_)
        exact loop61 1 l1 r_42 r_57 g57 (by decide) el hlet hv42 (by rw [mW, if_neg (by rw [← el]; exact c_49)]; exact hv57) (by rw [mP3, if_neg (by rw [← el]; exact c_49)]; exact hM57) hfr57 _ _ hP hD hS ls (lv_sub hl [2, 3, 1, 0] rfl)
      · refine lv_iconst (v := 0) hx hb dX8_line_52 (by decide) ?_
        refine lv_goto (tgt := 60) hx hb dX8_line_53 (by decide) ?_
        refine lv_istore_n (lv' := [(3, .int 0), (2, .int r_42), (0, .ref (ad 100)), (1, .int l1)]) hx hb dX8_line_60 rfl hl (by decide) rfl (fun ls hl => ?_)
        exact loop61 1 l1 r_42 0 g42 (by decide) el hlet hv42 (by rw [mW, if_pos (by rw [← el]; exact c_49)]) (by rw [mP3, if_pos (by rw [← el]; exact c_49)]; exact hM42) hfr42 _ _ hP hD hS ls (lv_sub hl [2, 3, 1, 0] rfl)
  have hl := lv_entry ([.ref (ad 100)]) (n := 6) (Nat.le_of_ble_eq_true rfl)
  rw [lg_entry_eq]
  generalize (lg_sl ([.ref (ad 100)]) ++ List.replicate (6 - (lg_sl ([.ref (ad 100)])).length) Slot.unset).toArray = ls at hl ⊢
  have hl : lv_has ls 6 [(0, .ref (ad 100))] := hl
  refine lv_aload_n hx hb dX8_line_0 rfl (lv_at hl 0 rfl) ?_
  refine vp_callSi (va_Run.run (va_runV (As := []) (rest := []) ⟨hx, hb, hml, hown, hts⟩ (c_X8_next l D y Ls ad G F A hM sg h1 pl h13 hsg (by omega)) (cwV 0 hts gX8_line_X8_next rfl rfl rfl (by decide +kernel) ⟨Nat.le_of_ble_eq_true rfl, Nat.le_of_ble_eq_true rfl⟩) ⟨Wd_blind, Wd_recv hK hP (ci := 10) rfl hM.1 eM, Wd_at hP hK hN⟩ rfl rfl hl.1 rfl (lv_room (Nat.le_of_ble_eq_true rfl)) dX8_line_1 ⟨(Nat.le_of_ble_eq_true rfl), (Nat.le_of_ble_eq_true rfl)⟩)) (fun r_1 hr_1 => ?_)
  refine lv_istore_n (lv' := [(1, .int r_1), (0, .ref (ad 100))]) hx hb dX8_line_4 rfl hl (by decide) rfl (fun ls hl => ?_)
  refine lv_iload_n hx hb dX8_line_5 rfl (lv_at hl 0 rfl) ?_
  refine lv_bipush (v := 83) hx hb dX8_line_6 (by decide) ?_
  refine lv_icmp_eq (tgt := 31) hx hb dX8_line_8 (by decide) (fun c_8 => ?_) (fun c_8 => ?_)
  · exact loop31 1 r_1 (by decide) hr_1 (by first | exact Or.inl c_8 | exact Or.inr (Or.inl c_14) | exact Or.inr (Or.inr (Or.inl c_20)) | exact Or.inr (Or.inr (Or.inr c_26))) _ _ hP hD hS ls (lv_sub hl [1, 0] rfl)
  · refine lv_iload_n hx hb dX8_line_11 rfl (lv_at hl 0 rfl) ?_
    refine lv_bipush (v := 72) hx hb dX8_line_12 (by decide) ?_
    refine lv_icmp_eq (tgt := 31) hx hb dX8_line_14 (by decide) (fun c_14 => ?_) (fun c_14 => ?_)
    · exact loop31 1 r_1 (by decide) hr_1 (by first | exact Or.inl c_8 | exact Or.inr (Or.inl c_14) | exact Or.inr (Or.inr (Or.inl c_20)) | exact Or.inr (Or.inr (Or.inr c_26))) _ _ hP hD hS ls (lv_sub hl [1, 0] rfl)
    · refine lv_iload_n hx hb dX8_line_17 rfl (lv_at hl 0 rfl) ?_
      refine lv_bipush (v := 77) hx hb dX8_line_18 (by decide) ?_
      refine lv_icmp_eq (tgt := 31) hx hb dX8_line_20 (by decide) (fun c_20 => ?_) (fun c_20 => ?_)
      · exact loop31 1 r_1 (by decide) hr_1 (by first | exact Or.inl c_8 | exact Or.inr (Or.inl c_14) | exact Or.inr (Or.inr (Or.inl c_20)) | exact Or.inr (Or.inr (Or.inr c_26))) _ _ hP hD hS ls (lv_sub hl [1, 0] rfl)
      · refine lv_iload_n hx hb dX8_line_23 rfl (lv_at hl 0 rfl) ?_
        refine lv_bipush (v := 86) hx hb dX8_line_24 (by decide) ?_
        refine lv_icmp_eq (tgt := 31) hx hb dX8_line_26 (by decide) (fun c_26 => ?_) (fun c_26 => ?_)
        · exact loop31 1 r_1 (by decide) hr_1 (by first | exact Or.inl c_8 | exact Or.inr (Or.inl c_14) | exact Or.inr (Or.inr (Or.inl c_20)) | exact Or.inr (Or.inr (Or.inr c_26))) _ _ hP hD hS ls (lv_sub hl [1, 0] rfl)
        · refine lv_iconst (v := 0) hx hb dX8_line_29 (by decide) ?_
          refine W.widen (k := 0) (n := 0) (Nat.le_of_ble_eq_true rfl) (Nat.le_of_ble_eq_true rfl) ?_
          exact W.zret (v := 0) hx hb hr (by first | rfl | decide | (simp [narrow]; done) | assumption) (fun t ht hW => ⟨⟨0, wl Ls ad G, rfl, Or.inr ⟨rfl, fun h => h.1.1.elim (fun h => c_8 (hr_1.trans h)) (fun h => h.elim (fun h => c_14 (hr_1.trans h)) (fun h => h.elim (fun h => c_20 (hr_1.trans h)) (fun h => c_26 (hr_1.trans h)))), G, pl, rfl, ModelAt_w hM (hM.2.1.trans (by rw [mfs, mfs, h13]; rfl)) (fun k hk => Or.inl ⟨rfl, rfl⟩), fun j h9 => rfl⟩, by rw [ht]; exact hP, hD⟩, hS.F ht⟩) hS.2.2 dX8_line_30
