/-! Text.takeNumber -/
def lk (f : Nat → Int32) (len p : Nat) : Nat → Nat
  | 0 => 0
  | k + 1 => if lk f len p k = k ∧ (48 ≤ nx f len (p + k) ∧ nx f len (p + k) ≤ 57) then k + 1 else lk f len p k
def numV (f : Nat → Int32) (p : Nat) : Nat → Int32
  | 0 => 0
  | k + 1 => 10 * numV f p k + f (p + k) - 48
theorem lk_stop {f : Nat → Int32} {len p k : Nat} (h : lk f len p k = k) (hn : ¬ (48 ≤ nx f len (p + k) ∧ nx f len (p + k) ≤ 57)) : ∀ j, lk f len p (k + j) = k
  | 0 => h
  | j + 1 => by
    have ih := lk_stop h hn j
    rw [← Nat.add_assoc, lk, if_neg, ih]
    rintro ⟨h1, h2⟩
    rw [ih] at h1
    obtain rfl : j = 0 := by omega
    exact hn h2
def tkV (f : Nat → Int32) (len pl : Nat) : Int32 := if nx f len pl = 32 then (if lk f len (pl + 1) 6 = 1 ∨ (1 < lk f len (pl + 1) 6 ∧ ¬ nx f len (pl + 1) = 48) then numV f (pl + 1) (lk f len (pl + 1) 6) else -1) else -1
def tkP (f : Nat → Int32) (len pl : Nat) : Nat := if nx f len pl = 32 then pl + 1 + lk f len (pl + 1) 6 else pl

theorem tk_no {k : Nat} {x1 : Int32} {P : Prop} (hz : (x1 = 1 ∧ P) ∨ (x1 = 0 ∧ ¬ P)) (h : (¬ nI k = 1 ∧ nI k ≤ 1) ∨ (¬ nI k = 1 ∧ ¬ x1 = 0)) (hk : k < 2 ^ 31 := by omega) : ¬ (k = 1 ∨ (1 < k ∧ ¬ P)) := by
  rintro (h1 | ⟨h1, h2⟩)
  · rcases h with h | h <;> exact h.1 (by rw [h1]; rfl)
  · rcases h with h | h
    · exact absurd h.2 (nI_ge h1 hk)
    · rcases hz with h3 | h3
      · exact h2 h3.2
      · exact h.2 h3.1

set_option maxHeartbeats 4000000 in
set_option maxRecDepth 100000 in
/-- Text.takeNumber -/
theorem c_X5_takeNumber (l : Launch) (hl0 : l.stackTraces = false) (D : va_G) (y : Nat → ClassId) (b0 : Nat) (Ls : List Nat) (ad : Nat → Nat) (G : Nat → va_E) (f : Nat → Int32) (len pl : Nat) (hTx : TextAt y Ls ad G f len pl) : Met l yX5_takeNumber wsX5_takeNumber ({ frames := 3, cells := 0, slots := 0, locals := 63 }) (va_Pc [.ref (ad 1)] (WdM D y b0 (wl Ls ad G))) (va_Qi (fun (r : Int32) (u : va_W) => r = tkV f len pl ∧ ∃ G2, u = wl Ls ad G2 ∧ TextAt y Ls ad G2 f len (tkP f len pl) ∧ ∀ j, j ≠ 1 → j ≠ 2 → G2 j = G j) (WB D b0) (fun q => b0 ≤ q)) 0 0 (fun q => b0 ≤ q) := by
  refine Met.ofW (cc := cX5_takeNumber) (maxL := 5) (ret := (some .int)) (by decide) rfl ?_
  intro p e s m args below meth c s₁ B hml hv
  obtain ⟨rfl, ⟨hP, hK, hN⟩, hD, hb0, hT⟩ := hv
  have hx := B.exec
  have hb := B.bytes
  have hr := B.returns
  have hts := atoms_spec (ws := wsX5_takeNumber) B.pre
  have hown : s.vm.findClass RX5 = some m.cls := findClass_of_methodNamed B.named
  have hlocks := B.notSynchronized
  have hS : va_S (fun q => b0 ≤ q) s.heap s.heap [] := va_S.rf
  have hinX5 : ∀ w ∈ wsX50, w ∈ wsX5_takeNumber := by decide +kernel
  obtain ⟨ht1, ht2, et1, et2, hlen, hpl, hne⟩ := id hTx
  have hl := lv_entry ([.ref (ad 1)]) (n := 5) (Nat.le_of_ble_eq_true rfl)
  rw [lg_entry_eq]
  generalize (lg_sl ([.ref (ad 1)]) ++ List.replicate (5 - (lg_sl ([.ref (ad 1)])).length) Slot.unset).toArray = ls at hl ⊢
  have hl : lv_has ls 5 [(0, .ref (ad 1))] := hl
  refine lv_aload_n hx hb dX5_takeNumber_0 rfl (lv_at hl 0 rfl) ?_
  refine vp_callSi (va_Run.run (va_runV (As := []) (rest := []) ⟨hx, hb, hml, hown, hts⟩ (c_X5_nextSign l D y Ls ad G f len pl hTx) (cwV 0 hts gX5_takeNumber_X5_nextSign rfl rfl rfl (by decide +kernel) ⟨Nat.le_of_ble_eq_true rfl, Nat.le_of_ble_eq_true rfl⟩) ⟨Wd_blind, Wd_recv hK hP (ci := 7) rfl ht1 et1, Wd_at hP hK hN⟩ rfl rfl hl.1 rfl (lv_room (Nat.le_of_ble_eq_true rfl)) dX5_takeNumber_1 ⟨(Nat.le_of_ble_eq_true rfl), (Nat.le_of_ble_eq_true rfl)⟩)) (fun r_1 hr_1 => ?_)
  refine lv_bipush (v := 32) hx hb dX5_takeNumber_4 (by decide) ?_
  refine lv_icmp_eq (tgt := 11) hx hb dX5_takeNumber_6 (by decide) (fun c_6 => ?_) (fun c_6 => ?_)
  · have h32 : nx f len pl = 32 := by rw [← hr_1]; exact c_6
    have hin0 : pl < len := Decidable.byContradiction fun h => by rw [nx, if_neg h] at h32; exact absurd h32 (by decide)
    have loop40 : ∀ (n : Nat) (k : Nat) (x1 q : Int32) (G1 : Nat → va_E), k ≤ 6 → 6 < k + n → lk f len (pl + 1) k = k → q = numV f (pl + 1) k → ((x1 = 1 ∧ nx f len (pl + 1) = 48) ∨ (x1 = 0 ∧ ¬ nx f len (pl + 1) = 48)) → TextAt y Ls ad G1 f len (pl + 1 + k) → (∀ j, j ≠ 1 → j ≠ 2 → G1 j = G j) → ∀ (H : Heap) (locs : List Loc), va_P D vwCl (wl Ls ad G1) H → va_D (fun q => b0 ≤ q) (wl Ls ad G1) → va_S (fun q => b0 ≤ q) s.heap H locs → ∀ ls : Array Slot, lv_has ls 5 [(0, .ref (ad 1)), (1, .int x1), (2, .int (nI k)), (3, .int q)] → W p l e (headSpec wsX5_takeNumber ({ frames := 3, cells := 0, slots := 0, locals := 63 })).room s m ([.ref (ad 1)] : List Value).toArray below meth c H locs 0 0 (MQ below (va_Qi (fun (r : Int32) (u : va_W) => r = tkV f len pl ∧ ∃ G2, u = wl Ls ad G2 ∧ TextAt y Ls ad G2 f len (tkP f len pl) ∧ ∀ j, j ≠ 1 → j ≠ 2 → G2 j = G j) (WB D b0) (fun q => b0 ≤ q)) ([.ref (ad 1)] : List Value).toArray s 0 0 (fun q => b0 ≤ q)) (F0 m 40 ls []) := by
      intro n
      induction n with
      | zero =>
        intro k x1 q G1 hk6 hn; exact absurd hn (by omega)
      | succ n ih40 =>
        intro k x1 q G1 hk6 hn hk eq hz hTx1 hfr1 H locs hP hD hS ls hl
        obtain ⟨ht1, ht2, et1, et2, hlen, hpl, hne⟩ := id hTx1
        refine lv_iload_n hx hb dX5_takeNumber_40 rfl (lv_at hl 2 rfl) ?_
        refine lv_bipush (v := 6) hx hb dX5_takeNumber_41 (by decide) ?_
        refine lv_icmp_ge (tgt := 79) hx hb dX5_takeNumber_43 (by decide) (fun c_43 => ?_) (fun c_43 => ?_)
        · have hk7 : lk f len (pl + 1) 6 = k := by
            obtain rfl : k = 6 := by
              have h8 := Nat.le_of_not_lt (fun h : k < 6 => absurd c_43 (nI_ge h (by decide)))
              omega
            exact hk
          refine lv_iload_n hx hb dX5_takeNumber_79 rfl (lv_at hl 2 rfl) ?_
          refine lv_iconst (v := 1) hx hb dX5_takeNumber_80 (by decide) ?_
          refine lv_icmp_eq (tgt := 93) hx hb dX5_takeNumber_81 (by decide) (fun c_81 => ?_) (fun c_81 => ?_)
          · refine lv_iconst (v := 1) hx hb dX5_takeNumber_93 (by decide) ?_
            refine lv_goto (tgt := 98) hx hb dX5_takeNumber_94 (by decide) ?_
            refine lv_istore (lv' := [(4, .int 1), (0, .ref (ad 1)), (1, .int x1), (2, .int (nI k)), (3, .int q)]) hx hb dX5_takeNumber_98 hl (by decide) rfl (fun ls hl => ?_)
            refine lv_iload hx hb dX5_takeNumber_100 (lv_at hl 0 rfl) ?_
            refine lv_if_eq (tgt := 109) hx hb dX5_takeNumber_102 (by decide) (fun c_102 => ?_) (fun c_102 => ?_)
            · exact absurd c_102 (by decide)
            · refine lv_iload_n hx hb dX5_takeNumber_105 rfl (lv_at hl 4 rfl) ?_
              refine lv_goto (tgt := 110) hx hb dX5_takeNumber_106 (by decide) ?_
              refine W.widen (k := 0) (n := 0) (Nat.le_of_ble_eq_true rfl) (Nat.le_of_ble_eq_true rfl) ?_
              exact W.iret (v := q) hx hb hr (fun t ht hW => ⟨⟨q, wl Ls ad G1, rfl, ⟨by rw [tkV, if_pos h32, hk7, if_pos (by first | exact Or.inl ((nI_eq (by omega) (by decide)).mp (show nI k = nI 1 from c_81)) | exact Or.inr ⟨Nat.lt_of_not_le fun h => c_86 (nI_le h (by decide)), hz.elim (fun h => absurd (h.1.symm.trans c_90) (by decide)) (fun h => h.2)⟩), eq], G1, rfl, ⟨ht1, ht2, by rw [tkP, if_pos h32, hk7]; exact et1, et2, hlen, by rw [tkP, if_pos h32, hk7]; exact hpl, hne⟩, hfr1⟩, by rw [ht]; exact hP, hD⟩, hS.F ht⟩) hS.2.2 dX5_takeNumber_110
          · refine lv_iload_n hx hb dX5_takeNumber_84 rfl (lv_at hl 2 rfl) ?_
            refine lv_iconst (v := 1) hx hb dX5_takeNumber_85 (by decide) ?_
            refine lv_icmp_le (tgt := 97) hx hb dX5_takeNumber_86 (by decide) (fun c_86 => ?_) (fun c_86 => ?_)
            · refine lv_iconst (v := 0) hx hb dX5_takeNumber_97 (by decide) ?_
              refine lv_istore (lv' := [(4, .int 0), (0, .ref (ad 1)), (1, .int x1), (2, .int (nI k)), (3, .int q)]) hx hb dX5_takeNumber_98 hl (by decide) rfl (fun ls hl => ?_)
              refine lv_iload hx hb dX5_takeNumber_100 (lv_at hl 0 rfl) ?_
              refine lv_if_eq (tgt := 109) hx hb dX5_takeNumber_102 (by decide) (fun c_102 => ?_) (fun c_102 => ?_)
              · refine lv_iconst (v := (-1)) hx hb dX5_takeNumber_109 (by decide) ?_
                refine W.widen (k := 0) (n := 0) (Nat.le_of_ble_eq_true rfl) (Nat.le_of_ble_eq_true rfl) ?_
                exact W.iret (v := (-1)) hx hb hr (fun t ht hW => ⟨⟨(-1), wl Ls ad G1, rfl, ⟨by rw [tkV, if_pos h32, hk7, if_neg (tk_no hz (by first | exact Or.inl ⟨c_81, c_86⟩ | exact Or.inr ⟨c_81, c_90⟩))], G1, rfl, ⟨ht1, ht2, by rw [tkP, if_pos h32, hk7]; exact et1, et2, hlen, by rw [tkP, if_pos h32, hk7]; exact hpl, hne⟩, hfr1⟩, by rw [ht]; exact hP, hD⟩, hS.F ht⟩) hS.2.2 dX5_takeNumber_110
              · exact absurd rfl c_102
            · refine lv_iload_n hx hb dX5_takeNumber_89 rfl (lv_at hl 1 rfl) ?_
              refine lv_if_ne (tgt := 97) hx hb dX5_takeNumber_90 (by decide) (fun c_90 => ?_) (fun c_90 => ?_)
              · refine lv_iconst (v := 0) hx hb dX5_takeNumber_97 (by decide) ?_
                refine lv_istore (lv' := [(4, .int 0), (0, .ref (ad 1)), (1, .int x1), (2, .int (nI k)), (3, .int q)]) hx hb dX5_takeNumber_98 hl (by decide) rfl (fun ls hl => ?_)
                refine lv_iload hx hb dX5_takeNumber_100 (lv_at hl 0 rfl) ?_
                refine lv_if_eq (tgt := 109) hx hb dX5_takeNumber_102 (by decide) (fun c_102 => ?_) (fun c_102 => ?_)
                · refine lv_iconst (v := (-1)) hx hb dX5_takeNumber_109 (by decide) ?_
                  refine W.widen (k := 0) (n := 0) (Nat.le_of_ble_eq_true rfl) (Nat.le_of_ble_eq_true rfl) ?_
                  exact W.iret (v := (-1)) hx hb hr (fun t ht hW => ⟨⟨(-1), wl Ls ad G1, rfl, ⟨by rw [tkV, if_pos h32, hk7, if_neg (tk_no hz (by first | exact Or.inl ⟨c_81, c_86⟩ | exact Or.inr ⟨c_81, c_90⟩))], G1, rfl, ⟨ht1, ht2, by rw [tkP, if_pos h32, hk7]; exact et1, et2, hlen, by rw [tkP, if_pos h32, hk7]; exact hpl, hne⟩, hfr1⟩, by rw [ht]; exact hP, hD⟩, hS.F ht⟩) hS.2.2 dX5_takeNumber_110
                · exact absurd rfl c_102
              · refine lv_iconst (v := 1) hx hb dX5_takeNumber_93 (by decide) ?_
                refine lv_goto (tgt := 98) hx hb dX5_takeNumber_94 (by decide) ?_
                refine lv_istore (lv' := [(4, .int 1), (0, .ref (ad 1)), (1, .int x1), (2, .int (nI k)), (3, .int q)]) hx hb dX5_takeNumber_98 hl (by decide) rfl (fun ls hl => ?_)
                refine lv_iload hx hb dX5_takeNumber_100 (lv_at hl 0 rfl) ?_
                refine lv_if_eq (tgt := 109) hx hb dX5_takeNumber_102 (by decide) (fun c_102 => ?_) (fun c_102 => ?_)
                · exact absurd c_102 (by decide)
                · refine lv_iload_n hx hb dX5_takeNumber_105 rfl (lv_at hl 4 rfl) ?_
                  refine lv_goto (tgt := 110) hx hb dX5_takeNumber_106 (by decide) ?_
                  refine W.widen (k := 0) (n := 0) (Nat.le_of_ble_eq_true rfl) (Nat.le_of_ble_eq_true rfl) ?_
                  exact W.iret (v := q) hx hb hr (fun t ht hW => ⟨⟨q, wl Ls ad G1, rfl, ⟨by rw [tkV, if_pos h32, hk7, if_pos (by first | exact Or.inl ((nI_eq (by omega) (by decide)).mp (show nI k = nI 1 from c_81)) | exact Or.inr ⟨Nat.lt_of_not_le fun h => c_86 (nI_le h (by decide)), hz.elim (fun h => absurd (h.1.symm.trans c_90) (by decide)) (fun h => h.2)⟩), eq], G1, rfl, ⟨ht1, ht2, by rw [tkP, if_pos h32, hk7]; exact et1, et2, hlen, by rw [tkP, if_pos h32, hk7]; exact hpl, hne⟩, hfr1⟩, by rw [ht]; exact hP, hD⟩, hS.F ht⟩) hS.2.2 dX5_takeNumber_110
        · have hk5 : k < 6 := Nat.lt_of_not_le fun h => c_43 (nI_le h (by omega))
          refine lv_aload_n hx hb dX5_takeNumber_46 rfl (lv_at hl 0 rfl) ?_
          refine vp_callSi (va_Run.run (va_runV (As := []) (rest := []) ⟨hx, hb, hml, hown, hts⟩ (c_X5_nextSign l D y Ls ad G1 f len (pl + 1 + k) hTx1) (cwV 0 hts gX5_takeNumber_X5_nextSign rfl rfl rfl (by decide +kernel) ⟨Nat.le_of_ble_eq_true rfl, Nat.le_of_ble_eq_true rfl⟩) ⟨Wd_blind, Wd_recv hK hP (ci := 7) rfl ht1 et1, Wd_at hP hK hN⟩ rfl rfl hl.1 rfl (lv_room (Nat.le_of_ble_eq_true rfl)) dX5_takeNumber_47 ⟨(Nat.le_of_ble_eq_true rfl), (Nat.le_of_ble_eq_true rfl)⟩)) (fun r_47 hr_47 => ?_)
          refine lv_bipush (v := 48) hx hb dX5_takeNumber_50 (by decide) ?_
          refine lv_bipush (v := 57) hx hb dX5_takeNumber_52 (by decide) ?_
          refine vp_callSi (va_Run.run (va_runSN (As := [.int r_47, .int 48, .int 57]) (rest := []) ⟨hx, hb, hml, hown, hts⟩ (c_X7_isWithin l r_47 48 57) ⟨va_cnB 3 hts gX5_takeNumber_X7_isWithin_n26 rfl rfl rfl (hN (.methodLinkNest RX5 26 yX7_isWithin "StorageCharge") (by decide +kernel)) (hts (.initialized RX7) (by decide +kernel)) (by decide +kernel) ⟨Nat.le_of_ble_eq_true rfl, Nat.le_of_ble_eq_true rfl⟩, hts (.static yX7_isWithin) (by decide +kernel), trivial⟩ ⟨fun _ _ _ _ q => q, fun U hU hW => ⟨rfl, trivial⟩⟩ rfl rfl hl.1 rfl (lv_room (Nat.le_of_ble_eq_true rfl)) dX5_takeNumber_54 ⟨(Nat.le_of_ble_eq_true rfl), (Nat.le_of_ble_eq_true rfl)⟩)) (fun r_54 hr_54 => ?_)
          refine lv_if_eq (tgt := 79) hx hb dX5_takeNumber_57 (by decide) (fun c_57 => ?_) (fun c_57 => ?_)
          · have hk7 : lk f len (pl + 1) 6 = k := by
              have h8 := lk_stop hk (show ¬ (48 ≤ nx f len (pl + 1 + k) ∧ nx f len (pl + 1 + k) ≤ 57) by rw [← hr_47]; exact wI_eq0.mp (by rw [← hr_54]; exact c_57)) (6 - k)
              rw [show k + (6 - k) = 6 by omega] at h8
              exact h8
            refine lv_iload_n hx hb dX5_takeNumber_79 rfl (lv_at hl 2 rfl) ?_
            refine lv_iconst (v := 1) hx hb dX5_takeNumber_80 (by decide) ?_
            refine lv_icmp_eq (tgt := 93) hx hb dX5_takeNumber_81 (by decide) (fun c_81 => ?_) (fun c_81 => ?_)
            · refine lv_iconst (v := 1) hx hb dX5_takeNumber_93 (by decide) ?_
              refine lv_goto (tgt := 98) hx hb dX5_takeNumber_94 (by decide) ?_
              refine lv_istore (lv' := [(4, .int 1), (0, .ref (ad 1)), (1, .int x1), (2, .int (nI k)), (3, .int q)]) hx hb dX5_takeNumber_98 hl (by decide) rfl (fun ls hl => ?_)
              refine lv_iload hx hb dX5_takeNumber_100 (lv_at hl 0 rfl) ?_
              refine lv_if_eq (tgt := 109) hx hb dX5_takeNumber_102 (by decide) (fun c_102 => ?_) (fun c_102 => ?_)
              · exact absurd c_102 (by decide)
              · refine lv_iload_n hx hb dX5_takeNumber_105 rfl (lv_at hl 4 rfl) ?_
                refine lv_goto (tgt := 110) hx hb dX5_takeNumber_106 (by decide) ?_
                refine W.widen (k := 0) (n := 0) (Nat.le_of_ble_eq_true rfl) (Nat.le_of_ble_eq_true rfl) ?_
                exact W.iret (v := q) hx hb hr (fun t ht hW => ⟨⟨q, wl Ls ad G1, rfl, ⟨by rw [tkV, if_pos h32, hk7, if_pos (by first | exact Or.inl ((nI_eq (by omega) (by decide)).mp (show nI k = nI 1 from c_81)) | exact Or.inr ⟨Nat.lt_of_not_le fun h => c_86 (nI_le h (by decide)), hz.elim (fun h => absurd (h.1.symm.trans c_90) (by decide)) (fun h => h.2)⟩), eq], G1, rfl, ⟨ht1, ht2, by rw [tkP, if_pos h32, hk7]; exact et1, et2, hlen, by rw [tkP, if_pos h32, hk7]; exact hpl, hne⟩, hfr1⟩, by rw [ht]; exact hP, hD⟩, hS.F ht⟩) hS.2.2 dX5_takeNumber_110
            · refine lv_iload_n hx hb dX5_takeNumber_84 rfl (lv_at hl 2 rfl) ?_
              refine lv_iconst (v := 1) hx hb dX5_takeNumber_85 (by decide) ?_
              refine lv_icmp_le (tgt := 97) hx hb dX5_takeNumber_86 (by decide) (fun c_86 => ?_) (fun c_86 => ?_)
              · refine lv_iconst (v := 0) hx hb dX5_takeNumber_97 (by decide) ?_
                refine lv_istore (lv' := [(4, .int 0), (0, .ref (ad 1)), (1, .int x1), (2, .int (nI k)), (3, .int q)]) hx hb dX5_takeNumber_98 hl (by decide) rfl (fun ls hl => ?_)
                refine lv_iload hx hb dX5_takeNumber_100 (lv_at hl 0 rfl) ?_
                refine lv_if_eq (tgt := 109) hx hb dX5_takeNumber_102 (by decide) (fun c_102 => ?_) (fun c_102 => ?_)
                · refine lv_iconst (v := (-1)) hx hb dX5_takeNumber_109 (by decide) ?_
                  refine W.widen (k := 0) (n := 0) (Nat.le_of_ble_eq_true rfl) (Nat.le_of_ble_eq_true rfl) ?_
                  exact W.iret (v := (-1)) hx hb hr (fun t ht hW => ⟨⟨(-1), wl Ls ad G1, rfl, ⟨by rw [tkV, if_pos h32, hk7, if_neg (tk_no hz (by first | exact Or.inl ⟨c_81, c_86⟩ | exact Or.inr ⟨c_81, c_90⟩))], G1, rfl, ⟨ht1, ht2, by rw [tkP, if_pos h32, hk7]; exact et1, et2, hlen, by rw [tkP, if_pos h32, hk7]; exact hpl, hne⟩, hfr1⟩, by rw [ht]; exact hP, hD⟩, hS.F ht⟩) hS.2.2 dX5_takeNumber_110
                · exact absurd rfl c_102
              · refine lv_iload_n hx hb dX5_takeNumber_89 rfl (lv_at hl 1 rfl) ?_
                refine lv_if_ne (tgt := 97) hx hb dX5_takeNumber_90 (by decide) (fun c_90 => ?_) (fun c_90 => ?_)
                · refine lv_iconst (v := 0) hx hb dX5_takeNumber_97 (by decide) ?_
                  refine lv_istore (lv' := [(4, .int 0), (0, .ref (ad 1)), (1, .int x1), (2, .int (nI k)), (3, .int q)]) hx hb dX5_takeNumber_98 hl (by decide) rfl (fun ls hl => ?_)
                  refine lv_iload hx hb dX5_takeNumber_100 (lv_at hl 0 rfl) ?_
                  refine lv_if_eq (tgt := 109) hx hb dX5_takeNumber_102 (by decide) (fun c_102 => ?_) (fun c_102 => ?_)
                  · refine lv_iconst (v := (-1)) hx hb dX5_takeNumber_109 (by decide) ?_
                    refine W.widen (k := 0) (n := 0) (Nat.le_of_ble_eq_true rfl) (Nat.le_of_ble_eq_true rfl) ?_
                    exact W.iret (v := (-1)) hx hb hr (fun t ht hW => ⟨⟨(-1), wl Ls ad G1, rfl, ⟨by rw [tkV, if_pos h32, hk7, if_neg (tk_no hz (by first | exact Or.inl ⟨c_81, c_86⟩ | exact Or.inr ⟨c_81, c_90⟩))], G1, rfl, ⟨ht1, ht2, by rw [tkP, if_pos h32, hk7]; exact et1, et2, hlen, by rw [tkP, if_pos h32, hk7]; exact hpl, hne⟩, hfr1⟩, by rw [ht]; exact hP, hD⟩, hS.F ht⟩) hS.2.2 dX5_takeNumber_110
                  · exact absurd rfl c_102
                · refine lv_iconst (v := 1) hx hb dX5_takeNumber_93 (by decide) ?_
                  refine lv_goto (tgt := 98) hx hb dX5_takeNumber_94 (by decide) ?_
                  refine lv_istore (lv' := [(4, .int 1), (0, .ref (ad 1)), (1, .int x1), (2, .int (nI k)), (3, .int q)]) hx hb dX5_takeNumber_98 hl (by decide) rfl (fun ls hl => ?_)
                  refine lv_iload hx hb dX5_takeNumber_100 (lv_at hl 0 rfl) ?_
                  refine lv_if_eq (tgt := 109) hx hb dX5_takeNumber_102 (by decide) (fun c_102 => ?_) (fun c_102 => ?_)
                  · exact absurd c_102 (by decide)
                  · refine lv_iload_n hx hb dX5_takeNumber_105 rfl (lv_at hl 4 rfl) ?_
                    refine lv_goto (tgt := 110) hx hb dX5_takeNumber_106 (by decide) ?_
                    refine W.widen (k := 0) (n := 0) (Nat.le_of_ble_eq_true rfl) (Nat.le_of_ble_eq_true rfl) ?_
                    exact W.iret (v := q) hx hb hr (fun t ht hW => ⟨⟨q, wl Ls ad G1, rfl, ⟨by rw [tkV, if_pos h32, hk7, if_pos (by first | exact Or.inl ((nI_eq (by omega) (by decide)).mp (show nI k = nI 1 from c_81)) | exact Or.inr ⟨Nat.lt_of_not_le fun h => c_86 (nI_le h (by decide)), hz.elim (fun h => absurd (h.1.symm.trans c_90) (by decide)) (fun h => h.2)⟩), eq], G1, rfl, ⟨ht1, ht2, by rw [tkP, if_pos h32, hk7]; exact et1, et2, hlen, by rw [tkP, if_pos h32, hk7]; exact hpl, hne⟩, hfr1⟩, by rw [ht]; exact hP, hD⟩, hS.F ht⟩) hS.2.2 dX5_takeNumber_110
          · have hdg : 48 ≤ nx f len (pl + 1 + k) ∧ nx f len (pl + 1 + k) ≤ 57 := by
              rw [← hr_47]
              exact Decidable.byContradiction fun h => c_57 (by rw [hr_54]; exact wI_eq0.mpr h)
            have hin1 : pl + 1 + k < len := Decidable.byContradiction fun h => by
              rw [nx, if_neg h] at hdg
              exact absurd hdg.1 (by decide)
            refine lv_bipush (v := 10) hx hb dX5_takeNumber_60 (by decide) ?_
            refine lv_iload_n hx hb dX5_takeNumber_62 rfl (lv_at hl 3 rfl) ?_
            refine lv_imul hx hb dX5_takeNumber_63 ?_
            refine lv_aload_n hx hb dX5_takeNumber_64 rfl (lv_at hl 0 rfl) ?_
            refine va_calli (va_runV (As := []) (rest := [.int (10 * q)]) ⟨hx, hb, hml, hown, hts⟩ (c_X5_takeSign l hl0 D y b0 Ls ad G1 f len (pl + 1 + k) hTx1) (cwV 0 hts gX5_takeNumber_X5_takeSign rfl rfl rfl (by decide +kernel) ⟨(Nat.le_of_ble_eq_true rfl), (Nat.le_of_ble_eq_true rfl)⟩) ⟨WdM_blind, Wd_recv hK hP (ci := 7) rfl ht1 et1, WdM_at hP hK hN hD hS hb0 hT⟩ rfl rfl hl.1 rfl (lv_room (Nat.le_of_ble_eq_true rfl)) dX5_takeNumber_65 ⟨(Nat.le_of_ble_eq_true rfl), (Nat.le_of_ble_eq_true rfl)⟩) hS (fun _ _ h => h) (fun _ h => h) (fun r_65 u65 t H locs ht hvm hw65 hB hz1 hk1 hS => ?_)
            obtain ⟨hP, hD⟩ := hB
            rw [ht] at hP
            obtain ⟨hs65, G2, rfl, hTx2, hfr2⟩ := hw65
            refine lv_iadd hx hb dX5_takeNumber_68 ?_
            refine lv_bipush (v := 48) hx hb dX5_takeNumber_69 (by decide) ?_
            refine lv_isub hx hb dX5_takeNumber_71 ?_
            refine lv_topi (fun x_72 ex_72 => ?_)
            refine lv_istore_n (lv' := [(3, .int x_72), (0, .ref (ad 1)), (1, .int x1), (2, .int (nI k))]) hx hb dX5_takeNumber_72 rfl hl (by decide) rfl (fun ls hl => ?_)
            refine lv_iinc (v := nI (k + 1)) (lv' := [(2, .int (nI (k + 1))), (3, .int x_72), (0, .ref (ad 1)), (1, .int x1)]) hx hb dX5_takeNumber_73 hl (k := 3) rfl (nI_1 k) (by decide) rfl (fun ls hl => ?_)
            refine lv_goto (tgt := 40) hx hb dX5_takeNumber_76 (by decide) ?_
            exact ih40 (k + 1) x1 x_72 G2 (by omega) (by omega) (by rw [lk, if_pos ⟨hk, hdg⟩]) (by rw [ex_72, numV, hs65, nx, if_pos hin1, eq]) hz (by rw [nxp, if_pos hin1] at hTx2; exact hTx2) (fun j h1 h2 => (hfr2 j h1 h2).trans (hfr1 j h1 h2)) _ _ hP hD hS ls (lv_sub hl [2, 3, 0, 1] rfl)
    refine lv_aload_n hx hb dX5_takeNumber_11 rfl (lv_at hl 0 rfl) ?_
    refine lv_dup hx hb dX5_takeNumber_12 rfl ?_
    refine pv_get (ci := 7) (C := RX5) (T := TX5) (N := 3) hx hb hts hinX5 hown hK hP ht1 et1 rfl 2 (by decide) (hts (.fieldLink RX5 19 "StorageCharge$Text" "place" "I") (by decide +kernel)) (fun _ h9 => h9) rfl dX5_takeNumber_13 ?_
    refine lv_iconst (v := 1) hx hb dX5_takeNumber_16 (by decide) ?_
    refine lv_iadd hx hb dX5_takeNumber_17 ?_
    refine lv_topi (fun z9 ez9 => ?_)
    obtain rfl : z9 = nI (pl + 1) := ez9.trans (nI_1 pl)
    refine pv_put (ci := 7) (v := .int (nI (pl + 1))) (ty := .int) (C := RX5) (T := TX5) (N := 3) hx hb hts hinX5 tyX5 tyX5_ok nmX5 hown hK hP hD hS ht1 et1 rfl 2 (by decide) (hts (.fieldLink RX5 19 "StorageCharge$Text" "place" "I") (by decide +kernel)) (fun _ h9 => h9) rfl (by decide +kernel) rfl rfl (Nat.le_of_ble_eq_true rfl) dX5_takeNumber_18 (fun H locs hP hD hS => ?_)
    obtain ⟨G_18, eG_18⟩ : ∃ gg9 : Nat → va_E, gg9 = va_up G 1 (.inr (7, [.ref (ad 2), .int (nI len), .int (nI (pl + 1))])) := ⟨_, rfl⟩
    have hP : va_P D vwCl (wl Ls ad G_18) H := by rw [eG_18]; exact hP
    have hD : va_D (fun q => b0 ≤ q) (wl Ls ad G_18) := by rw [eG_18]; exact hD
    have et2 : G_18 2 = .inl (y 1, 400, .inl f) := by rw [eG_18, va_up_ne _ _ (by omega)]; exact et2
    have et1 : G_18 1 = .inr (7, [.ref (ad 2), .int (nI len), .int (nI (pl + 1))]) := by rw [eG_18]; exact va_up_self _ _ _
    have hTx1 : TextAt y Ls ad G_18 f len (pl + 1) := ⟨ht1, ht2, et1, et2, hlen, hin0, hne⟩
    have hfr1 : ∀ j, j ≠ 1 → j ≠ 2 → G_18 j = G j := fun j h1 h2 => by rw [eG_18, va_up_ne _ _ h1]
    refine lv_aload_n hx hb dX5_takeNumber_21 rfl (lv_at hl 0 rfl) ?_
    refine vp_callSi (va_Run.run (va_runV (As := []) (rest := []) ⟨hx, hb, hml, hown, hts⟩ (c_X5_nextSign l D y Ls ad G_18 f len (pl + 1) hTx1) (cwV 0 hts gX5_takeNumber_X5_nextSign rfl rfl rfl (by decide +kernel) ⟨Nat.le_of_ble_eq_true rfl, Nat.le_of_ble_eq_true rfl⟩) ⟨Wd_blind, Wd_recv hK hP (ci := 7) rfl ht1 et1, Wd_at hP hK hN⟩ rfl rfl hl.1 rfl (lv_room (Nat.le_of_ble_eq_true rfl)) dX5_takeNumber_22 ⟨(Nat.le_of_ble_eq_true rfl), (Nat.le_of_ble_eq_true rfl)⟩)) (fun r_22 hr_22 => ?_)
    refine lv_bipush (v := 48) hx hb dX5_takeNumber_25 (by decide) ?_
    refine lv_icmp_ne (tgt := 34) hx hb dX5_takeNumber_27 (by decide) (fun c_27 => ?_) (fun c_27 => ?_)
    · refine lv_iconst (v := 0) hx hb dX5_takeNumber_34 (by decide) ?_
      refine lv_istore_n (lv' := [(1, .int 0), (0, .ref (ad 1))]) hx hb dX5_takeNumber_35 rfl hl (by decide) rfl (fun ls hl => ?_)
      refine lv_iconst (v := 0) hx hb dX5_takeNumber_36 (by decide) ?_
      refine lv_istore_n (lv' := [(2, .int 0), (1, .int 0), (0, .ref (ad 1))]) hx hb dX5_takeNumber_37 rfl hl (by decide) rfl (fun ls hl => ?_)
      refine lv_iconst (v := 0) hx hb dX5_takeNumber_38 (by decide) ?_
      refine lv_istore_n (lv' := [(3, .int 0), (2, .int 0), (1, .int 0), (0, .ref (ad 1))]) hx hb dX5_takeNumber_39 rfl hl (by decide) rfl (fun ls hl => ?_)
      exact loop40 7 0 0 0 G_18 (by decide) (by decide) rfl rfl (Or.inr ⟨rfl, by rw [← hr_22]; exact c_27⟩) hTx1 hfr1 _ _ hP hD hS ls (lv_sub hl [3, 2, 1, 0] rfl)
    · refine lv_iconst (v := 1) hx hb dX5_takeNumber_30 (by decide) ?_
      refine lv_goto (tgt := 35) hx hb dX5_takeNumber_31 (by decide) ?_
      refine lv_istore_n (lv' := [(1, .int 1), (0, .ref (ad 1))]) hx hb dX5_takeNumber_35 rfl hl (by decide) rfl (fun ls hl => ?_)
      refine lv_iconst (v := 0) hx hb dX5_takeNumber_36 (by decide) ?_
      refine lv_istore_n (lv' := [(2, .int 0), (1, .int 1), (0, .ref (ad 1))]) hx hb dX5_takeNumber_37 rfl hl (by decide) rfl (fun ls hl => ?_)
      refine lv_iconst (v := 0) hx hb dX5_takeNumber_38 (by decide) ?_
      refine lv_istore_n (lv' := [(3, .int 0), (2, .int 0), (1, .int 1), (0, .ref (ad 1))]) hx hb dX5_takeNumber_39 rfl hl (by decide) rfl (fun ls hl => ?_)
      exact loop40 7 0 1 0 G_18 (by decide) (by decide) rfl rfl (Or.inl ⟨rfl, by rw [← hr_22]; exact c_27⟩) hTx1 hfr1 _ _ hP hD hS ls (lv_sub hl [3, 2, 1, 0] rfl)
  · refine lv_iconst (v := (-1)) hx hb dX5_takeNumber_9 (by decide) ?_
    refine W.widen (k := 0) (n := 0) (Nat.le_of_ble_eq_true rfl) (Nat.le_of_ble_eq_true rfl) ?_
    exact W.iret (v := (-1)) hx hb hr (fun t ht hW => ⟨⟨(-1), wl Ls ad G, rfl, ⟨by rw [tkV, if_neg (by rw [← hr_1]; exact c_6)], G, rfl, ⟨ht1, ht2, by rw [tkP, if_neg (by rw [← hr_1]; exact c_6)]; exact et1, et2, hlen, by rw [tkP, if_neg (by rw [← hr_1]; exact c_6)]; exact hpl, hne⟩, fun j h1 h2 => rfl⟩, by rw [ht]; exact hP, hD⟩, hS.F ht⟩) hS.2.2 dX5_takeNumber_10
