/-! the law's cases -/
def wsL_law9 : List Cond := wsL_law ++ (.classLink RL 69 (exN 5) :: (vx_atS RX7 228 (exN 5) N3).filter goodWord)
theorem gL_law9_L_at9 : GoodIn wsL_law9 (va_wsS RL 131 yL_at wsL_at9) := goodIn_app (fun w h => ⟨List.mem_append_left _ (gL_law_L_at w (List.mem_append_left _ h)).1, (gL_law_L_at w (List.mem_append_left _ h)).2⟩) (goodIn_app (fun w h => ⟨List.mem_append_left _ (ggL_law_L_at w h).1, (ggL_law_L_at w h).2⟩) (goodIn_sub (fun w h => List.mem_append_right _ h) (by decide +kernel)))
/-- what holds all along -/
def LawC (p : Program) (l : Launch) (s : State) (m : MethodId) (c : Code) (b L : Nat) (xs : Nat → Int32) (D : va_G) (y : Nat → ClassId) (df mr : Nat) : Prop :=
  p.tables.exec = Jvm.exec ∧ c.code = cL_law ∧ c.maxLocals = 7 ∧ s.vm.findClass RL = some m.cls ∧ (∀ w ∈ wsL_law9, w.before #[Value.ref b] s = true) ∧ va_X b L xs s s.heap ∧ b < s.heap.size ∧ va_K D vwCl (TY y) s ∧ (∀ w ∈ nestW, va_Nw w s) ∧ ThP s.heap.size s ∧ LsP s.heap.size df mr s ∧ NcP s ∧ L ≤ 2560 ∧ l.stackTraces = false
theorem rm_c {a k : Nat} (h : a + 7 ≤ 601024) (hk : k ≤ 7) : a + k ≤ room_1.cells := by
  show a + k ≤ 601024
  omega
theorem rm_s {a k : Nat} (h : a + 1043 ≤ 7293033) (hk : k ≤ 1043) : a + k ≤ room_1.slots := Nat.le_trans (show a + k ≤ 7293033 by omega) (by decide)
theorem Rel_q {y : Nat → ClassId} {df n : Nat} {qa : Nat × Nat × Nat} {Ls : List Nat} {ad : Nat → Nat} {G : Nat → va_E} {F : Nat → Int32} {A : Nat → Nat → Int32} {lo : Nat → Int64} (h : Rel y df qa n Ls ad G F A lo) : (ad 0 = qa.1 ∧ ad 70 = qa.2.1 ∧ ad 100 = qa.2.2) ∧ ModelAt y Ls ad G F A ∧ OutAt y Ls G lo := by
  obtain ⟨ch, dr, st, ha, mi, dO, dD, dP, nd, li, ow, len, ln, nu, uo, uf, ul, ug, ut, uk, ud, nm, nl, pn, hC, hM, hMo, hOu⟩ := h
  exact ⟨hC.2.2.2.2.2.2.2.2.2.2.2.2.2.2.2.2.2, hMo, hOu⟩
section
variable {p : Program} {l : Launch} {e : Env} {R : Room} {s : State} {m : MethodId} {args : Array Value} {below : List Frame} {meth : Method} {c : Code} {H H0 : Heap} {locs : List Loc} {cells slots : Nat} {Q : State → Prop}
variable {cc : ByteArray} {pc : Nat} {ls : Array Slot} {rest : List Value} {A : Nat → Prop}
theorem lw_rd (hexec : p.tables.exec = Jvm.exec) (hb : c.code = cc) {b L : Nat} {xs : Nat → Int32} (hX : va_X b L xs s H0) (hbl : b < H0.size) (hbA : ¬ A b) (hS : va_S A H0 H locs) {j t : Nat} {ti : Int32} (hti : ti = nI t) (hlt : j + t < L) (hL : L ≤ 2560) (hdg : decode cc pc = .ok (.iaload, 1))
    (kk : W p l e R s m args below meth c H locs cells slots Q (F0 m (pc + 1) ls (.int (xs (j + t)) :: rest))) : W p l e R s m args below meth c H locs cells slots Q (F0 m pc ls (.int (nI j + ti) :: .ref b :: rest)) := by
  subst hti
  rw [nI_add]
  exact va_sld hexec hb hX hbl hbA hS (vp_in_nI hlt (by omega)) hdg (by rw [nI_clamp (by omega)]; exact kk)
end

set_option maxHeartbeats 4000000 in
set_option maxRecDepth 100000 in
theorem lc_sign {p : Program} {l : Launch} {e : Env} {s : State} {m : MethodId} {below : List Frame} {meth : Method} {c : Code} {b L : Nat} {xs : Nat → Int32} {D : va_G} {y : Nat → ClassId} {df mr : Nat} (hc : LawC p l s m c b L xs D y df mr) {k : Nat} (hk : 5 * k + 5 ≤ L) {qa : Nat × Nat × Nat} {Ls : List Nat} {ad : Nat → Nat} {G : Nat → va_E} {F : Nat → Int32} {A : Nat → Nat → Int32} {lo : Nat → Int64} (hRel : Rel y df qa k Ls ad G F A lo) {H : Heap} {locs : List Loc} (hP : va_P D vwCl (wl Ls ad G) H) (hD : va_D (fun q => s.heap.size ≤ q) (wl Ls ad G)) (hS : va_S (fun q => s.heap.size ≤ q) s.heap H locs) {cells slots : Nat} (hrc : cells + 7 ≤ 601024) (hrs : slots + 1043 ≤ 7293033) {ls : Array Slot} (hl : lv_has ls 7 [(0, .ref b), (1, .ref qa.1), (2, .ref qa.2.2), (3, .ref qa.2.1), (4, .int (nI (5 * k)))]) {Q : State → Prop}
    (kk : ∀ Ls2 ad2 G2 F2 A2 lo2 H2 locs2 ls2, Rel y df qa (k + 1) Ls2 ad2 G2 F2 A2 lo2 → va_P D vwCl (wl Ls2 ad2 G2) H2 → va_D (fun q => s.heap.size ≤ q) (wl Ls2 ad2 G2) → va_S (fun q => s.heap.size ≤ q) s.heap H2 locs2 → lv_has ls2 7 [(0, .ref b), (1, .ref qa.1), (2, .ref qa.2.2), (3, .ref qa.2.1), (4, .int (nI (5 * k)))] → W p l e room_1 s m #[Value.ref b] below meth c H2 locs2 (cells + 7) (slots + 1043) Q (F0 m 1209 ls2 [])) :
    W p l e room_1 s m #[Value.ref b] below meth c H locs cells slots Q (F0 m 120 ls []) := by
  obtain ⟨hx, hb, hml, hown, hts9, hX9, hbl, hK, hN, hT, hLs, hNc, hL, hl0⟩ := hc
  have hts : ∀ w ∈ wsL_law, w.before #[Value.ref b] s = true := fun w h => hts9 w (List.mem_append_left _ h)
  have hbA : ¬ (fun q : Nat => s.heap.size ≤ q) b := Nat.not_le.mpr hbl
  obtain ⟨ch, dr, st, ha, mi, dO, dD, dP, nd, li, ow, len, ln, nu, uo, uf, ul, ug, ut, uk, ud, nm, nl, pn, hC, hM, hMo, hOu⟩ := hRel
  obtain ⟨hX, hcd, hCg, ⟨d2, hDr⟩, hTx, hUs, hMs, hBs, hPa, hE3, hE5, hE8, hf1, hf2, hf3, hnu, hnm, hqa⟩ := id hC
  obtain ⟨f1, f3, f14, f21, f26, f32, hCh, hln, hUR, hMv, hBl, hnl, hbil⟩ := id hM
  have hk5 : k < 512 := by omega
  have hlen := hTx.2.2.2.2.1
  have hpn := hPa.2.2.2.2
  rw [← hqa.1, ← hqa.2.1] at hl
  refine lv_aload_n hx hb dL_law_120 rfl (lv_at hl 1 rfl) ?_
  refine lv_aload_n hx hb dL_law_121 rfl (lv_at hl 0 rfl) ?_
  refine lv_iload hx hb dL_law_122 (lv_at hl 4 rfl) ?_
  refine lv_iconst (v := 1) hx hb dL_law_124 (by decide) ?_
  refine lv_iadd hx hb dL_law_125 ?_
  refine lw_rd hx hb hX9 hbl hbA hS (t := 1) rfl (by omega) hL dL_law_126 ?_
  refine lv_aload_n hx hb dL_law_127 rfl (lv_at hl 3 rfl) ?_
  refine va_calli (vx_runSW (As := [.ref (ad 0), .int (xs (5 * k + 1)), .ref (ad 70)]) (rest := []) ⟨hx, hb, hml, hown, hts⟩ (c_L_sign l D y s.heap.size df mr Ls ad G lo hOu hX.1 hX.2 (xs (5 * k + 1)) (c_X7_sign l hl0 D y s.heap.size Ls ad G ch dr hX (A 2) len 0 hTx (xs (5 * k + 1))) (hp_sign hOu) (fun k9 h9 => by rcases h9 with h9 | h9 <;> have := h9.1 <;> omega)) (vx_cwSW 3 hts gL_law_L_sign rfl rfl rfl (by decide +kernel) ⟨(Nat.le_of_ble_eq_true rfl), (Nat.le_of_ble_eq_true rfl)⟩) ⟨WdC_blind, WdC_at hP hK hN hD hS (Nat.le_refl _) hT hLs hNc⟩ rfl rfl hl.1 rfl (lv_room (Nat.le_of_ble_eq_true rfl)) dL_law_128 ⟨(show _ ≤ 601024 by omega), Nat.le_trans (show _ ≤ 7293033 by omega) (by decide)⟩) hS (fun _ _ h => h) (fun _ h => h) (fun r5 u5 t H locs ht hvm hw5 hB hz1 hk1 hS => ?_)
  obtain ⟨hP, hD⟩ := hB
  rw [ht] at hP
  refine lv_istore (lv' := [(5, .int r5), (0, .ref b), (1, .ref (ad 0)), (2, .ref qa.2.2), (3, .ref (ad 70)), (4, .int (nI (5 * k)))]) hx hb dL_law_131 hl (by decide) rfl (fun ls hl => ?_)
  obtain ⟨L1, a1, g1, rfl, ha1, hM1, hnext⟩ := st_sign hC hM hMo hOu hw5
  rw [hqa.1, hqa.2.1, ← ha1] at hl
  refine lv_aload_n hx hb dL_law_133 rfl (lv_at hl 3 rfl) ?_
  refine lv_aload_n hx hb dL_law_134 rfl (lv_at hl 1 rfl) ?_
  refine lv_iload hx hb dL_law_135 (lv_at hl 5 rfl) ?_
  refine lv_iconst (v := 1) hx hb dL_law_137 (by decide) ?_
  refine lv_iadd hx hb dL_law_138 ?_
  refine lw_rd hx hb hX9 hbl hbA hS (t := 1) rfl (by omega) hL dL_law_139 ?_
  refine va_calli (va_runV (As := [.int (xs (5 * k + 1))]) (rest := []) ⟨hx, hb, hml, hown, hts⟩ (c_X8_sign l hl0 D y s.heap.size L1 a1 g1 F A hM1 len f1 hlen (xs (5 * k + 1))) (cwV 1 hts gL_law_X8_sign rfl rfl rfl (by decide +kernel) ⟨(Nat.le_of_ble_eq_true rfl), (Nat.le_of_ble_eq_true rfl)⟩) ⟨WdM_blind, Wd_recv hK hP (ci := 10) rfl hM1.1 hM1.2.1, WdM_at hP hK hN hD hS (Nat.le_refl _) hT⟩ rfl rfl hl.1 rfl (lv_room (Nat.le_of_ble_eq_true rfl)) dL_law_140 ⟨(show _ ≤ 601024 by omega), Nat.le_trans (show _ ≤ 7293033 by omega) (by decide)⟩) hS (fun _ _ h => h) (fun _ h => h) (fun r6 u6 t H locs ht hvm hw6 hB hz2 hk2 hS => ?_)
  obtain ⟨hP, hD⟩ := hB
  rw [ht] at hP
  refine lv_istore (lv' := [(6, .int r6), (5, .int r5), (0, .ref b), (1, .ref qa.1), (2, .ref (a1 100)), (3, .ref qa.2.1), (4, .int (nI (5 * k)))]) hx hb dL_law_143 hl (by decide) rfl (fun ls hl => ?_)
  obtain ⟨L2, a2, g2, F2, A2, lo2, rfl, hRel2, h05, hans⟩ := hnext r6 u6 hw6
  obtain ⟨hq2, hM2, hOu2⟩ := Rel_q hRel2
  rw [ha1, ← hq2.2.2, ← hq2.2.1] at hl
  refine lv_aload_n hx hb dL_law_145 rfl (lv_at hl 4 rfl) ?_
  refine vp_callSi (va_Run.run (va_runV (As := []) (rest := []) ⟨hx, hb, hml, hown, hts⟩ (c_X8_thrown l D y L2 a2 g2 F2 A2 hM2) (cwV 0 hts gL_law_X8_thrown rfl rfl rfl (by decide +kernel) ⟨(Nat.le_of_ble_eq_true rfl), (Nat.le_of_ble_eq_true rfl)⟩) ⟨Wd_blind, Wd_recv hK hP (ci := 10) rfl hM2.1 hM2.2.1, Wd_at hP hK hN⟩ rfl rfl hl.1 rfl (lv_room (Nat.le_of_ble_eq_true rfl)) dL_law_146 ⟨(show _ ≤ 601024 by omega), Nat.le_trans (show _ ≤ 7293033 by omega) (by decide)⟩)) (fun r7 hr7 => ?_)
  refine lv_iload hx hb dL_law_149 (lv_at hl 1 rfl) ?_
  refine lv_icmp_eq (tgt := 156) hx hb dL_law_151 (by decide) (fun c1 => ?_) (fun c1 => ?_)
  · refine lv_iload hx hb dL_law_156 (lv_at hl 1 rfl) ?_
    refine lv_if_ne (tgt := 173) hx hb dL_law_158 (by decide) (fun c2 => ?_) (fun c2 => ?_)
    · refine lv_goto (tgt := 1209) hx hb dL_law_173 (by decide) ?_
      refine W.widen (k := cells + 7) (n := slots + 1043) (by omega) (by omega) ?_
      rw [hq2.2.2, hq2.2.1] at hl
      exact kk _ _ _ _ _ _ _ _ _ hRel2 hP hD hS (lv_sub hl [2, 3, 4, 5, 6] rfl)
    · refine lv_aload_n hx hb dL_law_161 rfl (lv_at hl 5 rfl) ?_
      refine lv_iconst (v := 0) hx hb dL_law_162 (by decide) ?_
      refine pv_lald hx hb hK hP hOu2.1 4 hOu2.2 rfl (k := 0) rfl (by decide) (by decide) dL_law_163 ?_
      refine lv_iload hx hb dL_law_164 (lv_at hl 0 rfl) ?_
      refine lv_i2l hx hb dL_law_166 rfl ?_
      refine W.lcmp hx hb dL_law_167 ?_
      refine lv_if_eq (tgt := 173) hx hb dL_law_168 (by decide) (fun c3 => ?_) (fun c3 => ?_)
      · refine lv_goto (tgt := 1209) hx hb dL_law_173 (by decide) ?_
        refine W.widen (k := cells + 7) (n := slots + 1043) (by omega) (by omega) ?_
        rw [hq2.2.2, hq2.2.1] at hl
        exact kk _ _ _ _ _ _ _ _ _ hRel2 hP hD hS (lv_sub hl [2, 3, 4, 5, 6] rfl)
      · exact absurd ((lg_cmp_eq _ _).mpr (hans c2)) c3
  · exact absurd (by rw [hr7, h05]) c1

set_option maxHeartbeats 4000000 in
set_option maxRecDepth 100000 in
theorem lc_read {p : Program} {l : Launch} {e : Env} {s : State} {m : MethodId} {below : List Frame} {meth : Method} {c : Code} {b L : Nat} {xs : Nat → Int32} {D : va_G} {y : Nat → ClassId} {df mr : Nat} (hc : LawC p l s m c b L xs D y df mr) {k : Nat} (hk : 5 * k + 5 ≤ L) {qa : Nat × Nat × Nat} {Ls : List Nat} {ad : Nat → Nat} {G : Nat → va_E} {F : Nat → Int32} {A : Nat → Nat → Int32} {lo : Nat → Int64} (hRel : Rel y df qa k Ls ad G F A lo) {H : Heap} {locs : List Loc} (hP : va_P D vwCl (wl Ls ad G) H) (hD : va_D (fun q => s.heap.size ≤ q) (wl Ls ad G)) (hS : va_S (fun q => s.heap.size ≤ q) s.heap H locs) {cells slots : Nat} (hrc : cells + 7 ≤ 601024) (hrs : slots + 1043 ≤ 7293033) {ls : Array Slot} (hl : lv_has ls 7 [(0, .ref b), (1, .ref qa.1), (2, .ref qa.2.2), (3, .ref qa.2.1), (4, .int (nI (5 * k)))]) {Q : State → Prop}
    (kk : ∀ Ls2 ad2 G2 F2 A2 lo2 H2 locs2 ls2, Rel y df qa (k + 1) Ls2 ad2 G2 F2 A2 lo2 → va_P D vwCl (wl Ls2 ad2 G2) H2 → va_D (fun q => s.heap.size ≤ q) (wl Ls2 ad2 G2) → va_S (fun q => s.heap.size ≤ q) s.heap H2 locs2 → lv_has ls2 7 [(0, .ref b), (1, .ref qa.1), (2, .ref qa.2.2), (3, .ref qa.2.1), (4, .int (nI (5 * k)))] → W p l e room_1 s m #[Value.ref b] below meth c H2 locs2 (cells + 7) (slots + 1043) Q (F0 m 1209 ls2 [])) :
    W p l e room_1 s m #[Value.ref b] below meth c H locs cells slots Q (F0 m 176 ls []) := by
  obtain ⟨hx, hb, hml, hown, hts9, hX9, hbl, hK, hN, hT, hLs, hNc, hL, hl0⟩ := hc
  have hts : ∀ w ∈ wsL_law, w.before #[Value.ref b] s = true := fun w h => hts9 w (List.mem_append_left _ h)
  have hbA : ¬ (fun q : Nat => s.heap.size ≤ q) b := Nat.not_le.mpr hbl
  obtain ⟨ch, dr, st, ha, mi, dO, dD, dP, nd, li, ow, len, ln, nu, uo, uf, ul, ug, ut, uk, ud, nm, nl, pn, hC, hM, hMo, hOu⟩ := hRel
  obtain ⟨hX, hcd, hCg, ⟨d2, hDr⟩, hTx, hUs, hMs, hBs, hPa, hE3, hE5, hE8, hf1, hf2, hf3, hnu, hnm, hqa⟩ := id hC
  obtain ⟨f1, f3, f14, f21, f26, f32, hCh, hln, hUR, hMv, hBl, hnl, hbil⟩ := id hM
  have hk5 : k < 512 := by omega
  have hlen := hTx.2.2.2.2.1
  have hpn := hPa.2.2.2.2
  rw [← hqa.1, ← hqa.2.1] at hl
  refine lv_aload_n hx hb dL_law_176 rfl (lv_at hl 1 rfl) ?_
  refine va_calli (va_runV (As := []) (rest := []) ⟨hx, hb, hml, hown, hts⟩ (c_X7_read l hl0 D y s.heap.size Ls ad G ch dr hX (A 2) len 0 hTx d2.2.1 d2.2.2.1 d2.2.2.2.1 d2.2.2.2.2.1 d2.2.2.2.2.2.1 d2.2.2.2.2.2.2.1 d2.2.2.2.2.2.2.2.1 d2.2.2.2.2.2.2.2.2.1 d2.2.2.2.2.2.2.2.2.2 hDr (by omega)) (cwV 0 hts gL_law_X7_read rfl rfl rfl (by decide +kernel) ⟨(Nat.le_of_ble_eq_true rfl), (Nat.le_of_ble_eq_true rfl)⟩) ⟨WdM_blind, Wd_recv hK hP (ci := 9) rfl hX.1 hX.2, WdM_at hP hK hN hD hS (Nat.le_refl _) hT⟩ rfl rfl hl.1 rfl (lv_room (Nat.le_of_ble_eq_true rfl)) dL_law_177 ⟨(show _ ≤ 601024 by omega), Nat.le_trans (show _ ≤ 7293033 by omega) (by decide)⟩) hS (fun _ _ h => h) (fun _ h => h) (fun r5 u5 t H locs ht hvm hw5 hB hz1 hk1 hS => ?_)
  obtain ⟨hP, hD⟩ := hB
  rw [ht] at hP
  obtain ⟨L1, a1, g1, rfl, ha1, hM1, hnext⟩ := st_read (d2 := d2) hC hM hMo hOu hw5
  rw [← ha1] at hl
  refine lv_aload_n hx hb dL_law_180 rfl (lv_at hl 2 rfl) ?_
  refine va_calli (va_runV (As := []) (rest := [.int r5]) ⟨hx, hb, hml, hown, hts⟩ (c_X8_read l hl0 D y s.heap.size L1 a1 g1 F A hM1 len f1 hlen) (cwV 0 hts gL_law_X8_read rfl rfl rfl (by decide +kernel) ⟨(Nat.le_of_ble_eq_true rfl), (Nat.le_of_ble_eq_true rfl)⟩) ⟨WdM_blind, Wd_recv hK hP (ci := 10) rfl hM1.1 hM1.2.1, WdM_at hP hK hN hD hS (Nat.le_refl _) hT⟩ rfl rfl hl.1 rfl (lv_room (Nat.le_of_ble_eq_true rfl)) dL_law_181 ⟨(show _ ≤ 601024 by omega), Nat.le_trans (show _ ≤ 7293033 by omega) (by decide)⟩) hS (fun _ _ h => h) (fun _ h => h) (fun r6 u6 t H locs ht hvm hw6 hB hz2 hk2 hS => ?_)
  obtain ⟨hP, hD⟩ := hB
  rw [ht] at hP
  obtain ⟨L2, a2, g2, F2, A2, lo2, rfl, hRel2, h56⟩ := hnext r6 u6 hw6
  refine lv_icmp_eq (tgt := 1209) hx hb dL_law_184 (by decide) (fun c1 => ?_) (fun c1 => ?_)
  · refine W.widen (k := cells + 7) (n := slots + 1043) (by omega) (by omega) ?_
    rw [ha1, hqa.1, hqa.2.1] at hl
    exact kk _ _ _ _ _ _ _ _ _ hRel2 hP hD hS hl
  · exact absurd h56 c1

set_option maxHeartbeats 4000000 in
set_option maxRecDepth 100000 in
theorem lc_unit {p : Program} {l : Launch} {e : Env} {s : State} {m : MethodId} {below : List Frame} {meth : Method} {c : Code} {b L : Nat} {xs : Nat → Int32} {D : va_G} {y : Nat → ClassId} {df mr : Nat} (hc : LawC p l s m c b L xs D y df mr) {k : Nat} (hk : 5 * k + 5 ≤ L) {qa : Nat × Nat × Nat} {Ls : List Nat} {ad : Nat → Nat} {G : Nat → va_E} {F : Nat → Int32} {A : Nat → Nat → Int32} {lo : Nat → Int64} (hRel : Rel y df qa k Ls ad G F A lo) {H : Heap} {locs : List Loc} (hP : va_P D vwCl (wl Ls ad G) H) (hD : va_D (fun q => s.heap.size ≤ q) (wl Ls ad G)) (hS : va_S (fun q => s.heap.size ≤ q) s.heap H locs) {cells slots : Nat} (hrc : cells + 7 ≤ 601024) (hrs : slots + 1043 ≤ 7293033) {ls : Array Slot} (hl : lv_has ls 7 [(0, .ref b), (1, .ref qa.1), (2, .ref qa.2.2), (3, .ref qa.2.1), (4, .int (nI (5 * k)))]) {Q : State → Prop}
    (kk : ∀ Ls2 ad2 G2 F2 A2 lo2 H2 locs2 ls2, Rel y df qa (k + 1) Ls2 ad2 G2 F2 A2 lo2 → va_P D vwCl (wl Ls2 ad2 G2) H2 → va_D (fun q => s.heap.size ≤ q) (wl Ls2 ad2 G2) → va_S (fun q => s.heap.size ≤ q) s.heap H2 locs2 → lv_has ls2 7 [(0, .ref b), (1, .ref qa.1), (2, .ref qa.2.2), (3, .ref qa.2.1), (4, .int (nI (5 * k)))] → W p l e room_1 s m #[Value.ref b] below meth c H2 locs2 (cells + 7) (slots + 1043) Q (F0 m 1209 ls2 [])) :
    W p l e room_1 s m #[Value.ref b] below meth c H locs cells slots Q (F0 m 189 ls []) := by
  obtain ⟨hx, hb, hml, hown, hts9, hX9, hbl, hK, hN, hT, hLs, hNc, hL, hl0⟩ := hc
  have hts : ∀ w ∈ wsL_law, w.before #[Value.ref b] s = true := fun w h => hts9 w (List.mem_append_left _ h)
  have hbA : ¬ (fun q : Nat => s.heap.size ≤ q) b := Nat.not_le.mpr hbl
  obtain ⟨ch, dr, st, ha, mi, dO, dD, dP, nd, li, ow, len, ln, nu, uo, uf, ul, ug, ut, uk, ud, nm, nl, pn, hC, hM, hMo, hOu⟩ := hRel
  obtain ⟨hX, hcd, hCg, ⟨d2, hDr⟩, hTx, hUs, hMs, hBs, hPa, hE3, hE5, hE8, hf1, hf2, hf3, hnu, hnm, hqa⟩ := id hC
  obtain ⟨f1, f3, f14, f21, f26, f32, hCh, hln, hUR, hMv, hBl, hnl, hbil⟩ := id hM
  have hk5 : k < 512 := by omega
  have hlen := hTx.2.2.2.2.1
  have hpn := hPa.2.2.2.2
  rw [← hqa.1, ← hqa.2.1] at hl
  refine lv_aload_n hx hb dL_law_189 rfl (lv_at hl 1 rfl) ?_
  refine lv_aload_n hx hb dL_law_190 rfl (lv_at hl 0 rfl) ?_
  refine lv_iload hx hb dL_law_191 (lv_at hl 4 rfl) ?_
  refine lv_iconst (v := 1) hx hb dL_law_193 (by decide) ?_
  refine lv_iadd hx hb dL_law_194 ?_
  refine lw_rd hx hb hX9 hbl hbA hS (t := 1) rfl (by omega) hL dL_law_195 ?_
  refine lv_aload_n hx hb dL_law_196 rfl (lv_at hl 0 rfl) ?_
  refine lv_iload hx hb dL_law_197 (lv_at hl 4 rfl) ?_
  refine lv_iconst (v := 2) hx hb dL_law_199 (by decide) ?_
  refine lv_iadd hx hb dL_law_200 ?_
  refine lw_rd hx hb hX9 hbl hbA hS (t := 2) rfl (by omega) hL dL_law_201 ?_
  refine lv_aload_n hx hb dL_law_202 rfl (lv_at hl 0 rfl) ?_
  refine lv_iload hx hb dL_law_203 (lv_at hl 4 rfl) ?_
  refine lv_iconst (v := 3) hx hb dL_law_205 (by decide) ?_
  refine lv_iadd hx hb dL_law_206 ?_
  refine lw_rd hx hb hX9 hbl hbA hS (t := 3) rfl (by omega) hL dL_law_207 ?_
  refine lv_aload_n hx hb dL_law_208 rfl (lv_at hl 3 rfl) ?_
  refine va_calli (vx_runSW (As := [.ref (ad 0), .int (xs (5 * k + 1)), .int (xs (5 * k + 2)), .int (xs (5 * k + 3)), .ref (ad 70)]) (rest := []) ⟨hx, hb, hml, hown, hts⟩ (c_L_unit l D y s.heap.size df mr Ls ad G lo hOu hX.1 hX.2 (xs (5 * k + 1)) (xs (5 * k + 2)) (xs (5 * k + 3)) (c_X7_unit l hl0 D y s.heap.size df mr Ls ad G ch dr hX nu uo uf ul ug ut uk ud hUs hE3 hf1 (xs (5 * k + 1)) (xs (5 * k + 2)) (xs (5 * k + 3))) (hp_unit hOu) (fun k9 h9 => by rcases h9 with h9 | h9 <;> have := h9.1 <;> omega)) (vx_cwSW 5 hts gL_law_L_unit rfl rfl rfl (by decide +kernel) ⟨(Nat.le_of_ble_eq_true rfl), (Nat.le_of_ble_eq_true rfl)⟩) ⟨WdC_blind, WdC_at hP hK hN hD hS (Nat.le_refl _) hT hLs hNc⟩ rfl rfl hl.1 rfl (lv_room (Nat.le_of_ble_eq_true rfl)) dL_law_209 ⟨(show _ ≤ 601024 by omega), Nat.le_trans (show _ ≤ 7293033 by omega) (by decide)⟩) hS (fun _ _ h => h) (fun _ h => h) (fun r5 u5 t H locs ht hvm hw5 hB hz1 hk1 hS => ?_)
  obtain ⟨hP, hD⟩ := hB
  rw [ht] at hP
  refine lv_istore (lv' := [(5, .int r5), (0, .ref b), (1, .ref (ad 0)), (2, .ref qa.2.2), (3, .ref (ad 70)), (4, .int (nI (5 * k)))]) hx hb dL_law_212 hl (by decide) rfl (fun ls hl => ?_)
  obtain ⟨L1, a1, g1, rfl, ha1, hM1, hnext⟩ := st_unit hC hM hMo hOu hw5
  rw [hqa.1, hqa.2.1, ← ha1] at hl
  refine lv_aload_n hx hb dL_law_214 rfl (lv_at hl 3 rfl) ?_
  refine lv_aload_n hx hb dL_law_215 rfl (lv_at hl 1 rfl) ?_
  refine lv_iload hx hb dL_law_216 (lv_at hl 5 rfl) ?_
  refine lv_iconst (v := 1) hx hb dL_law_218 (by decide) ?_
  refine lv_iadd hx hb dL_law_219 ?_
  refine lw_rd hx hb hX9 hbl hbA hS (t := 1) rfl (by omega) hL dL_law_220 ?_
  refine lv_aload_n hx hb dL_law_221 rfl (lv_at hl 1 rfl) ?_
  refine lv_iload hx hb dL_law_222 (lv_at hl 5 rfl) ?_
  refine lv_iconst (v := 2) hx hb dL_law_224 (by decide) ?_
  refine lv_iadd hx hb dL_law_225 ?_
  refine lw_rd hx hb hX9 hbl hbA hS (t := 2) rfl (by omega) hL dL_law_226 ?_
  refine lv_aload_n hx hb dL_law_227 rfl (lv_at hl 1 rfl) ?_
  refine lv_iload hx hb dL_law_228 (lv_at hl 5 rfl) ?_
  refine lv_iconst (v := 3) hx hb dL_law_230 (by decide) ?_
  refine lv_iadd hx hb dL_law_231 ?_
  refine lw_rd hx hb hX9 hbl hbA hS (t := 3) rfl (by omega) hL dL_law_232 ?_
  refine va_calli (va_runV (As := [.int (xs (5 * k + 1)), .int (xs (5 * k + 2)), .int (xs (5 * k + 3))]) (rest := []) ⟨hx, hb, hml, hown, hts⟩ (c_X8_unit l hl0 D y s.heap.size L1 a1 g1 F A hM1 nu f14 hnu (xs (5 * k + 1)) (xs (5 * k + 2)) (xs (5 * k + 3))) (cwV 3 hts gL_law_X8_unit rfl rfl rfl (by decide +kernel) ⟨(Nat.le_of_ble_eq_true rfl), (Nat.le_of_ble_eq_true rfl)⟩) ⟨WdM_blind, Wd_recv hK hP (ci := 10) rfl hM1.1 hM1.2.1, WdM_at hP hK hN hD hS (Nat.le_refl _) hT⟩ rfl rfl hl.1 rfl (lv_room (Nat.le_of_ble_eq_true rfl)) dL_law_233 ⟨(show _ ≤ 601024 by omega), Nat.le_trans (show _ ≤ 7293033 by omega) (by decide)⟩) hS (fun _ _ h => h) (fun _ h => h) (fun r6 u6 t H locs ht hvm hw6 hB hz2 hk2 hS => ?_)
  obtain ⟨hP, hD⟩ := hB
  rw [ht] at hP
  refine lv_istore (lv' := [(6, .int r6), (5, .int r5), (0, .ref b), (1, .ref qa.1), (2, .ref (a1 100)), (3, .ref qa.2.1), (4, .int (nI (5 * k)))]) hx hb dL_law_236 hl (by decide) rfl (fun ls hl => ?_)
  obtain ⟨L2, a2, g2, F2, A2, lo2, rfl, hRel2, h05, hans⟩ := hnext r6 u6 hw6
  obtain ⟨hq2, hM2, hOu2⟩ := Rel_q hRel2
  rw [ha1, ← hq2.2.2, ← hq2.2.1] at hl
  refine lv_aload_n hx hb dL_law_238 rfl (lv_at hl 4 rfl) ?_
  refine vp_callSi (va_Run.run (va_runV (As := []) (rest := []) ⟨hx, hb, hml, hown, hts⟩ (c_X8_thrown l D y L2 a2 g2 F2 A2 hM2) (cwV 0 hts gL_law_X8_thrown rfl rfl rfl (by decide +kernel) ⟨(Nat.le_of_ble_eq_true rfl), (Nat.le_of_ble_eq_true rfl)⟩) ⟨Wd_blind, Wd_recv hK hP (ci := 10) rfl hM2.1 hM2.2.1, Wd_at hP hK hN⟩ rfl rfl hl.1 rfl (lv_room (Nat.le_of_ble_eq_true rfl)) dL_law_239 ⟨(show _ ≤ 601024 by omega), Nat.le_trans (show _ ≤ 7293033 by omega) (by decide)⟩)) (fun r7 hr7 => ?_)
  refine lv_iload hx hb dL_law_242 (lv_at hl 1 rfl) ?_
  refine lv_icmp_eq (tgt := 249) hx hb dL_law_244 (by decide) (fun c1 => ?_) (fun c1 => ?_)
  · refine lv_iload hx hb dL_law_249 (lv_at hl 1 rfl) ?_
    refine lv_if_ne (tgt := 266) hx hb dL_law_251 (by decide) (fun c2 => ?_) (fun c2 => ?_)
    · refine lv_goto (tgt := 1209) hx hb dL_law_266 (by decide) ?_
      refine W.widen (k := cells + 7) (n := slots + 1043) (by omega) (by omega) ?_
      rw [hq2.2.2, hq2.2.1] at hl
      exact kk _ _ _ _ _ _ _ _ _ hRel2 hP hD hS (lv_sub hl [2, 3, 4, 5, 6] rfl)
    · refine lv_aload_n hx hb dL_law_254 rfl (lv_at hl 5 rfl) ?_
      refine lv_iconst (v := 0) hx hb dL_law_255 (by decide) ?_
      refine pv_lald hx hb hK hP hOu2.1 4 hOu2.2 rfl (k := 0) rfl (by decide) (by decide) dL_law_256 ?_
      refine lv_iload hx hb dL_law_257 (lv_at hl 0 rfl) ?_
      refine lv_i2l hx hb dL_law_259 rfl ?_
      refine W.lcmp hx hb dL_law_260 ?_
      refine lv_if_eq (tgt := 266) hx hb dL_law_261 (by decide) (fun c3 => ?_) (fun c3 => ?_)
      · refine lv_goto (tgt := 1209) hx hb dL_law_266 (by decide) ?_
        refine W.widen (k := cells + 7) (n := slots + 1043) (by omega) (by omega) ?_
        rw [hq2.2.2, hq2.2.1] at hl
        exact kk _ _ _ _ _ _ _ _ _ hRel2 hP hD hS (lv_sub hl [2, 3, 4, 5, 6] rfl)
      · exact absurd ((lg_cmp_eq _ _).mpr (hans c2)) c3
  · exact absurd (by rw [hr7, h05]) c1

set_option maxHeartbeats 4000000 in
set_option maxRecDepth 100000 in
theorem lc_change {p : Program} {l : Launch} {e : Env} {s : State} {m : MethodId} {below : List Frame} {meth : Method} {c : Code} {b L : Nat} {xs : Nat → Int32} {D : va_G} {y : Nat → ClassId} {df mr : Nat} (hc : LawC p l s m c b L xs D y df mr) {k : Nat} (hk : 5 * k + 5 ≤ L) {qa : Nat × Nat × Nat} {Ls : List Nat} {ad : Nat → Nat} {G : Nat → va_E} {F : Nat → Int32} {A : Nat → Nat → Int32} {lo : Nat → Int64} (hRel : Rel y df qa k Ls ad G F A lo) {H : Heap} {locs : List Loc} (hP : va_P D vwCl (wl Ls ad G) H) (hD : va_D (fun q => s.heap.size ≤ q) (wl Ls ad G)) (hS : va_S (fun q => s.heap.size ≤ q) s.heap H locs) {cells slots : Nat} (hrc : cells + 7 ≤ 601024) (hrs : slots + 1043 ≤ 7293033) {ls : Array Slot} (hl : lv_has ls 7 [(0, .ref b), (1, .ref qa.1), (2, .ref qa.2.2), (3, .ref qa.2.1), (4, .int (nI (5 * k)))]) {Q : State → Prop}
    (kk : ∀ Ls2 ad2 G2 F2 A2 lo2 H2 locs2 ls2, Rel y df qa (k + 1) Ls2 ad2 G2 F2 A2 lo2 → va_P D vwCl (wl Ls2 ad2 G2) H2 → va_D (fun q => s.heap.size ≤ q) (wl Ls2 ad2 G2) → va_S (fun q => s.heap.size ≤ q) s.heap H2 locs2 → lv_has ls2 7 [(0, .ref b), (1, .ref qa.1), (2, .ref qa.2.2), (3, .ref qa.2.1), (4, .int (nI (5 * k)))] → W p l e room_1 s m #[Value.ref b] below meth c H2 locs2 (cells + 7) (slots + 1043) Q (F0 m 1209 ls2 [])) :
    W p l e room_1 s m #[Value.ref b] below meth c H locs cells slots Q (F0 m 269 ls []) := by
  obtain ⟨hx, hb, hml, hown, hts9, hX9, hbl, hK, hN, hT, hLs, hNc, hL, hl0⟩ := hc
  have hts : ∀ w ∈ wsL_law, w.before #[Value.ref b] s = true := fun w h => hts9 w (List.mem_append_left _ h)
  have hbA : ¬ (fun q : Nat => s.heap.size ≤ q) b := Nat.not_le.mpr hbl
  obtain ⟨ch, dr, st, ha, mi, dO, dD, dP, nd, li, ow, len, ln, nu, uo, uf, ul, ug, ut, uk, ud, nm, nl, pn, hC, hM, hMo, hOu⟩ := hRel
  obtain ⟨hX, hcd, hCg, ⟨d2, hDr⟩, hTx, hUs, hMs, hBs, hPa, hE3, hE5, hE8, hf1, hf2, hf3, hnu, hnm, hqa⟩ := id hC
  obtain ⟨f1, f3, f14, f21, f26, f32, hCh, hln, hUR, hMv, hBl, hnl, hbil⟩ := id hM
  have hk5 : k < 512 := by omega
  have hlen := hTx.2.2.2.2.1
  have hpn := hPa.2.2.2.2
  rw [← hqa.1, ← hqa.2.1] at hl
  refine lv_aload_n hx hb dL_law_269 rfl (lv_at hl 1 rfl) ?_
  refine lv_aload_n hx hb dL_law_270 rfl (lv_at hl 0 rfl) ?_
  refine lv_iload hx hb dL_law_271 (lv_at hl 4 rfl) ?_
  refine lv_iconst (v := 1) hx hb dL_law_273 (by decide) ?_
  refine lv_iadd hx hb dL_law_274 ?_
  refine lw_rd hx hb hX9 hbl hbA hS (t := 1) rfl (by omega) hL dL_law_275 ?_
  refine lv_aload_n hx hb dL_law_276 rfl (lv_at hl 0 rfl) ?_
  refine lv_iload hx hb dL_law_277 (lv_at hl 4 rfl) ?_
  refine lv_iconst (v := 2) hx hb dL_law_279 (by decide) ?_
  refine lv_iadd hx hb dL_law_280 ?_
  refine lw_rd hx hb hX9 hbl hbA hS (t := 2) rfl (by omega) hL dL_law_281 ?_
  refine lv_aload_n hx hb dL_law_282 rfl (lv_at hl 0 rfl) ?_
  refine lv_iload hx hb dL_law_283 (lv_at hl 4 rfl) ?_
  refine lv_iconst (v := 3) hx hb dL_law_285 (by decide) ?_
  refine lv_iadd hx hb dL_law_286 ?_
  refine lw_rd hx hb hX9 hbl hbA hS (t := 3) rfl (by omega) hL dL_law_287 ?_
  refine lv_aload_n hx hb dL_law_288 rfl (lv_at hl 3 rfl) ?_
  refine va_calli (vx_runSW (As := [.ref (ad 0), .int (xs (5 * k + 1)), .int (xs (5 * k + 2)), .int (xs (5 * k + 3)), .ref (ad 70)]) (rest := []) ⟨hx, hb, hml, hown, hts⟩ (c_L_change l D y s.heap.size df mr Ls ad G lo hOu hX.1 hX.2 (xs (5 * k + 1)) (xs (5 * k + 2)) (xs (5 * k + 3)) (c_X7_change l hl0 D y s.heap.size Ls ad G ch dr hX nu uo uf ul ug ut uk ud hUs (xs (5 * k + 1)) (xs (5 * k + 2)) (xs (5 * k + 3))) (hp_change hOu hnu) (fun k9 h9 => by rcases h9 with h9 | h9 | h9 | h9 <;> have := h9.1 <;> omega)) (vx_cwSW 5 hts gL_law_L_change rfl rfl rfl (by decide +kernel) ⟨(Nat.le_of_ble_eq_true rfl), (Nat.le_of_ble_eq_true rfl)⟩) ⟨WdC_blind, WdC_at hP hK hN hD hS (Nat.le_refl _) hT hLs hNc⟩ rfl rfl hl.1 rfl (lv_room (Nat.le_of_ble_eq_true rfl)) dL_law_289 ⟨(show _ ≤ 601024 by omega), Nat.le_trans (show _ ≤ 7293033 by omega) (by decide)⟩) hS (fun _ _ h => h) (fun _ h => h) (fun r5 u5 t H locs ht hvm hw5 hB hz1 hk1 hS => ?_)
  obtain ⟨hP, hD⟩ := hB
  rw [ht] at hP
  refine lv_istore (lv' := [(5, .int r5), (0, .ref b), (1, .ref (ad 0)), (2, .ref qa.2.2), (3, .ref (ad 70)), (4, .int (nI (5 * k)))]) hx hb dL_law_292 hl (by decide) rfl (fun ls hl => ?_)
  obtain ⟨L1, a1, g1, rfl, ha1, hM1, hnext⟩ := st_change hC hM hMo hOu hw5
  rw [hqa.1, hqa.2.1, ← ha1] at hl
  refine lv_aload_n hx hb dL_law_294 rfl (lv_at hl 3 rfl) ?_
  refine lv_aload_n hx hb dL_law_295 rfl (lv_at hl 1 rfl) ?_
  refine lv_iload hx hb dL_law_296 (lv_at hl 5 rfl) ?_
  refine lv_iconst (v := 1) hx hb dL_law_298 (by decide) ?_
  refine lv_iadd hx hb dL_law_299 ?_
  refine lw_rd hx hb hX9 hbl hbA hS (t := 1) rfl (by omega) hL dL_law_300 ?_
  refine lv_aload_n hx hb dL_law_301 rfl (lv_at hl 1 rfl) ?_
  refine lv_iload hx hb dL_law_302 (lv_at hl 5 rfl) ?_
  refine lv_iconst (v := 2) hx hb dL_law_304 (by decide) ?_
  refine lv_iadd hx hb dL_law_305 ?_
  refine lw_rd hx hb hX9 hbl hbA hS (t := 2) rfl (by omega) hL dL_law_306 ?_
  refine lv_aload_n hx hb dL_law_307 rfl (lv_at hl 1 rfl) ?_
  refine lv_iload hx hb dL_law_308 (lv_at hl 5 rfl) ?_
  refine lv_iconst (v := 3) hx hb dL_law_310 (by decide) ?_
  refine lv_iadd hx hb dL_law_311 ?_
  refine lw_rd hx hb hX9 hbl hbA hS (t := 3) rfl (by omega) hL dL_law_312 ?_
  refine va_calli (va_runV (As := [.int (xs (5 * k + 1)), .int (xs (5 * k + 2)), .int (xs (5 * k + 3))]) (rest := []) ⟨hx, hb, hml, hown, hts⟩ (c_X8_change l hl0 D y s.heap.size L1 a1 g1 F A hM1 nu f14 hnu ut (fun u hu => ⟨(hUR u hu).2.2.2.2.2.2.2.2.1, (hUR u hu).2.2.2.2.2.2.1, (hUR u hu).2.2.2.2.2.2.2.1⟩) (xs (5 * k + 1)) (xs (5 * k + 2)) (xs (5 * k + 3))) (cwV 3 hts gL_law_X8_change rfl rfl rfl (by decide +kernel) ⟨(Nat.le_of_ble_eq_true rfl), (Nat.le_of_ble_eq_true rfl)⟩) ⟨WdM_blind, Wd_recv hK hP (ci := 10) rfl hM1.1 hM1.2.1, WdM_at hP hK hN hD hS (Nat.le_refl _) hT⟩ rfl rfl hl.1 rfl (lv_room (Nat.le_of_ble_eq_true rfl)) dL_law_313 ⟨(show _ ≤ 601024 by omega), Nat.le_trans (show _ ≤ 7293033 by omega) (by decide)⟩) hS (fun _ _ h => h) (fun _ h => h) (fun r6 u6 t H locs ht hvm hw6 hB hz2 hk2 hS => ?_)
  obtain ⟨hP, hD⟩ := hB
  rw [ht] at hP
  refine lv_istore (lv' := [(6, .int r6), (5, .int r5), (0, .ref b), (1, .ref qa.1), (2, .ref (a1 100)), (3, .ref qa.2.1), (4, .int (nI (5 * k)))]) hx hb dL_law_316 hl (by decide) rfl (fun ls hl => ?_)
  obtain ⟨L2, a2, g2, F2, A2, lo2, rfl, hRel2, h05, hans⟩ := hnext r6 u6 hw6
  obtain ⟨hq2, hM2, hOu2⟩ := Rel_q hRel2
  rw [ha1, ← hq2.2.2, ← hq2.2.1] at hl
  refine lv_aload_n hx hb dL_law_318 rfl (lv_at hl 4 rfl) ?_
  refine vp_callSi (va_Run.run (va_runV (As := []) (rest := []) ⟨hx, hb, hml, hown, hts⟩ (c_X8_thrown l D y L2 a2 g2 F2 A2 hM2) (cwV 0 hts gL_law_X8_thrown rfl rfl rfl (by decide +kernel) ⟨(Nat.le_of_ble_eq_true rfl), (Nat.le_of_ble_eq_true rfl)⟩) ⟨Wd_blind, Wd_recv hK hP (ci := 10) rfl hM2.1 hM2.2.1, Wd_at hP hK hN⟩ rfl rfl hl.1 rfl (lv_room (Nat.le_of_ble_eq_true rfl)) dL_law_319 ⟨(show _ ≤ 601024 by omega), Nat.le_trans (show _ ≤ 7293033 by omega) (by decide)⟩)) (fun r7 hr7 => ?_)
  refine lv_iload hx hb dL_law_322 (lv_at hl 1 rfl) ?_
  refine lv_icmp_eq (tgt := 329) hx hb dL_law_324 (by decide) (fun c1 => ?_) (fun c1 => ?_)
  · refine lv_iload hx hb dL_law_329 (lv_at hl 1 rfl) ?_
    refine lv_if_ne (tgt := 353) hx hb dL_law_331 (by decide) (fun c2 => ?_) (fun c2 => ?_)
    · refine lv_goto (tgt := 1209) hx hb dL_law_353 (by decide) ?_
      refine W.widen (k := cells + 7) (n := slots + 1043) (by omega) (by omega) ?_
      rw [hq2.2.2, hq2.2.1] at hl
      exact kk _ _ _ _ _ _ _ _ _ hRel2 hP hD hS (lv_sub hl [2, 3, 4, 5, 6] rfl)
    · refine lv_aload_n hx hb dL_law_334 rfl (lv_at hl 5 rfl) ?_
      refine lv_iconst (v := 0) hx hb dL_law_335 (by decide) ?_
      refine pv_lald hx hb hK hP hOu2.1 4 hOu2.2 rfl (k := 0) rfl (by decide) (by decide) dL_law_336 ?_
      refine lv_iload hx hb dL_law_337 (lv_at hl 0 rfl) ?_
      refine lv_if_eq (tgt := 346) hx hb dL_law_339 (by decide) (fun c4 => ?_) (fun c4 => ?_)
      · refine lv_lconst (v := 0) hx hb dL_law_346 (by decide) ?_
        refine W.lcmp hx hb dL_law_347 ?_
        refine lv_if_eq (tgt := 353) hx hb dL_law_348 (by decide) (fun c3 => ?_) (fun c3 => ?_)
        · refine lv_goto (tgt := 1209) hx hb dL_law_353 (by decide) ?_
          refine W.widen (k := cells + 7) (n := slots + 1043) (by omega) (by omega) ?_
          rw [hq2.2.2, hq2.2.1] at hl
          exact kk _ _ _ _ _ _ _ _ _ hRel2 hP hD hS (lv_sub hl [2, 3, 4, 5, 6] rfl)
        · exact absurd ((lg_cmp_eq _ _).mpr ((hans c2).trans (if_pos c4))) c3
      · refine lv_lconst (v := 1) hx hb dL_law_342 (by decide) ?_
        refine lv_goto (tgt := 347) hx hb dL_law_343 (by decide) ?_
        refine W.lcmp hx hb dL_law_347 ?_
        refine lv_if_eq (tgt := 353) hx hb dL_law_348 (by decide) (fun c3 => ?_) (fun c3 => ?_)
        · refine lv_goto (tgt := 1209) hx hb dL_law_353 (by decide) ?_
          refine W.widen (k := cells + 7) (n := slots + 1043) (by omega) (by omega) ?_
          rw [hq2.2.2, hq2.2.1] at hl
          exact kk _ _ _ _ _ _ _ _ _ hRel2 hP hD hS (lv_sub hl [2, 3, 4, 5, 6] rfl)
        · exact absurd ((lg_cmp_eq _ _).mpr ((hans c2).trans (if_neg c4))) c3
  · exact absurd (by rw [hr7, h05]) c1

set_option maxHeartbeats 4000000 in
set_option maxRecDepth 100000 in
theorem lc_gone {p : Program} {l : Launch} {e : Env} {s : State} {m : MethodId} {below : List Frame} {meth : Method} {c : Code} {b L : Nat} {xs : Nat → Int32} {D : va_G} {y : Nat → ClassId} {df mr : Nat} (hc : LawC p l s m c b L xs D y df mr) {k : Nat} (hk : 5 * k + 5 ≤ L) {qa : Nat × Nat × Nat} {Ls : List Nat} {ad : Nat → Nat} {G : Nat → va_E} {F : Nat → Int32} {A : Nat → Nat → Int32} {lo : Nat → Int64} (hRel : Rel y df qa k Ls ad G F A lo) {H : Heap} {locs : List Loc} (hP : va_P D vwCl (wl Ls ad G) H) (hD : va_D (fun q => s.heap.size ≤ q) (wl Ls ad G)) (hS : va_S (fun q => s.heap.size ≤ q) s.heap H locs) {cells slots : Nat} (hrc : cells + 7 ≤ 601024) (hrs : slots + 1043 ≤ 7293033) {ls : Array Slot} (hl : lv_has ls 7 [(0, .ref b), (1, .ref qa.1), (2, .ref qa.2.2), (3, .ref qa.2.1), (4, .int (nI (5 * k)))]) {Q : State → Prop}
    (kk : ∀ Ls2 ad2 G2 F2 A2 lo2 H2 locs2 ls2, Rel y df qa (k + 1) Ls2 ad2 G2 F2 A2 lo2 → va_P D vwCl (wl Ls2 ad2 G2) H2 → va_D (fun q => s.heap.size ≤ q) (wl Ls2 ad2 G2) → va_S (fun q => s.heap.size ≤ q) s.heap H2 locs2 → lv_has ls2 7 [(0, .ref b), (1, .ref qa.1), (2, .ref qa.2.2), (3, .ref qa.2.1), (4, .int (nI (5 * k)))] → W p l e room_1 s m #[Value.ref b] below meth c H2 locs2 (cells + 7) (slots + 1043) Q (F0 m 1209 ls2 [])) :
    W p l e room_1 s m #[Value.ref b] below meth c H locs cells slots Q (F0 m 356 ls []) := by
  obtain ⟨hx, hb, hml, hown, hts9, hX9, hbl, hK, hN, hT, hLs, hNc, hL, hl0⟩ := hc
  have hts : ∀ w ∈ wsL_law, w.before #[Value.ref b] s = true := fun w h => hts9 w (List.mem_append_left _ h)
  have hbA : ¬ (fun q : Nat => s.heap.size ≤ q) b := Nat.not_le.mpr hbl
  obtain ⟨ch, dr, st, ha, mi, dO, dD, dP, nd, li, ow, len, ln, nu, uo, uf, ul, ug, ut, uk, ud, nm, nl, pn, hC, hM, hMo, hOu⟩ := hRel
  obtain ⟨hX, hcd, hCg, ⟨d2, hDr⟩, hTx, hUs, hMs, hBs, hPa, hE3, hE5, hE8, hf1, hf2, hf3, hnu, hnm, hqa⟩ := id hC
  obtain ⟨f1, f3, f14, f21, f26, f32, hCh, hln, hUR, hMv, hBl, hnl, hbil⟩ := id hM
  have hk5 : k < 512 := by omega
  have hlen := hTx.2.2.2.2.1
  have hpn := hPa.2.2.2.2
  rw [← hqa.1, ← hqa.2.1] at hl
  refine lv_aload_n hx hb dL_law_356 rfl (lv_at hl 1 rfl) ?_
  refine lv_aload_n hx hb dL_law_357 rfl (lv_at hl 0 rfl) ?_
  refine lv_iload hx hb dL_law_358 (lv_at hl 4 rfl) ?_
  refine lv_iconst (v := 1) hx hb dL_law_360 (by decide) ?_
  refine lv_iadd hx hb dL_law_361 ?_
  refine lw_rd hx hb hX9 hbl hbA hS (t := 1) rfl (by omega) hL dL_law_362 ?_
  refine lv_aload_n hx hb dL_law_363 rfl (lv_at hl 0 rfl) ?_
  refine lv_iload hx hb dL_law_364 (lv_at hl 4 rfl) ?_
  refine lv_iconst (v := 2) hx hb dL_law_366 (by decide) ?_
  refine lv_iadd hx hb dL_law_367 ?_
  refine lw_rd hx hb hX9 hbl hbA hS (t := 2) rfl (by omega) hL dL_law_368 ?_
  refine lv_aload_n hx hb dL_law_369 rfl (lv_at hl 3 rfl) ?_
  refine va_calli (vx_runSW (As := [.ref (ad 0), .int (xs (5 * k + 1)), .int (xs (5 * k + 2)), .ref (ad 70)]) (rest := []) ⟨hx, hb, hml, hown, hts⟩ (c_L_gone l D y s.heap.size df mr Ls ad G lo hOu hX.1 hX.2 (xs (5 * k + 1)) (xs (5 * k + 2)) (c_X7_gone l hl0 D y s.heap.size Ls ad G ch dr hX nu uo uf ul ug ut uk ud hUs (xs (5 * k + 1)) (xs (5 * k + 2))) (hp_gone hOu hnu) (fun k9 h9 => by rcases h9 with h9 | h9 | h9 <;> have := h9.1 <;> omega)) (vx_cwSW 4 hts gL_law_L_gone rfl rfl rfl (by decide +kernel) ⟨(Nat.le_of_ble_eq_true rfl), (Nat.le_of_ble_eq_true rfl)⟩) ⟨WdC_blind, WdC_at hP hK hN hD hS (Nat.le_refl _) hT hLs hNc⟩ rfl rfl hl.1 rfl (lv_room (Nat.le_of_ble_eq_true rfl)) dL_law_370 ⟨(show _ ≤ 601024 by omega), Nat.le_trans (show _ ≤ 7293033 by omega) (by decide)⟩) hS (fun _ _ h => h) (fun _ h => h) (fun r5 u5 t H locs ht hvm hw5 hB hz1 hk1 hS => ?_)
  obtain ⟨hP, hD⟩ := hB
  rw [ht] at hP
  refine lv_istore (lv' := [(5, .int r5), (0, .ref b), (1, .ref (ad 0)), (2, .ref qa.2.2), (3, .ref (ad 70)), (4, .int (nI (5 * k)))]) hx hb dL_law_373 hl (by decide) rfl (fun ls hl => ?_)
  obtain ⟨L1, a1, g1, rfl, ha1, hM1, hnext⟩ := st_gone hC hM hMo hOu hw5
  rw [hqa.1, hqa.2.1, ← ha1] at hl
  refine lv_aload_n hx hb dL_law_375 rfl (lv_at hl 3 rfl) ?_
  refine lv_aload_n hx hb dL_law_376 rfl (lv_at hl 1 rfl) ?_
  refine lv_iload hx hb dL_law_377 (lv_at hl 5 rfl) ?_
  refine lv_iconst (v := 1) hx hb dL_law_379 (by decide) ?_
  refine lv_iadd hx hb dL_law_380 ?_
  refine lw_rd hx hb hX9 hbl hbA hS (t := 1) rfl (by omega) hL dL_law_381 ?_
  refine lv_aload_n hx hb dL_law_382 rfl (lv_at hl 1 rfl) ?_
  refine lv_iload hx hb dL_law_383 (lv_at hl 5 rfl) ?_
  refine lv_iconst (v := 2) hx hb dL_law_385 (by decide) ?_
  refine lv_iadd hx hb dL_law_386 ?_
  refine lw_rd hx hb hX9 hbl hbA hS (t := 2) rfl (by omega) hL dL_law_387 ?_
  refine va_calli (va_runV (As := [.int (xs (5 * k + 1)), .int (xs (5 * k + 2))]) (rest := []) ⟨hx, hb, hml, hown, hts⟩ (c_X8_gone l hl0 D y s.heap.size L1 a1 g1 F A hM1 nu f14 hnu ut (fun u hu => ⟨(hUR u hu).2.2.2.2.2.2.2.2.1, (hUR u hu).2.2.2.2.2.2.1, (hUR u hu).2.2.2.2.2.2.2.1⟩) (xs (5 * k + 1)) (xs (5 * k + 2))) (cwV 2 hts gL_law_X8_gone rfl rfl rfl (by decide +kernel) ⟨(Nat.le_of_ble_eq_true rfl), (Nat.le_of_ble_eq_true rfl)⟩) ⟨WdM_blind, Wd_recv hK hP (ci := 10) rfl hM1.1 hM1.2.1, WdM_at hP hK hN hD hS (Nat.le_refl _) hT⟩ rfl rfl hl.1 rfl (lv_room (Nat.le_of_ble_eq_true rfl)) dL_law_388 ⟨(show _ ≤ 601024 by omega), Nat.le_trans (show _ ≤ 7293033 by omega) (by decide)⟩) hS (fun _ _ h => h) (fun _ h => h) (fun r6 u6 t H locs ht hvm hw6 hB hz2 hk2 hS => ?_)
  obtain ⟨hP, hD⟩ := hB
  rw [ht] at hP
  refine lv_istore (lv' := [(6, .int r6), (5, .int r5), (0, .ref b), (1, .ref qa.1), (2, .ref (a1 100)), (3, .ref qa.2.1), (4, .int (nI (5 * k)))]) hx hb dL_law_391 hl (by decide) rfl (fun ls hl => ?_)
  obtain ⟨L2, a2, g2, F2, A2, lo2, rfl, hRel2, h05, hans⟩ := hnext r6 u6 hw6
  obtain ⟨hq2, hM2, hOu2⟩ := Rel_q hRel2
  rw [ha1, ← hq2.2.2, ← hq2.2.1] at hl
  refine lv_aload_n hx hb dL_law_393 rfl (lv_at hl 4 rfl) ?_
  refine vp_callSi (va_Run.run (va_runV (As := []) (rest := []) ⟨hx, hb, hml, hown, hts⟩ (c_X8_thrown l D y L2 a2 g2 F2 A2 hM2) (cwV 0 hts gL_law_X8_thrown rfl rfl rfl (by decide +kernel) ⟨(Nat.le_of_ble_eq_true rfl), (Nat.le_of_ble_eq_true rfl)⟩) ⟨Wd_blind, Wd_recv hK hP (ci := 10) rfl hM2.1 hM2.2.1, Wd_at hP hK hN⟩ rfl rfl hl.1 rfl (lv_room (Nat.le_of_ble_eq_true rfl)) dL_law_394 ⟨(show _ ≤ 601024 by omega), Nat.le_trans (show _ ≤ 7293033 by omega) (by decide)⟩)) (fun r7 hr7 => ?_)
  refine lv_iload hx hb dL_law_397 (lv_at hl 1 rfl) ?_
  refine lv_icmp_eq (tgt := 404) hx hb dL_law_399 (by decide) (fun c1 => ?_) (fun c1 => ?_)
  · refine lv_iload hx hb dL_law_404 (lv_at hl 1 rfl) ?_
    refine lv_if_ne (tgt := 421) hx hb dL_law_406 (by decide) (fun c2 => ?_) (fun c2 => ?_)
    · refine lv_goto (tgt := 1209) hx hb dL_law_421 (by decide) ?_
      refine W.widen (k := cells + 7) (n := slots + 1043) (by omega) (by omega) ?_
      rw [hq2.2.2, hq2.2.1] at hl
      exact kk _ _ _ _ _ _ _ _ _ hRel2 hP hD hS (lv_sub hl [2, 3, 4, 5, 6] rfl)
    · refine lv_aload_n hx hb dL_law_409 rfl (lv_at hl 5 rfl) ?_
      refine lv_iconst (v := 0) hx hb dL_law_410 (by decide) ?_
      refine pv_lald hx hb hK hP hOu2.1 4 hOu2.2 rfl (k := 0) rfl (by decide) (by decide) dL_law_411 ?_
      refine lv_iload hx hb dL_law_412 (lv_at hl 0 rfl) ?_
      refine lv_i2l hx hb dL_law_414 rfl ?_
      refine W.lcmp hx hb dL_law_415 ?_
      refine lv_if_eq (tgt := 421) hx hb dL_law_416 (by decide) (fun c3 => ?_) (fun c3 => ?_)
      · refine lv_goto (tgt := 1209) hx hb dL_law_421 (by decide) ?_
        refine W.widen (k := cells + 7) (n := slots + 1043) (by omega) (by omega) ?_
        rw [hq2.2.2, hq2.2.1] at hl
        exact kk _ _ _ _ _ _ _ _ _ hRel2 hP hD hS (lv_sub hl [2, 3, 4, 5, 6] rfl)
      · exact absurd ((lg_cmp_eq _ _).mpr (hans c2)) c3
  · exact absurd (by rw [hr7, h05]) c1

set_option maxHeartbeats 4000000 in
set_option maxRecDepth 100000 in
theorem lc_move {p : Program} {l : Launch} {e : Env} {s : State} {m : MethodId} {below : List Frame} {meth : Method} {c : Code} {b L : Nat} {xs : Nat → Int32} {D : va_G} {y : Nat → ClassId} {df mr : Nat} (hc : LawC p l s m c b L xs D y df mr) {k : Nat} (hk : 5 * k + 5 ≤ L) {qa : Nat × Nat × Nat} {Ls : List Nat} {ad : Nat → Nat} {G : Nat → va_E} {F : Nat → Int32} {A : Nat → Nat → Int32} {lo : Nat → Int64} (hRel : Rel y df qa k Ls ad G F A lo) {H : Heap} {locs : List Loc} (hP : va_P D vwCl (wl Ls ad G) H) (hD : va_D (fun q => s.heap.size ≤ q) (wl Ls ad G)) (hS : va_S (fun q => s.heap.size ≤ q) s.heap H locs) {cells slots : Nat} (hrc : cells + 7 ≤ 601024) (hrs : slots + 1043 ≤ 7293033) {ls : Array Slot} (hl : lv_has ls 7 [(0, .ref b), (1, .ref qa.1), (2, .ref qa.2.2), (3, .ref qa.2.1), (4, .int (nI (5 * k)))]) {Q : State → Prop}
    (kk : ∀ Ls2 ad2 G2 F2 A2 lo2 H2 locs2 ls2, Rel y df qa (k + 1) Ls2 ad2 G2 F2 A2 lo2 → va_P D vwCl (wl Ls2 ad2 G2) H2 → va_D (fun q => s.heap.size ≤ q) (wl Ls2 ad2 G2) → va_S (fun q => s.heap.size ≤ q) s.heap H2 locs2 → lv_has ls2 7 [(0, .ref b), (1, .ref qa.1), (2, .ref qa.2.2), (3, .ref qa.2.1), (4, .int (nI (5 * k)))] → W p l e room_1 s m #[Value.ref b] below meth c H2 locs2 (cells + 7) (slots + 1043) Q (F0 m 1209 ls2 [])) :
    W p l e room_1 s m #[Value.ref b] below meth c H locs cells slots Q (F0 m 424 ls []) := by
  obtain ⟨hx, hb, hml, hown, hts9, hX9, hbl, hK, hN, hT, hLs, hNc, hL, hl0⟩ := hc
  have hts : ∀ w ∈ wsL_law, w.before #[Value.ref b] s = true := fun w h => hts9 w (List.mem_append_left _ h)
  have hbA : ¬ (fun q : Nat => s.heap.size ≤ q) b := Nat.not_le.mpr hbl
  obtain ⟨ch, dr, st, ha, mi, dO, dD, dP, nd, li, ow, len, ln, nu, uo, uf, ul, ug, ut, uk, ud, nm, nl, pn, hC, hM, hMo, hOu⟩ := hRel
  obtain ⟨hX, hcd, hCg, ⟨d2, hDr⟩, hTx, hUs, hMs, hBs, hPa, hE3, hE5, hE8, hf1, hf2, hf3, hnu, hnm, hqa⟩ := id hC
  obtain ⟨f1, f3, f14, f21, f26, f32, hCh, hln, hUR, hMv, hBl, hnl, hbil⟩ := id hM
  have hk5 : k < 512 := by omega
  have hlen := hTx.2.2.2.2.1
  have hpn := hPa.2.2.2.2
  rw [← hqa.1, ← hqa.2.1] at hl
  refine lv_aload_n hx hb dL_law_424 rfl (lv_at hl 1 rfl) ?_
  refine lv_aload_n hx hb dL_law_425 rfl (lv_at hl 0 rfl) ?_
  refine lv_iload hx hb dL_law_426 (lv_at hl 4 rfl) ?_
  refine lv_iconst (v := 1) hx hb dL_law_428 (by decide) ?_
  refine lv_iadd hx hb dL_law_429 ?_
  refine lw_rd hx hb hX9 hbl hbA hS (t := 1) rfl (by omega) hL dL_law_430 ?_
  refine lv_aload_n hx hb dL_law_431 rfl (lv_at hl 0 rfl) ?_
  refine lv_iload hx hb dL_law_432 (lv_at hl 4 rfl) ?_
  refine lv_iconst (v := 2) hx hb dL_law_434 (by decide) ?_
  refine lv_iadd hx hb dL_law_435 ?_
  refine lw_rd hx hb hX9 hbl hbA hS (t := 2) rfl (by omega) hL dL_law_436 ?_
  refine lv_aload_n hx hb dL_law_437 rfl (lv_at hl 0 rfl) ?_
  refine lv_iload hx hb dL_law_438 (lv_at hl 4 rfl) ?_
  refine lv_iconst (v := 3) hx hb dL_law_440 (by decide) ?_
  refine lv_iadd hx hb dL_law_441 ?_
  refine lw_rd hx hb hX9 hbl hbA hS (t := 3) rfl (by omega) hL dL_law_442 ?_
  refine lv_aload_n hx hb dL_law_443 rfl (lv_at hl 0 rfl) ?_
  refine lv_iload hx hb dL_law_444 (lv_at hl 4 rfl) ?_
  refine lv_iconst (v := 4) hx hb dL_law_446 (by decide) ?_
  refine lv_iadd hx hb dL_law_447 ?_
  refine lw_rd hx hb hX9 hbl hbA hS (t := 4) rfl (by omega) hL dL_law_448 ?_
  refine lv_aload_n hx hb dL_law_449 rfl (lv_at hl 3 rfl) ?_
  refine va_calli (vx_runSW (As := [.ref (ad 0), .int (xs (5 * k + 1)), .int (xs (5 * k + 2)), .int (xs (5 * k + 3)), .int (xs (5 * k + 4)), .ref (ad 70)]) (rest := []) ⟨hx, hb, hml, hown, hts⟩ (c_L_move l D y s.heap.size df mr Ls ad G lo hOu hX.1 hX.2 (xs (5 * k + 1)) (xs (5 * k + 2)) (xs (5 * k + 3)) (xs (5 * k + 4)) (c_X7_move l hl0 D y s.heap.size df mr Ls ad G ch dr hX nm (by omega) (by omega) (A 22) (A 23) (A 24) (A 25) hMs hE5 hf2 (xs (5 * k + 1)) (xs (5 * k + 2)) (xs (5 * k + 3)) (xs (5 * k + 4))) (hp_move hOu) (fun k9 h9 => by rcases h9 with h9 | h9 <;> have := h9.1 <;> omega)) (vx_cwSW 6 hts gL_law_L_move rfl rfl rfl (by decide +kernel) ⟨(Nat.le_of_ble_eq_true rfl), (Nat.le_of_ble_eq_true rfl)⟩) ⟨WdC_blind, WdC_at hP hK hN hD hS (Nat.le_refl _) hT hLs hNc⟩ rfl rfl hl.1 rfl (lv_room (Nat.le_of_ble_eq_true rfl)) dL_law_450 ⟨(show _ ≤ 601024 by omega), Nat.le_trans (show _ ≤ 7293033 by omega) (by decide)⟩) hS (fun _ _ h => h) (fun _ h => h) (fun r5 u5 t H locs ht hvm hw5 hB hz1 hk1 hS => ?_)
  obtain ⟨hP, hD⟩ := hB
  rw [ht] at hP
  refine lv_istore (lv' := [(5, .int r5), (0, .ref b), (1, .ref (ad 0)), (2, .ref qa.2.2), (3, .ref (ad 70)), (4, .int (nI (5 * k)))]) hx hb dL_law_453 hl (by decide) rfl (fun ls hl => ?_)
  obtain ⟨L1, a1, g1, rfl, ha1, hM1, hnext⟩ := st_move hC hM hMo hOu hw5
  rw [hqa.1, hqa.2.1, ← ha1] at hl
  refine lv_aload_n hx hb dL_law_455 rfl (lv_at hl 3 rfl) ?_
  refine lv_aload_n hx hb dL_law_456 rfl (lv_at hl 1 rfl) ?_
  refine lv_iload hx hb dL_law_457 (lv_at hl 5 rfl) ?_
  refine lv_iconst (v := 1) hx hb dL_law_459 (by decide) ?_
  refine lv_iadd hx hb dL_law_460 ?_
  refine lw_rd hx hb hX9 hbl hbA hS (t := 1) rfl (by omega) hL dL_law_461 ?_
  refine lv_aload_n hx hb dL_law_462 rfl (lv_at hl 1 rfl) ?_
  refine lv_iload hx hb dL_law_463 (lv_at hl 5 rfl) ?_
  refine lv_iconst (v := 2) hx hb dL_law_465 (by decide) ?_
  refine lv_iadd hx hb dL_law_466 ?_
  refine lw_rd hx hb hX9 hbl hbA hS (t := 2) rfl (by omega) hL dL_law_467 ?_
  refine lv_aload_n hx hb dL_law_468 rfl (lv_at hl 1 rfl) ?_
  refine lv_iload hx hb dL_law_469 (lv_at hl 5 rfl) ?_
  refine lv_iconst (v := 3) hx hb dL_law_471 (by decide) ?_
  refine lv_iadd hx hb dL_law_472 ?_
  refine lw_rd hx hb hX9 hbl hbA hS (t := 3) rfl (by omega) hL dL_law_473 ?_
  refine lv_aload_n hx hb dL_law_474 rfl (lv_at hl 1 rfl) ?_
  refine lv_iload hx hb dL_law_475 (lv_at hl 5 rfl) ?_
  refine lv_iconst (v := 4) hx hb dL_law_477 (by decide) ?_
  refine lv_iadd hx hb dL_law_478 ?_
  refine lw_rd hx hb hX9 hbl hbA hS (t := 4) rfl (by omega) hL dL_law_479 ?_
  refine va_calli (va_runV (As := [.int (xs (5 * k + 1)), .int (xs (5 * k + 2)), .int (xs (5 * k + 3)), .int (xs (5 * k + 4))]) (rest := []) ⟨hx, hb, hml, hown, hts⟩ (c_X8_move l hl0 D y s.heap.size L1 a1 g1 F A hM1 nm f21 hnm (xs (5 * k + 1)) (xs (5 * k + 2)) (xs (5 * k + 3)) (xs (5 * k + 4))) (cwV 4 hts gL_law_X8_move rfl rfl rfl (by decide +kernel) ⟨(Nat.le_of_ble_eq_true rfl), (Nat.le_of_ble_eq_true rfl)⟩) ⟨WdM_blind, Wd_recv hK hP (ci := 10) rfl hM1.1 hM1.2.1, WdM_at hP hK hN hD hS (Nat.le_refl _) hT⟩ rfl rfl hl.1 rfl (lv_room (Nat.le_of_ble_eq_true rfl)) dL_law_480 ⟨(show _ ≤ 601024 by omega), Nat.le_trans (show _ ≤ 7293033 by omega) (by decide)⟩) hS (fun _ _ h => h) (fun _ h => h) (fun r6 u6 t H locs ht hvm hw6 hB hz2 hk2 hS => ?_)
  obtain ⟨hP, hD⟩ := hB
  rw [ht] at hP
  refine lv_istore (lv' := [(6, .int r6), (5, .int r5), (0, .ref b), (1, .ref qa.1), (2, .ref (a1 100)), (3, .ref qa.2.1), (4, .int (nI (5 * k)))]) hx hb dL_law_483 hl (by decide) rfl (fun ls hl => ?_)
  obtain ⟨L2, a2, g2, F2, A2, lo2, rfl, hRel2, h05, hans⟩ := hnext r6 u6 hw6
  obtain ⟨hq2, hM2, hOu2⟩ := Rel_q hRel2
  rw [ha1, ← hq2.2.2, ← hq2.2.1] at hl
  refine lv_aload_n hx hb dL_law_485 rfl (lv_at hl 4 rfl) ?_
  refine vp_callSi (va_Run.run (va_runV (As := []) (rest := []) ⟨hx, hb, hml, hown, hts⟩ (c_X8_thrown l D y L2 a2 g2 F2 A2 hM2) (cwV 0 hts gL_law_X8_thrown rfl rfl rfl (by decide +kernel) ⟨(Nat.le_of_ble_eq_true rfl), (Nat.le_of_ble_eq_true rfl)⟩) ⟨Wd_blind, Wd_recv hK hP (ci := 10) rfl hM2.1 hM2.2.1, Wd_at hP hK hN⟩ rfl rfl hl.1 rfl (lv_room (Nat.le_of_ble_eq_true rfl)) dL_law_486 ⟨(show _ ≤ 601024 by omega), Nat.le_trans (show _ ≤ 7293033 by omega) (by decide)⟩)) (fun r7 hr7 => ?_)
  refine lv_iload hx hb dL_law_489 (lv_at hl 1 rfl) ?_
  refine lv_icmp_eq (tgt := 496) hx hb dL_law_491 (by decide) (fun c1 => ?_) (fun c1 => ?_)
  · refine lv_iload hx hb dL_law_496 (lv_at hl 1 rfl) ?_
    refine lv_if_ne (tgt := 513) hx hb dL_law_498 (by decide) (fun c2 => ?_) (fun c2 => ?_)
    · refine lv_goto (tgt := 1209) hx hb dL_law_513 (by decide) ?_
      refine W.widen (k := cells + 7) (n := slots + 1043) (by omega) (by omega) ?_
      rw [hq2.2.2, hq2.2.1] at hl
      exact kk _ _ _ _ _ _ _ _ _ hRel2 hP hD hS (lv_sub hl [2, 3, 4, 5, 6] rfl)
    · refine lv_aload_n hx hb dL_law_501 rfl (lv_at hl 5 rfl) ?_
      refine lv_iconst (v := 0) hx hb dL_law_502 (by decide) ?_
      refine pv_lald hx hb hK hP hOu2.1 4 hOu2.2 rfl (k := 0) rfl (by decide) (by decide) dL_law_503 ?_
      refine lv_iload hx hb dL_law_504 (lv_at hl 0 rfl) ?_
      refine lv_i2l hx hb dL_law_506 rfl ?_
      refine W.lcmp hx hb dL_law_507 ?_
      refine lv_if_eq (tgt := 513) hx hb dL_law_508 (by decide) (fun c3 => ?_) (fun c3 => ?_)
      · refine lv_goto (tgt := 1209) hx hb dL_law_513 (by decide) ?_
        refine W.widen (k := cells + 7) (n := slots + 1043) (by omega) (by omega) ?_
        rw [hq2.2.2, hq2.2.1] at hl
        exact kk _ _ _ _ _ _ _ _ _ hRel2 hP hD hS (lv_sub hl [2, 3, 4, 5, 6] rfl)
      · exact absurd ((lg_cmp_eq _ _).mpr (hans c2)) c3
  · exact absurd (by rw [hr7, h05]) c1

set_option maxHeartbeats 4000000 in
set_option maxRecDepth 100000 in
theorem lc_sum {p : Program} {l : Launch} {e : Env} {s : State} {m : MethodId} {below : List Frame} {meth : Method} {c : Code} {b L : Nat} {xs : Nat → Int32} {D : va_G} {y : Nat → ClassId} {df mr : Nat} (hc : LawC p l s m c b L xs D y df mr) {k : Nat} (hk : 5 * k + 5 ≤ L) {qa : Nat × Nat × Nat} {Ls : List Nat} {ad : Nat → Nat} {G : Nat → va_E} {F : Nat → Int32} {A : Nat → Nat → Int32} {lo : Nat → Int64} (hRel : Rel y df qa k Ls ad G F A lo) {H : Heap} {locs : List Loc} (hP : va_P D vwCl (wl Ls ad G) H) (hD : va_D (fun q => s.heap.size ≤ q) (wl Ls ad G)) (hS : va_S (fun q => s.heap.size ≤ q) s.heap H locs) {cells slots : Nat} (hrc : cells + 7 ≤ 601024) (hrs : slots + 1043 ≤ 7293033) {ls : Array Slot} (hl : lv_has ls 7 [(0, .ref b), (1, .ref qa.1), (2, .ref qa.2.2), (3, .ref qa.2.1), (4, .int (nI (5 * k)))]) {Q : State → Prop}
    (kk : ∀ Ls2 ad2 G2 F2 A2 lo2 H2 locs2 ls2, Rel y df qa (k + 1) Ls2 ad2 G2 F2 A2 lo2 → va_P D vwCl (wl Ls2 ad2 G2) H2 → va_D (fun q => s.heap.size ≤ q) (wl Ls2 ad2 G2) → va_S (fun q => s.heap.size ≤ q) s.heap H2 locs2 → lv_has ls2 7 [(0, .ref b), (1, .ref qa.1), (2, .ref qa.2.2), (3, .ref qa.2.1), (4, .int (nI (5 * k)))] → W p l e room_1 s m #[Value.ref b] below meth c H2 locs2 (cells + 7) (slots + 1043) Q (F0 m 1209 ls2 [])) :
    W p l e room_1 s m #[Value.ref b] below meth c H locs cells slots Q (F0 m 516 ls []) := by
  obtain ⟨hx, hb, hml, hown, hts9, hX9, hbl, hK, hN, hT, hLs, hNc, hL, hl0⟩ := hc
  have hts : ∀ w ∈ wsL_law, w.before #[Value.ref b] s = true := fun w h => hts9 w (List.mem_append_left _ h)
  have hbA : ¬ (fun q : Nat => s.heap.size ≤ q) b := Nat.not_le.mpr hbl
  obtain ⟨ch, dr, st, ha, mi, dO, dD, dP, nd, li, ow, len, ln, nu, uo, uf, ul, ug, ut, uk, ud, nm, nl, pn, hC, hM, hMo, hOu⟩ := hRel
  obtain ⟨hX, hcd, hCg, ⟨d2, hDr⟩, hTx, hUs, hMs, hBs, hPa, hE3, hE5, hE8, hf1, hf2, hf3, hnu, hnm, hqa⟩ := id hC
  obtain ⟨f1, f3, f14, f21, f26, f32, hCh, hln, hUR, hMv, hBl, hnl, hbil⟩ := id hM
  have hk5 : k < 512 := by omega
  have hlen := hTx.2.2.2.2.1
  have hpn := hPa.2.2.2.2
  rw [← hqa.1, ← hqa.2.1] at hl
  refine lv_aload_n hx hb dL_law_516 rfl (lv_at hl 1 rfl) ?_
  refine lv_aload_n hx hb dL_law_517 rfl (lv_at hl 0 rfl) ?_
  refine lv_iload hx hb dL_law_518 (lv_at hl 4 rfl) ?_
  refine lv_iconst (v := 1) hx hb dL_law_520 (by decide) ?_
  refine lv_iadd hx hb dL_law_521 ?_
  refine lw_rd hx hb hX9 hbl hbA hS (t := 1) rfl (by omega) hL dL_law_522 ?_
  refine lv_aload_n hx hb dL_law_523 rfl (lv_at hl 0 rfl) ?_
  refine lv_iload hx hb dL_law_524 (lv_at hl 4 rfl) ?_
  refine lv_iconst (v := 2) hx hb dL_law_526 (by decide) ?_
  refine lv_iadd hx hb dL_law_527 ?_
  refine lw_rd hx hb hX9 hbl hbA hS (t := 2) rfl (by omega) hL dL_law_528 ?_
  refine lv_aload_n hx hb dL_law_529 rfl (lv_at hl 3 rfl) ?_
  refine va_calli (vx_runSW (As := [.ref (ad 0), .int (xs (5 * k + 1)), .int (xs (5 * k + 2)), .ref (ad 70)]) (rest := []) ⟨hx, hb, hml, hown, hts⟩ (c_L_sum l D y s.heap.size df mr Ls ad G lo hOu hX.1 hX.2 (xs (5 * k + 1)) (xs (5 * k + 2)) (c_X7_sum l hl0 D y s.heap.size Ls ad G ch dr hX st ha mi dO dD dP nd li ow hCg nu uo uf ul ug ut uk ud hUs nm (A 22) (A 23) (A 24) (A 25) hMs (xs (5 * k + 1)) (xs (5 * k + 2))) (hp_sum hOu) (fun k9 h9 => h9.1)) (vx_cwSW 4 hts gL_law_L_sum rfl rfl rfl (by decide +kernel) ⟨(Nat.le_of_ble_eq_true rfl), (Nat.le_of_ble_eq_true rfl)⟩) ⟨WdC_blind, WdC_at hP hK hN hD hS (Nat.le_refl _) hT hLs hNc⟩ rfl rfl hl.1 rfl (lv_room (Nat.le_of_ble_eq_true rfl)) dL_law_530 ⟨(show _ ≤ 601024 by omega), Nat.le_trans (show _ ≤ 7293033 by omega) (by decide)⟩) hS (fun _ _ h => h) (fun _ h => h) (fun r5 u5 t H locs ht hvm hw5 hB hz1 hk1 hS => ?_)
  obtain ⟨hP, hD⟩ := hB
  rw [ht] at hP
  refine lv_istore (lv' := [(5, .int r5), (0, .ref b), (1, .ref (ad 0)), (2, .ref qa.2.2), (3, .ref (ad 70)), (4, .int (nI (5 * k)))]) hx hb dL_law_533 hl (by decide) rfl (fun ls hl => ?_)
  obtain ⟨L1, a1, g1, rfl, ha1, hM1, hnext⟩ := st_sum hC hM hMo hOu hw5
  rw [hqa.1, hqa.2.1, ← ha1] at hl
  refine lv_aload_n hx hb dL_law_535 rfl (lv_at hl 3 rfl) ?_
  refine lv_aload_n hx hb dL_law_536 rfl (lv_at hl 1 rfl) ?_
  refine lv_iload hx hb dL_law_537 (lv_at hl 5 rfl) ?_
  refine lv_iconst (v := 1) hx hb dL_law_539 (by decide) ?_
  refine lv_iadd hx hb dL_law_540 ?_
  refine lw_rd hx hb hX9 hbl hbA hS (t := 1) rfl (by omega) hL dL_law_541 ?_
  refine lv_aload_n hx hb dL_law_542 rfl (lv_at hl 1 rfl) ?_
  refine lv_iload hx hb dL_law_543 (lv_at hl 5 rfl) ?_
  refine lv_iconst (v := 2) hx hb dL_law_545 (by decide) ?_
  refine lv_iadd hx hb dL_law_546 ?_
  refine lw_rd hx hb hX9 hbl hbA hS (t := 2) rfl (by omega) hL dL_law_547 ?_
  refine va_calli (va_runV (As := [.int (xs (5 * k + 1)), .int (xs (5 * k + 2))]) (rest := []) ⟨hx, hb, hml, hown, hts⟩ (c_X8_sum l hl0 D y s.heap.size L1 a1 g1 F A hM1 nu f14 ln f3 nm f21 hnu hln hnm ut (fun u hu => ⟨(hUR u hu).2.2.2.2.2.2.2.2.1, (hUR u hu).2.2.2.2.2.2.2.1⟩) (xs (5 * k + 1)) (xs (5 * k + 2))) (cwV 2 hts gL_law_X8_sum rfl rfl rfl (by decide +kernel) ⟨(Nat.le_of_ble_eq_true rfl), (Nat.le_of_ble_eq_true rfl)⟩) ⟨WdM_blind, Wd_recv hK hP (ci := 10) rfl hM1.1 hM1.2.1, WdM_at hP hK hN hD hS (Nat.le_refl _) hT⟩ rfl rfl hl.1 rfl (lv_room (Nat.le_of_ble_eq_true rfl)) dL_law_548 ⟨(show _ ≤ 601024 by omega), Nat.le_trans (show _ ≤ 7293033 by omega) (by decide)⟩) hS (fun _ _ h => h) (fun _ h => h) (fun r6 u6 t H locs ht hvm hw6 hB hz2 hk2 hS => ?_)
  obtain ⟨hP, hD⟩ := hB
  rw [ht] at hP
  refine lv_istore (lv' := [(6, .int r6), (5, .int r5), (0, .ref b), (1, .ref qa.1), (2, .ref (a1 100)), (3, .ref qa.2.1), (4, .int (nI (5 * k)))]) hx hb dL_law_551 hl (by decide) rfl (fun ls hl => ?_)
  obtain ⟨L2, a2, g2, F2, A2, lo2, rfl, hRel2, h05, hans⟩ := hnext r6 u6 hw6
  obtain ⟨hq2, hM2, hOu2⟩ := Rel_q hRel2
  rw [ha1, ← hq2.2.2, ← hq2.2.1] at hl
  refine lv_aload_n hx hb dL_law_553 rfl (lv_at hl 4 rfl) ?_
  refine vp_callSi (va_Run.run (va_runV (As := []) (rest := []) ⟨hx, hb, hml, hown, hts⟩ (c_X8_thrown l D y L2 a2 g2 F2 A2 hM2) (cwV 0 hts gL_law_X8_thrown rfl rfl rfl (by decide +kernel) ⟨(Nat.le_of_ble_eq_true rfl), (Nat.le_of_ble_eq_true rfl)⟩) ⟨Wd_blind, Wd_recv hK hP (ci := 10) rfl hM2.1 hM2.2.1, Wd_at hP hK hN⟩ rfl rfl hl.1 rfl (lv_room (Nat.le_of_ble_eq_true rfl)) dL_law_554 ⟨(show _ ≤ 601024 by omega), Nat.le_trans (show _ ≤ 7293033 by omega) (by decide)⟩)) (fun r7 hr7 => ?_)
  refine lv_iload hx hb dL_law_557 (lv_at hl 1 rfl) ?_
  refine lv_icmp_eq (tgt := 564) hx hb dL_law_559 (by decide) (fun c1 => ?_) (fun c1 => ?_)
  · refine lv_iload hx hb dL_law_564 (lv_at hl 1 rfl) ?_
    refine lv_if_ne (tgt := 581) hx hb dL_law_566 (by decide) (fun c2 => ?_) (fun c2 => ?_)
    · refine lv_goto (tgt := 1209) hx hb dL_law_581 (by decide) ?_
      refine W.widen (k := cells + 7) (n := slots + 1043) (by omega) (by omega) ?_
      rw [hq2.2.2, hq2.2.1] at hl
      exact kk _ _ _ _ _ _ _ _ _ hRel2 hP hD hS (lv_sub hl [2, 3, 4, 5, 6] rfl)
    · refine lv_aload_n hx hb dL_law_569 rfl (lv_at hl 5 rfl) ?_
      refine lv_iconst (v := 0) hx hb dL_law_570 (by decide) ?_
      refine pv_lald hx hb hK hP hOu2.1 4 hOu2.2 rfl (k := 0) rfl (by decide) (by decide) dL_law_571 ?_
      refine lv_iload hx hb dL_law_572 (lv_at hl 0 rfl) ?_
      refine lv_i2l hx hb dL_law_574 rfl ?_
      refine W.lcmp hx hb dL_law_575 ?_
      refine lv_if_eq (tgt := 581) hx hb dL_law_576 (by decide) (fun c3 => ?_) (fun c3 => ?_)
      · refine lv_goto (tgt := 1209) hx hb dL_law_581 (by decide) ?_
        refine W.widen (k := cells + 7) (n := slots + 1043) (by omega) (by omega) ?_
        rw [hq2.2.2, hq2.2.1] at hl
        exact kk _ _ _ _ _ _ _ _ _ hRel2 hP hD hS (lv_sub hl [2, 3, 4, 5, 6] rfl)
      · exact absurd ((lg_cmp_eq _ _).mpr (hans c2)) c3
  · exact absurd (by rw [hr7, h05]) c1

set_option maxHeartbeats 4000000 in
set_option maxRecDepth 100000 in
theorem lc_days {p : Program} {l : Launch} {e : Env} {s : State} {m : MethodId} {below : List Frame} {meth : Method} {c : Code} {b L : Nat} {xs : Nat → Int32} {D : va_G} {y : Nat → ClassId} {df mr : Nat} (hc : LawC p l s m c b L xs D y df mr) {k : Nat} (hk : 5 * k + 5 ≤ L) {qa : Nat × Nat × Nat} {Ls : List Nat} {ad : Nat → Nat} {G : Nat → va_E} {F : Nat → Int32} {A : Nat → Nat → Int32} {lo : Nat → Int64} (hRel : Rel y df qa k Ls ad G F A lo) {H : Heap} {locs : List Loc} (hP : va_P D vwCl (wl Ls ad G) H) (hD : va_D (fun q => s.heap.size ≤ q) (wl Ls ad G)) (hS : va_S (fun q => s.heap.size ≤ q) s.heap H locs) {cells slots : Nat} (hrc : cells + 7 ≤ 601024) (hrs : slots + 1043 ≤ 7293033) {ls : Array Slot} (hl : lv_has ls 7 [(0, .ref b), (1, .ref qa.1), (2, .ref qa.2.2), (3, .ref qa.2.1), (4, .int (nI (5 * k)))]) {Q : State → Prop}
    (kk : ∀ Ls2 ad2 G2 F2 A2 lo2 H2 locs2 ls2, Rel y df qa (k + 1) Ls2 ad2 G2 F2 A2 lo2 → va_P D vwCl (wl Ls2 ad2 G2) H2 → va_D (fun q => s.heap.size ≤ q) (wl Ls2 ad2 G2) → va_S (fun q => s.heap.size ≤ q) s.heap H2 locs2 → lv_has ls2 7 [(0, .ref b), (1, .ref qa.1), (2, .ref qa.2.2), (3, .ref qa.2.1), (4, .int (nI (5 * k)))] → W p l e room_1 s m #[Value.ref b] below meth c H2 locs2 (cells + 7) (slots + 1043) Q (F0 m 1209 ls2 [])) :
    W p l e room_1 s m #[Value.ref b] below meth c H locs cells slots Q (F0 m 584 ls []) := by
  obtain ⟨hx, hb, hml, hown, hts9, hX9, hbl, hK, hN, hT, hLs, hNc, hL, hl0⟩ := hc
  have hts : ∀ w ∈ wsL_law, w.before #[Value.ref b] s = true := fun w h => hts9 w (List.mem_append_left _ h)
  have hbA : ¬ (fun q : Nat => s.heap.size ≤ q) b := Nat.not_le.mpr hbl
  obtain ⟨ch, dr, st, ha, mi, dO, dD, dP, nd, li, ow, len, ln, nu, uo, uf, ul, ug, ut, uk, ud, nm, nl, pn, hC, hM, hMo, hOu⟩ := hRel
  obtain ⟨hX, hcd, hCg, ⟨d2, hDr⟩, hTx, hUs, hMs, hBs, hPa, hE3, hE5, hE8, hf1, hf2, hf3, hnu, hnm, hqa⟩ := id hC
  obtain ⟨f1, f3, f14, f21, f26, f32, hCh, hln, hUR, hMv, hBl, hnl, hbil⟩ := id hM
  have hk5 : k < 512 := by omega
  have hlen := hTx.2.2.2.2.1
  have hpn := hPa.2.2.2.2
  rw [← hqa.1, ← hqa.2.1] at hl
  refine lv_aload_n hx hb dL_law_584 rfl (lv_at hl 1 rfl) ?_
  refine lv_aload_n hx hb dL_law_585 rfl (lv_at hl 0 rfl) ?_
  refine lv_iload hx hb dL_law_586 (lv_at hl 4 rfl) ?_
  refine lv_iconst (v := 1) hx hb dL_law_588 (by decide) ?_
  refine lv_iadd hx hb dL_law_589 ?_
  refine lw_rd hx hb hX9 hbl hbA hS (t := 1) rfl (by omega) hL dL_law_590 ?_
  refine lv_aload_n hx hb dL_law_591 rfl (lv_at hl 0 rfl) ?_
  refine lv_iload hx hb dL_law_592 (lv_at hl 4 rfl) ?_
  refine lv_iconst (v := 2) hx hb dL_law_594 (by decide) ?_
  refine lv_iadd hx hb dL_law_595 ?_
  refine lw_rd hx hb hX9 hbl hbA hS (t := 2) rfl (by omega) hL dL_law_596 ?_
  refine lv_aload_n hx hb dL_law_597 rfl (lv_at hl 3 rfl) ?_
  refine va_calli (vx_runSW (As := [.ref (ad 0), .int (xs (5 * k + 1)), .int (xs (5 * k + 2)), .ref (ad 70)]) (rest := []) ⟨hx, hb, hml, hown, hts⟩ (c_L_days l D y s.heap.size df mr Ls ad G lo hOu hX.1 hX.2 (xs (5 * k + 1)) (xs (5 * k + 2)) (c_X7_days l hl0 D y s.heap.size Ls ad G ch dr hX nu uo uf ul ug ut uk ud hUs (xs (5 * k + 1)) (xs (5 * k + 2))) (hp_days hOu) (fun k9 h9 => h9.1)) (vx_cwSW 4 hts gL_law_L_days rfl rfl rfl (by decide +kernel) ⟨(Nat.le_of_ble_eq_true rfl), (Nat.le_of_ble_eq_true rfl)⟩) ⟨WdC_blind, WdC_at hP hK hN hD hS (Nat.le_refl _) hT hLs hNc⟩ rfl rfl hl.1 rfl (lv_room (Nat.le_of_ble_eq_true rfl)) dL_law_598 ⟨(show _ ≤ 601024 by omega), Nat.le_trans (show _ ≤ 7293033 by omega) (by decide)⟩) hS (fun _ _ h => h) (fun _ h => h) (fun r5 u5 t H locs ht hvm hw5 hB hz1 hk1 hS => ?_)
  obtain ⟨hP, hD⟩ := hB
  rw [ht] at hP
  refine lv_istore (lv' := [(5, .int r5), (0, .ref b), (1, .ref (ad 0)), (2, .ref qa.2.2), (3, .ref (ad 70)), (4, .int (nI (5 * k)))]) hx hb dL_law_601 hl (by decide) rfl (fun ls hl => ?_)
  obtain ⟨L1, a1, g1, rfl, ha1, hM1, hnext⟩ := st_days hC hM hMo hOu hw5
  rw [hqa.1, hqa.2.1, ← ha1] at hl
  refine lv_aload_n hx hb dL_law_603 rfl (lv_at hl 3 rfl) ?_
  refine lv_aload_n hx hb dL_law_604 rfl (lv_at hl 1 rfl) ?_
  refine lv_iload hx hb dL_law_605 (lv_at hl 5 rfl) ?_
  refine lv_iconst (v := 1) hx hb dL_law_607 (by decide) ?_
  refine lv_iadd hx hb dL_law_608 ?_
  refine lw_rd hx hb hX9 hbl hbA hS (t := 1) rfl (by omega) hL dL_law_609 ?_
  refine lv_aload_n hx hb dL_law_610 rfl (lv_at hl 1 rfl) ?_
  refine lv_iload hx hb dL_law_611 (lv_at hl 5 rfl) ?_
  refine lv_iconst (v := 2) hx hb dL_law_613 (by decide) ?_
  refine lv_iadd hx hb dL_law_614 ?_
  refine lw_rd hx hb hX9 hbl hbA hS (t := 2) rfl (by omega) hL dL_law_615 ?_
  refine va_calli (va_runV (As := [.int (xs (5 * k + 1)), .int (xs (5 * k + 2))]) (rest := []) ⟨hx, hb, hml, hown, hts⟩ (c_X8_days l hl0 D y s.heap.size L1 a1 g1 F A hM1 nu f14 hnu (xs (5 * k + 1)) (xs (5 * k + 2))) (cwV 2 hts gL_law_X8_days rfl rfl rfl (by decide +kernel) ⟨(Nat.le_of_ble_eq_true rfl), (Nat.le_of_ble_eq_true rfl)⟩) ⟨WdM_blind, Wd_recv hK hP (ci := 10) rfl hM1.1 hM1.2.1, WdM_at hP hK hN hD hS (Nat.le_refl _) hT⟩ rfl rfl hl.1 rfl (lv_room (Nat.le_of_ble_eq_true rfl)) dL_law_616 ⟨(show _ ≤ 601024 by omega), Nat.le_trans (show _ ≤ 7293033 by omega) (by decide)⟩) hS (fun _ _ h => h) (fun _ h => h) (fun r6 u6 t H locs ht hvm hw6 hB hz2 hk2 hS => ?_)
  obtain ⟨hP, hD⟩ := hB
  rw [ht] at hP
  refine lv_istore (lv' := [(6, .int r6), (5, .int r5), (0, .ref b), (1, .ref qa.1), (2, .ref (a1 100)), (3, .ref qa.2.1), (4, .int (nI (5 * k)))]) hx hb dL_law_619 hl (by decide) rfl (fun ls hl => ?_)
  obtain ⟨L2, a2, g2, F2, A2, lo2, rfl, hRel2, h05, hans⟩ := hnext r6 u6 hw6
  obtain ⟨hq2, hM2, hOu2⟩ := Rel_q hRel2
  rw [ha1, ← hq2.2.2, ← hq2.2.1] at hl
  refine lv_aload_n hx hb dL_law_621 rfl (lv_at hl 4 rfl) ?_
  refine vp_callSi (va_Run.run (va_runV (As := []) (rest := []) ⟨hx, hb, hml, hown, hts⟩ (c_X8_thrown l D y L2 a2 g2 F2 A2 hM2) (cwV 0 hts gL_law_X8_thrown rfl rfl rfl (by decide +kernel) ⟨(Nat.le_of_ble_eq_true rfl), (Nat.le_of_ble_eq_true rfl)⟩) ⟨Wd_blind, Wd_recv hK hP (ci := 10) rfl hM2.1 hM2.2.1, Wd_at hP hK hN⟩ rfl rfl hl.1 rfl (lv_room (Nat.le_of_ble_eq_true rfl)) dL_law_622 ⟨(show _ ≤ 601024 by omega), Nat.le_trans (show _ ≤ 7293033 by omega) (by decide)⟩)) (fun r7 hr7 => ?_)
  refine lv_iload hx hb dL_law_625 (lv_at hl 1 rfl) ?_
  refine lv_icmp_eq (tgt := 632) hx hb dL_law_627 (by decide) (fun c1 => ?_) (fun c1 => ?_)
  · refine lv_iload hx hb dL_law_632 (lv_at hl 1 rfl) ?_
    refine lv_if_ne (tgt := 649) hx hb dL_law_634 (by decide) (fun c2 => ?_) (fun c2 => ?_)
    · refine lv_goto (tgt := 1209) hx hb dL_law_649 (by decide) ?_
      refine W.widen (k := cells + 7) (n := slots + 1043) (by omega) (by omega) ?_
      rw [hq2.2.2, hq2.2.1] at hl
      exact kk _ _ _ _ _ _ _ _ _ hRel2 hP hD hS (lv_sub hl [2, 3, 4, 5, 6] rfl)
    · refine lv_aload_n hx hb dL_law_637 rfl (lv_at hl 5 rfl) ?_
      refine lv_iconst (v := 0) hx hb dL_law_638 (by decide) ?_
      refine pv_lald hx hb hK hP hOu2.1 4 hOu2.2 rfl (k := 0) rfl (by decide) (by decide) dL_law_639 ?_
      refine lv_iload hx hb dL_law_640 (lv_at hl 0 rfl) ?_
      refine lv_i2l hx hb dL_law_642 rfl ?_
      refine W.lcmp hx hb dL_law_643 ?_
      refine lv_if_eq (tgt := 649) hx hb dL_law_644 (by decide) (fun c3 => ?_) (fun c3 => ?_)
      · refine lv_goto (tgt := 1209) hx hb dL_law_649 (by decide) ?_
        refine W.widen (k := cells + 7) (n := slots + 1043) (by omega) (by omega) ?_
        rw [hq2.2.2, hq2.2.1] at hl
        exact kk _ _ _ _ _ _ _ _ _ hRel2 hP hD hS (lv_sub hl [2, 3, 4, 5, 6] rfl)
      · exact absurd ((lg_cmp_eq _ _).mpr (hans c2)) c3
  · exact absurd (by rw [hr7, h05]) c1

set_option maxHeartbeats 4000000 in
set_option maxRecDepth 100000 in
theorem lc_average {p : Program} {l : Launch} {e : Env} {s : State} {m : MethodId} {below : List Frame} {meth : Method} {c : Code} {b L : Nat} {xs : Nat → Int32} {D : va_G} {y : Nat → ClassId} {df mr : Nat} (hc : LawC p l s m c b L xs D y df mr) {k : Nat} (hk : 5 * k + 5 ≤ L) {qa : Nat × Nat × Nat} {Ls : List Nat} {ad : Nat → Nat} {G : Nat → va_E} {F : Nat → Int32} {A : Nat → Nat → Int32} {lo : Nat → Int64} (hRel : Rel y df qa k Ls ad G F A lo) {H : Heap} {locs : List Loc} (hP : va_P D vwCl (wl Ls ad G) H) (hD : va_D (fun q => s.heap.size ≤ q) (wl Ls ad G)) (hS : va_S (fun q => s.heap.size ≤ q) s.heap H locs) {cells slots : Nat} (hrc : cells + 7 ≤ 601024) (hrs : slots + 1043 ≤ 7293033) {ls : Array Slot} (hl : lv_has ls 7 [(0, .ref b), (1, .ref qa.1), (2, .ref qa.2.2), (3, .ref qa.2.1), (4, .int (nI (5 * k)))]) {Q : State → Prop}
    (kk : ∀ Ls2 ad2 G2 F2 A2 lo2 H2 locs2 ls2, Rel y df qa (k + 1) Ls2 ad2 G2 F2 A2 lo2 → va_P D vwCl (wl Ls2 ad2 G2) H2 → va_D (fun q => s.heap.size ≤ q) (wl Ls2 ad2 G2) → va_S (fun q => s.heap.size ≤ q) s.heap H2 locs2 → lv_has ls2 7 [(0, .ref b), (1, .ref qa.1), (2, .ref qa.2.2), (3, .ref qa.2.1), (4, .int (nI (5 * k)))] → W p l e room_1 s m #[Value.ref b] below meth c H2 locs2 (cells + 7) (slots + 1043) Q (F0 m 1209 ls2 [])) :
    W p l e room_1 s m #[Value.ref b] below meth c H locs cells slots Q (F0 m 652 ls []) := by
  obtain ⟨hx, hb, hml, hown, hts9, hX9, hbl, hK, hN, hT, hLs, hNc, hL, hl0⟩ := hc
  have hts : ∀ w ∈ wsL_law, w.before #[Value.ref b] s = true := fun w h => hts9 w (List.mem_append_left _ h)
  have hbA : ¬ (fun q : Nat => s.heap.size ≤ q) b := Nat.not_le.mpr hbl
  obtain ⟨ch, dr, st, ha, mi, dO, dD, dP, nd, li, ow, len, ln, nu, uo, uf, ul, ug, ut, uk, ud, nm, nl, pn, hC, hM, hMo, hOu⟩ := hRel
  obtain ⟨hX, hcd, hCg, ⟨d2, hDr⟩, hTx, hUs, hMs, hBs, hPa, hE3, hE5, hE8, hf1, hf2, hf3, hnu, hnm, hqa⟩ := id hC
  obtain ⟨f1, f3, f14, f21, f26, f32, hCh, hln, hUR, hMv, hBl, hnl, hbil⟩ := id hM
  have hk5 : k < 512 := by omega
  have hlen := hTx.2.2.2.2.1
  have hpn := hPa.2.2.2.2
  rw [← hqa.1, ← hqa.2.1] at hl
  refine lv_aload_n hx hb dL_law_652 rfl (lv_at hl 1 rfl) ?_
  refine lv_aload_n hx hb dL_law_653 rfl (lv_at hl 0 rfl) ?_
  refine lv_iload hx hb dL_law_654 (lv_at hl 4 rfl) ?_
  refine lv_iconst (v := 1) hx hb dL_law_656 (by decide) ?_
  refine lv_iadd hx hb dL_law_657 ?_
  refine lw_rd hx hb hX9 hbl hbA hS (t := 1) rfl (by omega) hL dL_law_658 ?_
  refine lv_aload_n hx hb dL_law_659 rfl (lv_at hl 0 rfl) ?_
  refine lv_iload hx hb dL_law_660 (lv_at hl 4 rfl) ?_
  refine lv_iconst (v := 2) hx hb dL_law_662 (by decide) ?_
  refine lv_iadd hx hb dL_law_663 ?_
  refine lw_rd hx hb hX9 hbl hbA hS (t := 2) rfl (by omega) hL dL_law_664 ?_
  refine lv_aload_n hx hb dL_law_665 rfl (lv_at hl 3 rfl) ?_
  refine va_calli (vx_runSW (As := [.ref (ad 0), .int (xs (5 * k + 1)), .int (xs (5 * k + 2)), .ref (ad 70)]) (rest := []) ⟨hx, hb, hml, hown, hts⟩ (c_L_average l D y s.heap.size df mr Ls ad G lo hOu hX.1 hX.2 (xs (5 * k + 1)) (xs (5 * k + 2)) (c_X7_average l hl0 D y s.heap.size Ls ad G ch dr hX st ha mi dO dD dP nd li ow hCg nu uo uf ul ug ut uk ud hUs (xs (5 * k + 1)) (xs (5 * k + 2))) (hp_average hOu) (fun k9 h9 => by rcases h9 with h9 | h9 <;> have := h9.1 <;> omega)) (vx_cwSW 4 hts gL_law_L_average rfl rfl rfl (by decide +kernel) ⟨(Nat.le_of_ble_eq_true rfl), (Nat.le_of_ble_eq_true rfl)⟩) ⟨WdC_blind, WdC_at hP hK hN hD hS (Nat.le_refl _) hT hLs hNc⟩ rfl rfl hl.1 rfl (lv_room (Nat.le_of_ble_eq_true rfl)) dL_law_666 ⟨(show _ ≤ 601024 by omega), Nat.le_trans (show _ ≤ 7293033 by omega) (by decide)⟩) hS (fun _ _ h => h) (fun _ h => h) (fun r5 u5 t H locs ht hvm hw5 hB hz1 hk1 hS => ?_)
  obtain ⟨hP, hD⟩ := hB
  rw [ht] at hP
  refine lv_istore (lv' := [(5, .int r5), (0, .ref b), (1, .ref (ad 0)), (2, .ref qa.2.2), (3, .ref (ad 70)), (4, .int (nI (5 * k)))]) hx hb dL_law_669 hl (by decide) rfl (fun ls hl => ?_)
  obtain ⟨L1, a1, g1, rfl, ha1, hM1, hnext⟩ := st_average hC hM hMo hOu hw5
  rw [hqa.1, hqa.2.1, ← ha1] at hl
  refine lv_aload_n hx hb dL_law_671 rfl (lv_at hl 3 rfl) ?_
  refine lv_aload_n hx hb dL_law_672 rfl (lv_at hl 1 rfl) ?_
  refine lv_iload hx hb dL_law_673 (lv_at hl 5 rfl) ?_
  refine lv_iconst (v := 1) hx hb dL_law_675 (by decide) ?_
  refine lv_iadd hx hb dL_law_676 ?_
  refine lw_rd hx hb hX9 hbl hbA hS (t := 1) rfl (by omega) hL dL_law_677 ?_
  refine lv_aload_n hx hb dL_law_678 rfl (lv_at hl 1 rfl) ?_
  refine lv_iload hx hb dL_law_679 (lv_at hl 5 rfl) ?_
  refine lv_iconst (v := 2) hx hb dL_law_681 (by decide) ?_
  refine lv_iadd hx hb dL_law_682 ?_
  refine lw_rd hx hb hX9 hbl hbA hS (t := 2) rfl (by omega) hL dL_law_683 ?_
  refine va_calli (va_runV (As := [.int (xs (5 * k + 1)), .int (xs (5 * k + 2))]) (rest := []) ⟨hx, hb, hml, hown, hts⟩ (c_X8_average l hl0 D y s.heap.size L1 a1 g1 F A hM1 nu f14 ln f3 hnu hln ut (fun u hu => ⟨(hUR u hu).2.2.2.2.2.2.2.2.1, (hUR u hu).2.2.2.2.2.2.2.1⟩) (xs (5 * k + 1)) (xs (5 * k + 2))) (cwV 2 hts gL_law_X8_average rfl rfl rfl (by decide +kernel) ⟨(Nat.le_of_ble_eq_true rfl), (Nat.le_of_ble_eq_true rfl)⟩) ⟨WdM_blind, Wd_recv hK hP (ci := 10) rfl hM1.1 hM1.2.1, WdM_at hP hK hN hD hS (Nat.le_refl _) hT⟩ rfl rfl hl.1 rfl (lv_room (Nat.le_of_ble_eq_true rfl)) dL_law_684 ⟨(show _ ≤ 601024 by omega), Nat.le_trans (show _ ≤ 7293033 by omega) (by decide)⟩) hS (fun _ _ h => h) (fun _ h => h) (fun r6 u6 t H locs ht hvm hw6 hB hz2 hk2 hS => ?_)
  obtain ⟨hP, hD⟩ := hB
  rw [ht] at hP
  refine lv_istore (lv' := [(6, .int r6), (5, .int r5), (0, .ref b), (1, .ref qa.1), (2, .ref (a1 100)), (3, .ref qa.2.1), (4, .int (nI (5 * k)))]) hx hb dL_law_687 hl (by decide) rfl (fun ls hl => ?_)
  obtain ⟨L2, a2, g2, F2, A2, lo2, rfl, hRel2, h05, hans⟩ := hnext r6 u6 hw6
  obtain ⟨hq2, hM2, hOu2⟩ := Rel_q hRel2
  rw [ha1, ← hq2.2.2, ← hq2.2.1] at hl
  refine lv_aload_n hx hb dL_law_689 rfl (lv_at hl 4 rfl) ?_
  refine vp_callSi (va_Run.run (va_runV (As := []) (rest := []) ⟨hx, hb, hml, hown, hts⟩ (c_X8_thrown l D y L2 a2 g2 F2 A2 hM2) (cwV 0 hts gL_law_X8_thrown rfl rfl rfl (by decide +kernel) ⟨(Nat.le_of_ble_eq_true rfl), (Nat.le_of_ble_eq_true rfl)⟩) ⟨Wd_blind, Wd_recv hK hP (ci := 10) rfl hM2.1 hM2.2.1, Wd_at hP hK hN⟩ rfl rfl hl.1 rfl (lv_room (Nat.le_of_ble_eq_true rfl)) dL_law_690 ⟨(show _ ≤ 601024 by omega), Nat.le_trans (show _ ≤ 7293033 by omega) (by decide)⟩)) (fun r7 hr7 => ?_)
  refine lv_iload hx hb dL_law_693 (lv_at hl 1 rfl) ?_
  refine lv_icmp_eq (tgt := 700) hx hb dL_law_695 (by decide) (fun c1 => ?_) (fun c1 => ?_)
  · refine lv_iload hx hb dL_law_700 (lv_at hl 1 rfl) ?_
    refine lv_if_ne (tgt := 717) hx hb dL_law_702 (by decide) (fun c2 => ?_) (fun c2 => ?_)
    · refine lv_goto (tgt := 1209) hx hb dL_law_717 (by decide) ?_
      refine W.widen (k := cells + 7) (n := slots + 1043) (by omega) (by omega) ?_
      rw [hq2.2.2, hq2.2.1] at hl
      exact kk _ _ _ _ _ _ _ _ _ hRel2 hP hD hS (lv_sub hl [2, 3, 4, 5, 6] rfl)
    · refine lv_aload_n hx hb dL_law_705 rfl (lv_at hl 5 rfl) ?_
      refine lv_iconst (v := 0) hx hb dL_law_706 (by decide) ?_
      refine pv_lald hx hb hK hP hOu2.1 4 hOu2.2 rfl (k := 0) rfl (by decide) (by decide) dL_law_707 ?_
      refine lv_iload hx hb dL_law_708 (lv_at hl 0 rfl) ?_
      refine lv_i2l hx hb dL_law_710 rfl ?_
      refine W.lcmp hx hb dL_law_711 ?_
      refine lv_if_eq (tgt := 717) hx hb dL_law_712 (by decide) (fun c3 => ?_) (fun c3 => ?_)
      · refine lv_goto (tgt := 1209) hx hb dL_law_717 (by decide) ?_
        refine W.widen (k := cells + 7) (n := slots + 1043) (by omega) (by omega) ?_
        rw [hq2.2.2, hq2.2.1] at hl
        exact kk _ _ _ _ _ _ _ _ _ hRel2 hP hD hS (lv_sub hl [2, 3, 4, 5, 6] rfl)
      · exact absurd ((lg_cmp_eq _ _).mpr (hans c2)) c3
  · exact absurd (by rw [hr7, h05]) c1

set_option maxHeartbeats 4000000 in
set_option maxRecDepth 100000 in
theorem lc_bill {p : Program} {l : Launch} {e : Env} {s : State} {m : MethodId} {below : List Frame} {meth : Method} {c : Code} {b L : Nat} {xs : Nat → Int32} {D : va_G} {y : Nat → ClassId} {df mr : Nat} (hc : LawC p l s m c b L xs D y df mr) {k : Nat} (hk : 5 * k + 5 ≤ L) {qa : Nat × Nat × Nat} {Ls : List Nat} {ad : Nat → Nat} {G : Nat → va_E} {F : Nat → Int32} {A : Nat → Nat → Int32} {lo : Nat → Int64} (hRel : Rel y df qa k Ls ad G F A lo) {H : Heap} {locs : List Loc} (hP : va_P D vwCl (wl Ls ad G) H) (hD : va_D (fun q => s.heap.size ≤ q) (wl Ls ad G)) (hS : va_S (fun q => s.heap.size ≤ q) s.heap H locs) {cells slots : Nat} (hrc : cells + 7 ≤ 601024) (hrs : slots + 1043 ≤ 7293033) {ls : Array Slot} (hl : lv_has ls 7 [(0, .ref b), (1, .ref qa.1), (2, .ref qa.2.2), (3, .ref qa.2.1), (4, .int (nI (5 * k)))]) {Q : State → Prop}
    (kk : ∀ Ls2 ad2 G2 F2 A2 lo2 H2 locs2 ls2, Rel y df qa (k + 1) Ls2 ad2 G2 F2 A2 lo2 → va_P D vwCl (wl Ls2 ad2 G2) H2 → va_D (fun q => s.heap.size ≤ q) (wl Ls2 ad2 G2) → va_S (fun q => s.heap.size ≤ q) s.heap H2 locs2 → lv_has ls2 7 [(0, .ref b), (1, .ref qa.1), (2, .ref qa.2.2), (3, .ref qa.2.1), (4, .int (nI (5 * k)))] → W p l e room_1 s m #[Value.ref b] below meth c H2 locs2 (cells + 7) (slots + 1043) Q (F0 m 1209 ls2 [])) :
    W p l e room_1 s m #[Value.ref b] below meth c H locs cells slots Q (F0 m 720 ls []) := by
  obtain ⟨hx, hb, hml, hown, hts9, hX9, hbl, hK, hN, hT, hLs, hNc, hL, hl0⟩ := hc
  have hts : ∀ w ∈ wsL_law, w.before #[Value.ref b] s = true := fun w h => hts9 w (List.mem_append_left _ h)
  have hbA : ¬ (fun q : Nat => s.heap.size ≤ q) b := Nat.not_le.mpr hbl
  obtain ⟨ch, dr, st, ha, mi, dO, dD, dP, nd, li, ow, len, ln, nu, uo, uf, ul, ug, ut, uk, ud, nm, nl, pn, hC, hM, hMo, hOu⟩ := hRel
  obtain ⟨hX, hcd, hCg, ⟨d2, hDr⟩, hTx, hUs, hMs, hBs, hPa, hE3, hE5, hE8, hf1, hf2, hf3, hnu, hnm, hqa⟩ := id hC
  obtain ⟨f1, f3, f14, f21, f26, f32, hCh, hln, hUR, hMv, hBl, hnl, hbil⟩ := id hM
  have hk5 : k < 512 := by omega
  have hlen := hTx.2.2.2.2.1
  have hpn := hPa.2.2.2.2
  rw [← hqa.1, ← hqa.2.1] at hl
  refine lv_aload_n hx hb dL_law_720 rfl (lv_at hl 1 rfl) ?_
  refine lv_aload_n hx hb dL_law_721 rfl (lv_at hl 0 rfl) ?_
  refine lv_iload hx hb dL_law_722 (lv_at hl 4 rfl) ?_
  refine lv_iconst (v := 1) hx hb dL_law_724 (by decide) ?_
  refine lv_iadd hx hb dL_law_725 ?_
  refine lw_rd hx hb hX9 hbl hbA hS (t := 1) rfl (by omega) hL dL_law_726 ?_
  refine lv_aload_n hx hb dL_law_727 rfl (lv_at hl 0 rfl) ?_
  refine lv_iload hx hb dL_law_728 (lv_at hl 4 rfl) ?_
  refine lv_iconst (v := 2) hx hb dL_law_730 (by decide) ?_
  refine lv_iadd hx hb dL_law_731 ?_
  refine lw_rd hx hb hX9 hbl hbA hS (t := 2) rfl (by omega) hL dL_law_732 ?_
  refine lv_aload_n hx hb dL_law_733 rfl (lv_at hl 3 rfl) ?_
  refine va_calli (vx_runSW (As := [.ref (ad 0), .int (xs (5 * k + 1)), .int (xs (5 * k + 2)), .ref (ad 70)]) (rest := []) ⟨hx, hb, hml, hown, hts⟩ (c_L_bill l D y s.heap.size df mr Ls ad G lo hOu hX.1 hX.2 (xs (5 * k + 1)) (xs (5 * k + 2)) (c_X7_bill l hl0 D y s.heap.size df mr Ls ad G ch dr hX st ha mi dO dD dP nd li ow hCg nu uo uf ul ug ut uk ud hUs nm (A 22) (A 23) (A 24) (A 25) hMs nl (A 27) (A 28) (A 29) (A 30) hBs hE8 (by omega) hf3 (xs (5 * k + 1)) (xs (5 * k + 2))) (hp_bill hOu) (fun k9 h9 => by rcases h9 with h9 | h9 <;> have := h9.1 <;> omega)) (vx_cwSW 4 hts gL_law_L_bill rfl rfl rfl (by decide +kernel) ⟨(Nat.le_of_ble_eq_true rfl), (Nat.le_of_ble_eq_true rfl)⟩) ⟨WdC_blind, WdC_at hP hK hN hD hS (Nat.le_refl _) hT hLs hNc⟩ rfl rfl hl.1 rfl (lv_room (Nat.le_of_ble_eq_true rfl)) dL_law_734 ⟨(show _ ≤ 601024 by omega), Nat.le_trans (show _ ≤ 7293033 by omega) (by decide)⟩) hS (fun _ _ h => h) (fun _ h => h) (fun r5 u5 t H locs ht hvm hw5 hB hz1 hk1 hS => ?_)
  obtain ⟨hP, hD⟩ := hB
  rw [ht] at hP
  refine lv_istore (lv' := [(5, .int r5), (0, .ref b), (1, .ref (ad 0)), (2, .ref qa.2.2), (3, .ref (ad 70)), (4, .int (nI (5 * k)))]) hx hb dL_law_737 hl (by decide) rfl (fun ls hl => ?_)
  obtain ⟨L1, a1, g1, rfl, ha1, hM1, hnext⟩ := st_bill hC hM hMo hOu hw5
  rw [hqa.1, hqa.2.1, ← ha1] at hl
  refine lv_aload_n hx hb dL_law_739 rfl (lv_at hl 3 rfl) ?_
  refine lv_aload_n hx hb dL_law_740 rfl (lv_at hl 1 rfl) ?_
  refine lv_iload hx hb dL_law_741 (lv_at hl 5 rfl) ?_
  refine lv_iconst (v := 1) hx hb dL_law_743 (by decide) ?_
  refine lv_iadd hx hb dL_law_744 ?_
  refine lw_rd hx hb hX9 hbl hbA hS (t := 1) rfl (by omega) hL dL_law_745 ?_
  refine lv_aload_n hx hb dL_law_746 rfl (lv_at hl 1 rfl) ?_
  refine lv_iload hx hb dL_law_747 (lv_at hl 5 rfl) ?_
  refine lv_iconst (v := 2) hx hb dL_law_749 (by decide) ?_
  refine lv_iadd hx hb dL_law_750 ?_
  refine lw_rd hx hb hX9 hbl hbA hS (t := 2) rfl (by omega) hL dL_law_751 ?_
  refine va_calli (va_runV (As := [.int (xs (5 * k + 1)), .int (xs (5 * k + 2))]) (rest := []) ⟨hx, hb, hml, hown, hts⟩ (c_X8_bill l hl0 D y s.heap.size L1 a1 g1 F A hM1 nu f14 ln f3 nm f21 hnu hln hnm ut (fun u hu => ⟨(hUR u hu).2.2.2.2.2.2.2.2.1, (hUR u hu).2.2.2.2.2.2.2.1⟩) nl f26 (by omega) (xs (5 * k + 1)) (xs (5 * k + 2))) (cwV 2 hts gL_law_X8_bill rfl rfl rfl (by decide +kernel) ⟨(Nat.le_of_ble_eq_true rfl), (Nat.le_of_ble_eq_true rfl)⟩) ⟨WdM_blind, Wd_recv hK hP (ci := 10) rfl hM1.1 hM1.2.1, WdM_at hP hK hN hD hS (Nat.le_refl _) hT⟩ rfl rfl hl.1 rfl (lv_room (Nat.le_of_ble_eq_true rfl)) dL_law_752 ⟨(show _ ≤ 601024 by omega), Nat.le_trans (show _ ≤ 7293033 by omega) (by decide)⟩) hS (fun _ _ h => h) (fun _ h => h) (fun r6 u6 t H locs ht hvm hw6 hB hz2 hk2 hS => ?_)
  obtain ⟨hP, hD⟩ := hB
  rw [ht] at hP
  refine lv_istore (lv' := [(6, .int r6), (5, .int r5), (0, .ref b), (1, .ref qa.1), (2, .ref (a1 100)), (3, .ref qa.2.1), (4, .int (nI (5 * k)))]) hx hb dL_law_755 hl (by decide) rfl (fun ls hl => ?_)
  obtain ⟨L2, a2, g2, F2, A2, lo2, rfl, hRel2, h05, hans⟩ := hnext r6 u6 hw6
  obtain ⟨hq2, hM2, hOu2⟩ := Rel_q hRel2
  rw [ha1, ← hq2.2.2, ← hq2.2.1] at hl
  refine lv_aload_n hx hb dL_law_757 rfl (lv_at hl 4 rfl) ?_
  refine vp_callSi (va_Run.run (va_runV (As := []) (rest := []) ⟨hx, hb, hml, hown, hts⟩ (c_X8_thrown l D y L2 a2 g2 F2 A2 hM2) (cwV 0 hts gL_law_X8_thrown rfl rfl rfl (by decide +kernel) ⟨(Nat.le_of_ble_eq_true rfl), (Nat.le_of_ble_eq_true rfl)⟩) ⟨Wd_blind, Wd_recv hK hP (ci := 10) rfl hM2.1 hM2.2.1, Wd_at hP hK hN⟩ rfl rfl hl.1 rfl (lv_room (Nat.le_of_ble_eq_true rfl)) dL_law_758 ⟨(show _ ≤ 601024 by omega), Nat.le_trans (show _ ≤ 7293033 by omega) (by decide)⟩)) (fun r7 hr7 => ?_)
  refine lv_iload hx hb dL_law_761 (lv_at hl 1 rfl) ?_
  refine lv_icmp_eq (tgt := 768) hx hb dL_law_763 (by decide) (fun c1 => ?_) (fun c1 => ?_)
  · refine lv_iload hx hb dL_law_768 (lv_at hl 1 rfl) ?_
    refine lv_if_ne (tgt := 785) hx hb dL_law_770 (by decide) (fun c2 => ?_) (fun c2 => ?_)
    · refine lv_goto (tgt := 1209) hx hb dL_law_785 (by decide) ?_
      refine W.widen (k := cells + 7) (n := slots + 1043) (by omega) (by omega) ?_
      rw [hq2.2.2, hq2.2.1] at hl
      exact kk _ _ _ _ _ _ _ _ _ hRel2 hP hD hS (lv_sub hl [2, 3, 4, 5, 6] rfl)
    · refine lv_aload_n hx hb dL_law_773 rfl (lv_at hl 5 rfl) ?_
      refine lv_iconst (v := 0) hx hb dL_law_774 (by decide) ?_
      refine pv_lald hx hb hK hP hOu2.1 4 hOu2.2 rfl (k := 0) rfl (by decide) (by decide) dL_law_775 ?_
      refine lv_iload hx hb dL_law_776 (lv_at hl 0 rfl) ?_
      refine lv_i2l hx hb dL_law_778 rfl ?_
      refine W.lcmp hx hb dL_law_779 ?_
      refine lv_if_eq (tgt := 785) hx hb dL_law_780 (by decide) (fun c3 => ?_) (fun c3 => ?_)
      · refine lv_goto (tgt := 1209) hx hb dL_law_785 (by decide) ?_
        refine W.widen (k := cells + 7) (n := slots + 1043) (by omega) (by omega) ?_
        rw [hq2.2.2, hq2.2.1] at hl
        exact kk _ _ _ _ _ _ _ _ _ hRel2 hP hD hS (lv_sub hl [2, 3, 4, 5, 6] rfl)
      · exact absurd ((lg_cmp_eq _ _).mpr (hans c2)) c3
  · exact absurd (by rw [hr7, h05]) c1

set_option maxHeartbeats 4000000 in
set_option maxRecDepth 100000 in
theorem lc_correct {p : Program} {l : Launch} {e : Env} {s : State} {m : MethodId} {below : List Frame} {meth : Method} {c : Code} {b L : Nat} {xs : Nat → Int32} {D : va_G} {y : Nat → ClassId} {df mr : Nat} (hc : LawC p l s m c b L xs D y df mr) {k : Nat} (hk : 5 * k + 5 ≤ L) {qa : Nat × Nat × Nat} {Ls : List Nat} {ad : Nat → Nat} {G : Nat → va_E} {F : Nat → Int32} {A : Nat → Nat → Int32} {lo : Nat → Int64} (hRel : Rel y df qa k Ls ad G F A lo) {H : Heap} {locs : List Loc} (hP : va_P D vwCl (wl Ls ad G) H) (hD : va_D (fun q => s.heap.size ≤ q) (wl Ls ad G)) (hS : va_S (fun q => s.heap.size ≤ q) s.heap H locs) {cells slots : Nat} (hrc : cells + 7 ≤ 601024) (hrs : slots + 1043 ≤ 7293033) {ls : Array Slot} (hl : lv_has ls 7 [(0, .ref b), (1, .ref qa.1), (2, .ref qa.2.2), (3, .ref qa.2.1), (4, .int (nI (5 * k)))]) {Q : State → Prop}
    (kk : ∀ Ls2 ad2 G2 F2 A2 lo2 H2 locs2 ls2, Rel y df qa (k + 1) Ls2 ad2 G2 F2 A2 lo2 → va_P D vwCl (wl Ls2 ad2 G2) H2 → va_D (fun q => s.heap.size ≤ q) (wl Ls2 ad2 G2) → va_S (fun q => s.heap.size ≤ q) s.heap H2 locs2 → lv_has ls2 7 [(0, .ref b), (1, .ref qa.1), (2, .ref qa.2.2), (3, .ref qa.2.1), (4, .int (nI (5 * k)))] → W p l e room_1 s m #[Value.ref b] below meth c H2 locs2 (cells + 7) (slots + 1043) Q (F0 m 1209 ls2 [])) :
    W p l e room_1 s m #[Value.ref b] below meth c H locs cells slots Q (F0 m 788 ls []) := by
  obtain ⟨hx, hb, hml, hown, hts9, hX9, hbl, hK, hN, hT, hLs, hNc, hL, hl0⟩ := hc
  have hts : ∀ w ∈ wsL_law, w.before #[Value.ref b] s = true := fun w h => hts9 w (List.mem_append_left _ h)
  have hbA : ¬ (fun q : Nat => s.heap.size ≤ q) b := Nat.not_le.mpr hbl
  obtain ⟨ch, dr, st, ha, mi, dO, dD, dP, nd, li, ow, len, ln, nu, uo, uf, ul, ug, ut, uk, ud, nm, nl, pn, hC, hM, hMo, hOu⟩ := hRel
  obtain ⟨hX, hcd, hCg, ⟨d2, hDr⟩, hTx, hUs, hMs, hBs, hPa, hE3, hE5, hE8, hf1, hf2, hf3, hnu, hnm, hqa⟩ := id hC
  obtain ⟨f1, f3, f14, f21, f26, f32, hCh, hln, hUR, hMv, hBl, hnl, hbil⟩ := id hM
  have hk5 : k < 512 := by omega
  have hlen := hTx.2.2.2.2.1
  have hpn := hPa.2.2.2.2
  rw [← hqa.1, ← hqa.2.1] at hl
  refine lv_aload_n hx hb dL_law_788 rfl (lv_at hl 1 rfl) ?_
  refine lv_aload_n hx hb dL_law_789 rfl (lv_at hl 0 rfl) ?_
  refine lv_iload hx hb dL_law_790 (lv_at hl 4 rfl) ?_
  refine lv_iconst (v := 1) hx hb dL_law_792 (by decide) ?_
  refine lv_iadd hx hb dL_law_793 ?_
  refine lw_rd hx hb hX9 hbl hbA hS (t := 1) rfl (by omega) hL dL_law_794 ?_
  refine lv_aload_n hx hb dL_law_795 rfl (lv_at hl 0 rfl) ?_
  refine lv_iload hx hb dL_law_796 (lv_at hl 4 rfl) ?_
  refine lv_iconst (v := 2) hx hb dL_law_798 (by decide) ?_
  refine lv_iadd hx hb dL_law_799 ?_
  refine lw_rd hx hb hX9 hbl hbA hS (t := 2) rfl (by omega) hL dL_law_800 ?_
  refine lv_aload_n hx hb dL_law_801 rfl (lv_at hl 3 rfl) ?_
  refine va_calli (vx_runSW (As := [.ref (ad 0), .int (xs (5 * k + 1)), .int (xs (5 * k + 2)), .ref (ad 70)]) (rest := []) ⟨hx, hb, hml, hown, hts⟩ (c_L_correct l D y s.heap.size df mr Ls ad G lo hOu hX.1 hX.2 (xs (5 * k + 1)) (xs (5 * k + 2)) (c_X7_correct l hl0 D y s.heap.size df mr Ls ad G ch dr hX st ha mi dO dD dP nd li ow hCg nu uo uf ul ug ut uk ud hUs nm (A 22) (A 23) (A 24) (A 25) hMs nl (A 27) (A 28) (A 29) (A 30) hBs hE8 (by omega) hf3 (xs (5 * k + 1)) (xs (5 * k + 2))) (hp_correct hOu) (fun k9 h9 => by rcases h9 with h9 | h9 <;> have := h9.1 <;> omega)) (vx_cwSW 4 hts gL_law_L_correct rfl rfl rfl (by decide +kernel) ⟨(Nat.le_of_ble_eq_true rfl), (Nat.le_of_ble_eq_true rfl)⟩) ⟨WdC_blind, WdC_at hP hK hN hD hS (Nat.le_refl _) hT hLs hNc⟩ rfl rfl hl.1 rfl (lv_room (Nat.le_of_ble_eq_true rfl)) dL_law_802 ⟨(show _ ≤ 601024 by omega), Nat.le_trans (show _ ≤ 7293033 by omega) (by decide)⟩) hS (fun _ _ h => h) (fun _ h => h) (fun r5 u5 t H locs ht hvm hw5 hB hz1 hk1 hS => ?_)
  obtain ⟨hP, hD⟩ := hB
  rw [ht] at hP
  refine lv_istore (lv' := [(5, .int r5), (0, .ref b), (1, .ref (ad 0)), (2, .ref qa.2.2), (3, .ref (ad 70)), (4, .int (nI (5 * k)))]) hx hb dL_law_805 hl (by decide) rfl (fun ls hl => ?_)
  obtain ⟨L1, a1, g1, rfl, ha1, hM1, hnext⟩ := st_correct hC hM hMo hOu hw5
  rw [hqa.1, hqa.2.1, ← ha1] at hl
  refine lv_aload_n hx hb dL_law_807 rfl (lv_at hl 3 rfl) ?_
  refine lv_aload_n hx hb dL_law_808 rfl (lv_at hl 1 rfl) ?_
  refine lv_iload hx hb dL_law_809 (lv_at hl 5 rfl) ?_
  refine lv_iconst (v := 1) hx hb dL_law_811 (by decide) ?_
  refine lv_iadd hx hb dL_law_812 ?_
  refine lw_rd hx hb hX9 hbl hbA hS (t := 1) rfl (by omega) hL dL_law_813 ?_
  refine lv_aload_n hx hb dL_law_814 rfl (lv_at hl 1 rfl) ?_
  refine lv_iload hx hb dL_law_815 (lv_at hl 5 rfl) ?_
  refine lv_iconst (v := 2) hx hb dL_law_817 (by decide) ?_
  refine lv_iadd hx hb dL_law_818 ?_
  refine lw_rd hx hb hX9 hbl hbA hS (t := 2) rfl (by omega) hL dL_law_819 ?_
  refine va_calli (va_runV (As := [.int (xs (5 * k + 1)), .int (xs (5 * k + 2))]) (rest := []) ⟨hx, hb, hml, hown, hts⟩ (c_X8_correct l hl0 D y s.heap.size L1 a1 g1 F A hM1 nu f14 ln f3 nm f21 hnu hln hnm ut (fun u hu => ⟨(hUR u hu).2.2.2.2.2.2.2.2.1, (hUR u hu).2.2.2.2.2.2.2.1⟩) nl f26 (by omega) (xs (5 * k + 1)) (xs (5 * k + 2))) (cwV 2 hts gL_law_X8_correct rfl rfl rfl (by decide +kernel) ⟨(Nat.le_of_ble_eq_true rfl), (Nat.le_of_ble_eq_true rfl)⟩) ⟨WdM_blind, Wd_recv hK hP (ci := 10) rfl hM1.1 hM1.2.1, WdM_at hP hK hN hD hS (Nat.le_refl _) hT⟩ rfl rfl hl.1 rfl (lv_room (Nat.le_of_ble_eq_true rfl)) dL_law_820 ⟨(show _ ≤ 601024 by omega), Nat.le_trans (show _ ≤ 7293033 by omega) (by decide)⟩) hS (fun _ _ h => h) (fun _ h => h) (fun r6 u6 t H locs ht hvm hw6 hB hz2 hk2 hS => ?_)
  obtain ⟨hP, hD⟩ := hB
  rw [ht] at hP
  refine lv_istore (lv' := [(6, .int r6), (5, .int r5), (0, .ref b), (1, .ref qa.1), (2, .ref (a1 100)), (3, .ref qa.2.1), (4, .int (nI (5 * k)))]) hx hb dL_law_823 hl (by decide) rfl (fun ls hl => ?_)
  obtain ⟨L2, a2, g2, F2, A2, lo2, rfl, hRel2, h05, hans⟩ := hnext r6 u6 hw6
  obtain ⟨hq2, hM2, hOu2⟩ := Rel_q hRel2
  rw [ha1, ← hq2.2.2, ← hq2.2.1] at hl
  refine lv_aload_n hx hb dL_law_825 rfl (lv_at hl 4 rfl) ?_
  refine vp_callSi (va_Run.run (va_runV (As := []) (rest := []) ⟨hx, hb, hml, hown, hts⟩ (c_X8_thrown l D y L2 a2 g2 F2 A2 hM2) (cwV 0 hts gL_law_X8_thrown rfl rfl rfl (by decide +kernel) ⟨(Nat.le_of_ble_eq_true rfl), (Nat.le_of_ble_eq_true rfl)⟩) ⟨Wd_blind, Wd_recv hK hP (ci := 10) rfl hM2.1 hM2.2.1, Wd_at hP hK hN⟩ rfl rfl hl.1 rfl (lv_room (Nat.le_of_ble_eq_true rfl)) dL_law_826 ⟨(show _ ≤ 601024 by omega), Nat.le_trans (show _ ≤ 7293033 by omega) (by decide)⟩)) (fun r7 hr7 => ?_)
  refine lv_iload hx hb dL_law_829 (lv_at hl 1 rfl) ?_
  refine lv_icmp_eq (tgt := 836) hx hb dL_law_831 (by decide) (fun c1 => ?_) (fun c1 => ?_)
  · refine lv_iload hx hb dL_law_836 (lv_at hl 1 rfl) ?_
    refine lv_if_ne (tgt := 853) hx hb dL_law_838 (by decide) (fun c2 => ?_) (fun c2 => ?_)
    · refine lv_goto (tgt := 1209) hx hb dL_law_853 (by decide) ?_
      refine W.widen (k := cells + 7) (n := slots + 1043) (by omega) (by omega) ?_
      rw [hq2.2.2, hq2.2.1] at hl
      exact kk _ _ _ _ _ _ _ _ _ hRel2 hP hD hS (lv_sub hl [2, 3, 4, 5, 6] rfl)
    · refine lv_aload_n hx hb dL_law_841 rfl (lv_at hl 5 rfl) ?_
      refine lv_iconst (v := 0) hx hb dL_law_842 (by decide) ?_
      refine pv_lald hx hb hK hP hOu2.1 4 hOu2.2 rfl (k := 0) rfl (by decide) (by decide) dL_law_843 ?_
      refine lv_iload hx hb dL_law_844 (lv_at hl 0 rfl) ?_
      refine lv_i2l hx hb dL_law_846 rfl ?_
      refine W.lcmp hx hb dL_law_847 ?_
      refine lv_if_eq (tgt := 853) hx hb dL_law_848 (by decide) (fun c3 => ?_) (fun c3 => ?_)
      · refine lv_goto (tgt := 1209) hx hb dL_law_853 (by decide) ?_
        refine W.widen (k := cells + 7) (n := slots + 1043) (by omega) (by omega) ?_
        rw [hq2.2.2, hq2.2.1] at hl
        exact kk _ _ _ _ _ _ _ _ _ hRel2 hP hD hS (lv_sub hl [2, 3, 4, 5, 6] rfl)
      · exact absurd ((lg_cmp_eq _ _).mpr (hans c2)) c3
  · exact absurd (by rw [hr7, h05]) c1

set_option maxHeartbeats 4000000 in
set_option maxRecDepth 100000 in
theorem lc_line {p : Program} {l : Launch} {e : Env} {s : State} {m : MethodId} {below : List Frame} {meth : Method} {c : Code} {b L : Nat} {xs : Nat → Int32} {D : va_G} {y : Nat → ClassId} {df mr : Nat} (hc : LawC p l s m c b L xs D y df mr) {k : Nat} (hk : 5 * k + 5 ≤ L) {qa : Nat × Nat × Nat} {Ls : List Nat} {ad : Nat → Nat} {G : Nat → va_E} {F : Nat → Int32} {A : Nat → Nat → Int32} {lo : Nat → Int64} (hRel : Rel y df qa k Ls ad G F A lo) {H : Heap} {locs : List Loc} (hP : va_P D vwCl (wl Ls ad G) H) (hD : va_D (fun q => s.heap.size ≤ q) (wl Ls ad G)) (hS : va_S (fun q => s.heap.size ≤ q) s.heap H locs) {cells slots : Nat} (hrc : cells + 7 ≤ 601024) (hrs : slots + 1043 ≤ 7293033) {ls : Array Slot} (hl : lv_has ls 7 [(0, .ref b), (1, .ref qa.1), (2, .ref qa.2.2), (3, .ref qa.2.1), (4, .int (nI (5 * k)))]) {Q : State → Prop}
    (kk : ∀ Ls2 ad2 G2 F2 A2 lo2 H2 locs2 ls2, Rel y df qa (k + 1) Ls2 ad2 G2 F2 A2 lo2 → va_P D vwCl (wl Ls2 ad2 G2) H2 → va_D (fun q => s.heap.size ≤ q) (wl Ls2 ad2 G2) → va_S (fun q => s.heap.size ≤ q) s.heap H2 locs2 → lv_has ls2 7 [(0, .ref b), (1, .ref qa.1), (2, .ref qa.2.2), (3, .ref qa.2.1), (4, .int (nI (5 * k)))] → W p l e room_1 s m #[Value.ref b] below meth c H2 locs2 (cells + 7) (slots + 1043) Q (F0 m 1209 ls2 [])) :
    W p l e room_1 s m #[Value.ref b] below meth c H locs cells slots Q (F0 m 856 ls []) := by
  obtain ⟨hx, hb, hml, hown, hts9, hX9, hbl, hK, hN, hT, hLs, hNc, hL, hl0⟩ := hc
  have hts : ∀ w ∈ wsL_law, w.before #[Value.ref b] s = true := fun w h => hts9 w (List.mem_append_left _ h)
  have hbA : ¬ (fun q : Nat => s.heap.size ≤ q) b := Nat.not_le.mpr hbl
  obtain ⟨ch, dr, st, ha, mi, dO, dD, dP, nd, li, ow, len, ln, nu, uo, uf, ul, ug, ut, uk, ud, nm, nl, pn, hC, hM, hMo, hOu⟩ := hRel
  obtain ⟨hX, hcd, hCg, ⟨d2, hDr⟩, hTx, hUs, hMs, hBs, hPa, hE3, hE5, hE8, hf1, hf2, hf3, hnu, hnm, hqa⟩ := id hC
  obtain ⟨f1, f3, f14, f21, f26, f32, hCh, hln, hUR, hMv, hBl, hnl, hbil⟩ := id hM
  have hk5 : k < 512 := by omega
  have hlen := hTx.2.2.2.2.1
  have hpn := hPa.2.2.2.2
  rw [← hqa.1, ← hqa.2.1] at hl
  refine lv_aload_n hx hb dL_law_856 rfl (lv_at hl 1 rfl) ?_
  refine lv_aload_n hx hb dL_law_857 rfl (lv_at hl 0 rfl) ?_
  refine lv_iload hx hb dL_law_858 (lv_at hl 4 rfl) ?_
  refine lv_iconst (v := 1) hx hb dL_law_860 (by decide) ?_
  refine lv_iadd hx hb dL_law_861 ?_
  refine lw_rd hx hb hX9 hbl hbA hS (t := 1) rfl (by omega) hL dL_law_862 ?_
  refine lv_aload_n hx hb dL_law_863 rfl (lv_at hl 0 rfl) ?_
  refine lv_iload hx hb dL_law_864 (lv_at hl 4 rfl) ?_
  refine lv_iconst (v := 2) hx hb dL_law_866 (by decide) ?_
  refine lv_iadd hx hb dL_law_867 ?_
  refine lw_rd hx hb hX9 hbl hbA hS (t := 2) rfl (by omega) hL dL_law_868 ?_
  refine lv_aload_n hx hb dL_law_869 rfl (lv_at hl 0 rfl) ?_
  refine lv_iload hx hb dL_law_870 (lv_at hl 4 rfl) ?_
  refine lv_iconst (v := 3) hx hb dL_law_872 (by decide) ?_
  refine lv_iadd hx hb dL_law_873 ?_
  refine lw_rd hx hb hX9 hbl hbA hS (t := 3) rfl (by omega) hL dL_law_874 ?_
  refine lv_aload_n hx hb dL_law_875 rfl (lv_at hl 3 rfl) ?_
  refine va_calli (vx_runSW (As := [.ref (ad 0), .int (xs (5 * k + 1)), .int (xs (5 * k + 2)), .int (xs (5 * k + 3)), .ref (ad 70)]) (rest := []) ⟨hx, hb, hml, hown, hts⟩ (c_L_line l D y s.heap.size df mr Ls ad G lo hOu hX.1 hX.2 (xs (5 * k + 1)) (xs (5 * k + 2)) (xs (5 * k + 3)) (c_X7_line l hl0 D y s.heap.size Ls ad G ch dr hX nl (A 27) (A 28) (A 29) (A 30) hBs (xs (5 * k + 1)) (xs (5 * k + 2)) (xs (5 * k + 3))) (hp_line hOu) (fun k9 h9 => by rcases h9 with h9 | h9 | h9 <;> have := h9.1 <;> omega)) (vx_cwSW 5 hts gL_law_L_line rfl rfl rfl (by decide +kernel) ⟨(Nat.le_of_ble_eq_true rfl), (Nat.le_of_ble_eq_true rfl)⟩) ⟨WdC_blind, WdC_at hP hK hN hD hS (Nat.le_refl _) hT hLs hNc⟩ rfl rfl hl.1 rfl (lv_room (Nat.le_of_ble_eq_true rfl)) dL_law_876 ⟨(show _ ≤ 601024 by omega), Nat.le_trans (show _ ≤ 7293033 by omega) (by decide)⟩) hS (fun _ _ h => h) (fun _ h => h) (fun r5 u5 t H locs ht hvm hw5 hB hz1 hk1 hS => ?_)
  obtain ⟨hP, hD⟩ := hB
  rw [ht] at hP
  refine lv_istore (lv' := [(5, .int r5), (0, .ref b), (1, .ref (ad 0)), (2, .ref qa.2.2), (3, .ref (ad 70)), (4, .int (nI (5 * k)))]) hx hb dL_law_879 hl (by decide) rfl (fun ls hl => ?_)
  obtain ⟨L1, a1, g1, rfl, ha1, hM1, hnext⟩ := st_line hC hM hMo hOu (by omega) hw5
  rw [hqa.1, hqa.2.1, ← ha1] at hl
  refine lv_aload_n hx hb dL_law_881 rfl (lv_at hl 3 rfl) ?_
  refine lv_aload_n hx hb dL_law_882 rfl (lv_at hl 1 rfl) ?_
  refine lv_iload hx hb dL_law_883 (lv_at hl 5 rfl) ?_
  refine lv_iconst (v := 1) hx hb dL_law_885 (by decide) ?_
  refine lv_iadd hx hb dL_law_886 ?_
  refine lw_rd hx hb hX9 hbl hbA hS (t := 1) rfl (by omega) hL dL_law_887 ?_
  refine lv_aload_n hx hb dL_law_888 rfl (lv_at hl 1 rfl) ?_
  refine lv_iload hx hb dL_law_889 (lv_at hl 5 rfl) ?_
  refine lv_iconst (v := 2) hx hb dL_law_891 (by decide) ?_
  refine lv_iadd hx hb dL_law_892 ?_
  refine lw_rd hx hb hX9 hbl hbA hS (t := 2) rfl (by omega) hL dL_law_893 ?_
  refine lv_aload_n hx hb dL_law_894 rfl (lv_at hl 1 rfl) ?_
  refine lv_iload hx hb dL_law_895 (lv_at hl 5 rfl) ?_
  refine lv_iconst (v := 3) hx hb dL_law_897 (by decide) ?_
  refine lv_iadd hx hb dL_law_898 ?_
  refine lw_rd hx hb hX9 hbl hbA hS (t := 3) rfl (by omega) hL dL_law_899 ?_
  refine va_calli (va_runV (As := [.int (xs (5 * k + 1)), .int (xs (5 * k + 2)), .int (xs (5 * k + 3))]) (rest := []) ⟨hx, hb, hml, hown, hts⟩ (c_X8_line_ l hl0 D y s.heap.size L1 a1 g1 F A hM1 nl f26 (by omega) (xs (5 * k + 1)) (xs (5 * k + 2)) (xs (5 * k + 3))) (cwV 3 hts gL_law_X8_line_ rfl rfl rfl (by decide +kernel) ⟨(Nat.le_of_ble_eq_true rfl), (Nat.le_of_ble_eq_true rfl)⟩) ⟨WdM_blind, Wd_recv hK hP (ci := 10) rfl hM1.1 hM1.2.1, WdM_at hP hK hN hD hS (Nat.le_refl _) hT⟩ rfl rfl hl.1 rfl (lv_room (Nat.le_of_ble_eq_true rfl)) dL_law_900 ⟨(show _ ≤ 601024 by omega), Nat.le_trans (show _ ≤ 7293033 by omega) (by decide)⟩) hS (fun _ _ h => h) (fun _ h => h) (fun r6 u6 t H locs ht hvm hw6 hB hz2 hk2 hS => ?_)
  obtain ⟨hP, hD⟩ := hB
  rw [ht] at hP
  refine lv_istore (lv' := [(6, .int r6), (5, .int r5), (0, .ref b), (1, .ref qa.1), (2, .ref (a1 100)), (3, .ref qa.2.1), (4, .int (nI (5 * k)))]) hx hb dL_law_903 hl (by decide) rfl (fun ls hl => ?_)
  obtain ⟨L2, a2, g2, F2, A2, lo2, rfl, hRel2, h05, hans⟩ := hnext r6 u6 hw6
  obtain ⟨hq2, hM2, hOu2⟩ := Rel_q hRel2
  rw [ha1, ← hq2.2.2, ← hq2.2.1] at hl
  refine lv_aload_n hx hb dL_law_905 rfl (lv_at hl 4 rfl) ?_
  refine vp_callSi (va_Run.run (va_runV (As := []) (rest := []) ⟨hx, hb, hml, hown, hts⟩ (c_X8_thrown l D y L2 a2 g2 F2 A2 hM2) (cwV 0 hts gL_law_X8_thrown rfl rfl rfl (by decide +kernel) ⟨(Nat.le_of_ble_eq_true rfl), (Nat.le_of_ble_eq_true rfl)⟩) ⟨Wd_blind, Wd_recv hK hP (ci := 10) rfl hM2.1 hM2.2.1, Wd_at hP hK hN⟩ rfl rfl hl.1 rfl (lv_room (Nat.le_of_ble_eq_true rfl)) dL_law_906 ⟨(show _ ≤ 601024 by omega), Nat.le_trans (show _ ≤ 7293033 by omega) (by decide)⟩)) (fun r7 hr7 => ?_)
  refine lv_iload hx hb dL_law_909 (lv_at hl 1 rfl) ?_
  refine lv_icmp_eq (tgt := 916) hx hb dL_law_911 (by decide) (fun c1 => ?_) (fun c1 => ?_)
  · refine lv_iload hx hb dL_law_916 (lv_at hl 1 rfl) ?_
    refine lv_if_ne (tgt := 933) hx hb dL_law_918 (by decide) (fun c2 => ?_) (fun c2 => ?_)
    · refine lv_goto (tgt := 1209) hx hb dL_law_933 (by decide) ?_
      refine W.widen (k := cells + 7) (n := slots + 1043) (by omega) (by omega) ?_
      rw [hq2.2.2, hq2.2.1] at hl
      exact kk _ _ _ _ _ _ _ _ _ hRel2 hP hD hS (lv_sub hl [2, 3, 4, 5, 6] rfl)
    · refine lv_aload_n hx hb dL_law_921 rfl (lv_at hl 5 rfl) ?_
      refine lv_iconst (v := 0) hx hb dL_law_922 (by decide) ?_
      refine pv_lald hx hb hK hP hOu2.1 4 hOu2.2 rfl (k := 0) rfl (by decide) (by decide) dL_law_923 ?_
      refine lv_iload hx hb dL_law_924 (lv_at hl 0 rfl) ?_
      refine lv_i2l hx hb dL_law_926 rfl ?_
      refine W.lcmp hx hb dL_law_927 ?_
      refine lv_if_eq (tgt := 933) hx hb dL_law_928 (by decide) (fun c3 => ?_) (fun c3 => ?_)
      · refine lv_goto (tgt := 1209) hx hb dL_law_933 (by decide) ?_
        refine W.widen (k := cells + 7) (n := slots + 1043) (by omega) (by omega) ?_
        rw [hq2.2.2, hq2.2.1] at hl
        exact kk _ _ _ _ _ _ _ _ _ hRel2 hP hD hS (lv_sub hl [2, 3, 4, 5, 6] rfl)
      · exact absurd ((lg_cmp_eq _ _).mpr (hans c2)) c3
  · exact absurd (by rw [hr7, h05]) c1

set_option maxHeartbeats 4000000 in
set_option maxRecDepth 100000 in
theorem lc_billed {p : Program} {l : Launch} {e : Env} {s : State} {m : MethodId} {below : List Frame} {meth : Method} {c : Code} {b L : Nat} {xs : Nat → Int32} {D : va_G} {y : Nat → ClassId} {df mr : Nat} (hc : LawC p l s m c b L xs D y df mr) {k : Nat} (hk : 5 * k + 5 ≤ L) {qa : Nat × Nat × Nat} {Ls : List Nat} {ad : Nat → Nat} {G : Nat → va_E} {F : Nat → Int32} {A : Nat → Nat → Int32} {lo : Nat → Int64} (hRel : Rel y df qa k Ls ad G F A lo) {H : Heap} {locs : List Loc} (hP : va_P D vwCl (wl Ls ad G) H) (hD : va_D (fun q => s.heap.size ≤ q) (wl Ls ad G)) (hS : va_S (fun q => s.heap.size ≤ q) s.heap H locs) {cells slots : Nat} (hrc : cells + 7 ≤ 601024) (hrs : slots + 1043 ≤ 7293033) {ls : Array Slot} (hl : lv_has ls 7 [(0, .ref b), (1, .ref qa.1), (2, .ref qa.2.2), (3, .ref qa.2.1), (4, .int (nI (5 * k)))]) {Q : State → Prop}
    (kk : ∀ Ls2 ad2 G2 F2 A2 lo2 H2 locs2 ls2, Rel y df qa (k + 1) Ls2 ad2 G2 F2 A2 lo2 → va_P D vwCl (wl Ls2 ad2 G2) H2 → va_D (fun q => s.heap.size ≤ q) (wl Ls2 ad2 G2) → va_S (fun q => s.heap.size ≤ q) s.heap H2 locs2 → lv_has ls2 7 [(0, .ref b), (1, .ref qa.1), (2, .ref qa.2.2), (3, .ref qa.2.1), (4, .int (nI (5 * k)))] → W p l e room_1 s m #[Value.ref b] below meth c H2 locs2 (cells + 7) (slots + 1043) Q (F0 m 1209 ls2 [])) :
    W p l e room_1 s m #[Value.ref b] below meth c H locs cells slots Q (F0 m 936 ls []) := by
  obtain ⟨hx, hb, hml, hown, hts9, hX9, hbl, hK, hN, hT, hLs, hNc, hL, hl0⟩ := hc
  have hts : ∀ w ∈ wsL_law, w.before #[Value.ref b] s = true := fun w h => hts9 w (List.mem_append_left _ h)
  have hbA : ¬ (fun q : Nat => s.heap.size ≤ q) b := Nat.not_le.mpr hbl
  obtain ⟨ch, dr, st, ha, mi, dO, dD, dP, nd, li, ow, len, ln, nu, uo, uf, ul, ug, ut, uk, ud, nm, nl, pn, hC, hM, hMo, hOu⟩ := hRel
  obtain ⟨hX, hcd, hCg, ⟨d2, hDr⟩, hTx, hUs, hMs, hBs, hPa, hE3, hE5, hE8, hf1, hf2, hf3, hnu, hnm, hqa⟩ := id hC
  obtain ⟨f1, f3, f14, f21, f26, f32, hCh, hln, hUR, hMv, hBl, hnl, hbil⟩ := id hM
  have hk5 : k < 512 := by omega
  have hlen := hTx.2.2.2.2.1
  have hpn := hPa.2.2.2.2
  rw [← hqa.1, ← hqa.2.1] at hl
  refine lv_aload_n hx hb dL_law_936 rfl (lv_at hl 1 rfl) ?_
  refine lv_aload_n hx hb dL_law_937 rfl (lv_at hl 0 rfl) ?_
  refine lv_iload hx hb dL_law_938 (lv_at hl 4 rfl) ?_
  refine lv_iconst (v := 1) hx hb dL_law_940 (by decide) ?_
  refine lv_iadd hx hb dL_law_941 ?_
  refine lw_rd hx hb hX9 hbl hbA hS (t := 1) rfl (by omega) hL dL_law_942 ?_
  refine lv_aload_n hx hb dL_law_943 rfl (lv_at hl 3 rfl) ?_
  refine va_calli (vx_runSW (As := [.ref (ad 0), .int (xs (5 * k + 1)), .ref (ad 70)]) (rest := []) ⟨hx, hb, hml, hown, hts⟩ (c_L_billed l D y s.heap.size df mr Ls ad G lo hOu hX.1 hX.2 (xs (5 * k + 1)) (c_X7_billed l hl0 D y s.heap.size Ls ad G ch dr hX nl (A 27) (A 28) (A 29) (A 30) hBs (xs (5 * k + 1))) (hp_billed hOu) (fun k9 h9 => h9.1)) (vx_cwSW 3 hts gL_law_L_billed rfl rfl rfl (by decide +kernel) ⟨(Nat.le_of_ble_eq_true rfl), (Nat.le_of_ble_eq_true rfl)⟩) ⟨WdC_blind, WdC_at hP hK hN hD hS (Nat.le_refl _) hT hLs hNc⟩ rfl rfl hl.1 rfl (lv_room (Nat.le_of_ble_eq_true rfl)) dL_law_944 ⟨(show _ ≤ 601024 by omega), Nat.le_trans (show _ ≤ 7293033 by omega) (by decide)⟩) hS (fun _ _ h => h) (fun _ h => h) (fun r5 u5 t H locs ht hvm hw5 hB hz1 hk1 hS => ?_)
  obtain ⟨hP, hD⟩ := hB
  rw [ht] at hP
  refine lv_istore (lv' := [(5, .int r5), (0, .ref b), (1, .ref (ad 0)), (2, .ref qa.2.2), (3, .ref (ad 70)), (4, .int (nI (5 * k)))]) hx hb dL_law_947 hl (by decide) rfl (fun ls hl => ?_)
  obtain ⟨L1, a1, g1, rfl, ha1, hM1, hnext⟩ := st_billed hC hM hMo hOu hw5
  rw [hqa.1, hqa.2.1, ← ha1] at hl
  refine lv_aload_n hx hb dL_law_949 rfl (lv_at hl 3 rfl) ?_
  refine lv_aload_n hx hb dL_law_950 rfl (lv_at hl 1 rfl) ?_
  refine lv_iload hx hb dL_law_951 (lv_at hl 5 rfl) ?_
  refine lv_iconst (v := 1) hx hb dL_law_953 (by decide) ?_
  refine lv_iadd hx hb dL_law_954 ?_
  refine lw_rd hx hb hX9 hbl hbA hS (t := 1) rfl (by omega) hL dL_law_955 ?_
  refine va_calli (va_runV (As := [.int (xs (5 * k + 1))]) (rest := []) ⟨hx, hb, hml, hown, hts⟩ (c_X8_billed l hl0 D y s.heap.size L1 a1 g1 F A hM1 nl f26 (by omega) (xs (5 * k + 1))) (cwV 1 hts gL_law_X8_billed rfl rfl rfl (by decide +kernel) ⟨(Nat.le_of_ble_eq_true rfl), (Nat.le_of_ble_eq_true rfl)⟩) ⟨WdM_blind, Wd_recv hK hP (ci := 10) rfl hM1.1 hM1.2.1, WdM_at hP hK hN hD hS (Nat.le_refl _) hT⟩ rfl rfl hl.1 rfl (lv_room (Nat.le_of_ble_eq_true rfl)) dL_law_956 ⟨(show _ ≤ 601024 by omega), Nat.le_trans (show _ ≤ 7293033 by omega) (by decide)⟩) hS (fun _ _ h => h) (fun _ h => h) (fun r6 u6 t H locs ht hvm hw6 hB hz2 hk2 hS => ?_)
  obtain ⟨hP, hD⟩ := hB
  rw [ht] at hP
  refine lv_istore (lv' := [(6, .int r6), (5, .int r5), (0, .ref b), (1, .ref qa.1), (2, .ref (a1 100)), (3, .ref qa.2.1), (4, .int (nI (5 * k)))]) hx hb dL_law_959 hl (by decide) rfl (fun ls hl => ?_)
  obtain ⟨L2, a2, g2, F2, A2, lo2, rfl, hRel2, h05, hans⟩ := hnext r6 u6 hw6
  obtain ⟨hq2, hM2, hOu2⟩ := Rel_q hRel2
  rw [ha1, ← hq2.2.2, ← hq2.2.1] at hl
  refine lv_aload_n hx hb dL_law_961 rfl (lv_at hl 4 rfl) ?_
  refine vp_callSi (va_Run.run (va_runV (As := []) (rest := []) ⟨hx, hb, hml, hown, hts⟩ (c_X8_thrown l D y L2 a2 g2 F2 A2 hM2) (cwV 0 hts gL_law_X8_thrown rfl rfl rfl (by decide +kernel) ⟨(Nat.le_of_ble_eq_true rfl), (Nat.le_of_ble_eq_true rfl)⟩) ⟨Wd_blind, Wd_recv hK hP (ci := 10) rfl hM2.1 hM2.2.1, Wd_at hP hK hN⟩ rfl rfl hl.1 rfl (lv_room (Nat.le_of_ble_eq_true rfl)) dL_law_962 ⟨(show _ ≤ 601024 by omega), Nat.le_trans (show _ ≤ 7293033 by omega) (by decide)⟩)) (fun r7 hr7 => ?_)
  refine lv_iload hx hb dL_law_965 (lv_at hl 1 rfl) ?_
  refine lv_icmp_eq (tgt := 972) hx hb dL_law_967 (by decide) (fun c1 => ?_) (fun c1 => ?_)
  · refine lv_iload hx hb dL_law_972 (lv_at hl 1 rfl) ?_
    refine lv_if_ne (tgt := 989) hx hb dL_law_974 (by decide) (fun c2 => ?_) (fun c2 => ?_)
    · refine lv_goto (tgt := 1209) hx hb dL_law_989 (by decide) ?_
      refine W.widen (k := cells + 7) (n := slots + 1043) (by omega) (by omega) ?_
      rw [hq2.2.2, hq2.2.1] at hl
      exact kk _ _ _ _ _ _ _ _ _ hRel2 hP hD hS (lv_sub hl [2, 3, 4, 5, 6] rfl)
    · refine lv_aload_n hx hb dL_law_977 rfl (lv_at hl 5 rfl) ?_
      refine lv_iconst (v := 0) hx hb dL_law_978 (by decide) ?_
      refine pv_lald hx hb hK hP hOu2.1 4 hOu2.2 rfl (k := 0) rfl (by decide) (by decide) dL_law_979 ?_
      refine lv_iload hx hb dL_law_980 (lv_at hl 0 rfl) ?_
      refine lv_i2l hx hb dL_law_982 rfl ?_
      refine W.lcmp hx hb dL_law_983 ?_
      refine lv_if_eq (tgt := 989) hx hb dL_law_984 (by decide) (fun c3 => ?_) (fun c3 => ?_)
      · refine lv_goto (tgt := 1209) hx hb dL_law_989 (by decide) ?_
        refine W.widen (k := cells + 7) (n := slots + 1043) (by omega) (by omega) ?_
        rw [hq2.2.2, hq2.2.1] at hl
        exact kk _ _ _ _ _ _ _ _ _ hRel2 hP hD hS (lv_sub hl [2, 3, 4, 5, 6] rfl)
      · exact absurd ((lg_cmp_eq _ _).mpr (hans c2)) c3
  · exact absurd (by rw [hr7, h05]) c1

set_option maxHeartbeats 4000000 in
set_option maxRecDepth 100000 in
theorem lc_compare {p : Program} {l : Launch} {e : Env} {s : State} {m : MethodId} {below : List Frame} {meth : Method} {c : Code} {b L : Nat} {xs : Nat → Int32} {D : va_G} {y : Nat → ClassId} {df mr : Nat} (hc : LawC p l s m c b L xs D y df mr) {k : Nat} (hk : 5 * k + 5 ≤ L) {qa : Nat × Nat × Nat} {Ls : List Nat} {ad : Nat → Nat} {G : Nat → va_E} {F : Nat → Int32} {A : Nat → Nat → Int32} {lo : Nat → Int64} (hRel : Rel y df qa k Ls ad G F A lo) {H : Heap} {locs : List Loc} (hP : va_P D vwCl (wl Ls ad G) H) (hD : va_D (fun q => s.heap.size ≤ q) (wl Ls ad G)) (hS : va_S (fun q => s.heap.size ≤ q) s.heap H locs) {cells slots : Nat} (hrc : cells + 7 ≤ 601024) (hrs : slots + 1043 ≤ 7293033) {ls : Array Slot} (hl : lv_has ls 7 [(0, .ref b), (1, .ref qa.1), (2, .ref qa.2.2), (3, .ref qa.2.1), (4, .int (nI (5 * k)))]) {Q : State → Prop}
    (kk : ∀ Ls2 ad2 G2 F2 A2 lo2 H2 locs2 ls2, Rel y df qa (k + 1) Ls2 ad2 G2 F2 A2 lo2 → va_P D vwCl (wl Ls2 ad2 G2) H2 → va_D (fun q => s.heap.size ≤ q) (wl Ls2 ad2 G2) → va_S (fun q => s.heap.size ≤ q) s.heap H2 locs2 → lv_has ls2 7 [(0, .ref b), (1, .ref qa.1), (2, .ref qa.2.2), (3, .ref qa.2.1), (4, .int (nI (5 * k)))] → W p l e room_1 s m #[Value.ref b] below meth c H2 locs2 (cells + 7) (slots + 1043) Q (F0 m 1209 ls2 [])) :
    W p l e room_1 s m #[Value.ref b] below meth c H locs cells slots Q (F0 m 992 ls []) := by
  obtain ⟨hx, hb, hml, hown, hts9, hX9, hbl, hK, hN, hT, hLs, hNc, hL, hl0⟩ := hc
  have hts : ∀ w ∈ wsL_law, w.before #[Value.ref b] s = true := fun w h => hts9 w (List.mem_append_left _ h)
  have hbA : ¬ (fun q : Nat => s.heap.size ≤ q) b := Nat.not_le.mpr hbl
  obtain ⟨ch, dr, st, ha, mi, dO, dD, dP, nd, li, ow, len, ln, nu, uo, uf, ul, ug, ut, uk, ud, nm, nl, pn, hC, hM, hMo, hOu⟩ := hRel
  obtain ⟨hX, hcd, hCg, ⟨d2, hDr⟩, hTx, hUs, hMs, hBs, hPa, hE3, hE5, hE8, hf1, hf2, hf3, hnu, hnm, hqa⟩ := id hC
  obtain ⟨f1, f3, f14, f21, f26, f32, hCh, hln, hUR, hMv, hBl, hnl, hbil⟩ := id hM
  have hk5 : k < 512 := by omega
  have hlen := hTx.2.2.2.2.1
  have hpn := hPa.2.2.2.2
  rw [← hqa.1, ← hqa.2.1] at hl
  refine lv_aload_n hx hb dL_law_992 rfl (lv_at hl 1 rfl) ?_
  refine lv_aload_n hx hb dL_law_993 rfl (lv_at hl 0 rfl) ?_
  refine lv_iload hx hb dL_law_994 (lv_at hl 4 rfl) ?_
  refine lv_iconst (v := 1) hx hb dL_law_996 (by decide) ?_
  refine lv_iadd hx hb dL_law_997 ?_
  refine lw_rd hx hb hX9 hbl hbA hS (t := 1) rfl (by omega) hL dL_law_998 ?_
  refine lv_aload_n hx hb dL_law_999 rfl (lv_at hl 0 rfl) ?_
  refine lv_iload hx hb dL_law_1000 (lv_at hl 4 rfl) ?_
  refine lv_iconst (v := 2) hx hb dL_law_1002 (by decide) ?_
  refine lv_iadd hx hb dL_law_1003 ?_
  refine lw_rd hx hb hX9 hbl hbA hS (t := 2) rfl (by omega) hL dL_law_1004 ?_
  refine lv_aload_n hx hb dL_law_1005 rfl (lv_at hl 0 rfl) ?_
  refine lv_iload hx hb dL_law_1006 (lv_at hl 4 rfl) ?_
  refine lv_iconst (v := 3) hx hb dL_law_1008 (by decide) ?_
  refine lv_iadd hx hb dL_law_1009 ?_
  refine lw_rd hx hb hX9 hbl hbA hS (t := 3) rfl (by omega) hL dL_law_1010 ?_
  refine lv_aload_n hx hb dL_law_1011 rfl (lv_at hl 3 rfl) ?_
  refine va_calli (vx_runSW (As := [.ref (ad 0), .int (xs (5 * k + 1)), .int (xs (5 * k + 2)), .int (xs (5 * k + 3)), .ref (ad 70)]) (rest := []) ⟨hx, hb, hml, hown, hts⟩ (c_L_compare l D y s.heap.size df mr Ls ad G lo hOu hX.1 hX.2 (xs (5 * k + 1)) (xs (5 * k + 2)) (xs (5 * k + 3)) (c_X7_compare l hl0 D y s.heap.size Ls ad G ch dr hX st ha mi dO dD dP nd li ow hCg nu uo uf ul ug ut uk ud hUs nm (A 22) (A 23) (A 24) (A 25) hMs (xs (5 * k + 1)) (xs (5 * k + 2)) (xs (5 * k + 3))) (hp_compare hOu) (fun k9 h9 => h9.1)) (vx_cwSW 5 hts gL_law_L_compare rfl rfl rfl (by decide +kernel) ⟨(Nat.le_of_ble_eq_true rfl), (Nat.le_of_ble_eq_true rfl)⟩) ⟨WdC_blind, WdC_at hP hK hN hD hS (Nat.le_refl _) hT hLs hNc⟩ rfl rfl hl.1 rfl (lv_room (Nat.le_of_ble_eq_true rfl)) dL_law_1012 ⟨(show _ ≤ 601024 by omega), Nat.le_trans (show _ ≤ 7293033 by omega) (by decide)⟩) hS (fun _ _ h => h) (fun _ h => h) (fun r5 u5 t H locs ht hvm hw5 hB hz1 hk1 hS => ?_)
  obtain ⟨hP, hD⟩ := hB
  rw [ht] at hP
  refine lv_istore (lv' := [(5, .int r5), (0, .ref b), (1, .ref (ad 0)), (2, .ref qa.2.2), (3, .ref (ad 70)), (4, .int (nI (5 * k)))]) hx hb dL_law_1015 hl (by decide) rfl (fun ls hl => ?_)
  obtain ⟨L1, a1, g1, rfl, ha1, hM1, hnext⟩ := st_compare hC hM hMo hOu hw5
  rw [hqa.1, hqa.2.1, ← ha1] at hl
  refine lv_aload_n hx hb dL_law_1017 rfl (lv_at hl 3 rfl) ?_
  refine lv_aload_n hx hb dL_law_1018 rfl (lv_at hl 1 rfl) ?_
  refine lv_iload hx hb dL_law_1019 (lv_at hl 5 rfl) ?_
  refine lv_iconst (v := 1) hx hb dL_law_1021 (by decide) ?_
  refine lv_iadd hx hb dL_law_1022 ?_
  refine lw_rd hx hb hX9 hbl hbA hS (t := 1) rfl (by omega) hL dL_law_1023 ?_
  refine lv_aload_n hx hb dL_law_1024 rfl (lv_at hl 1 rfl) ?_
  refine lv_iload hx hb dL_law_1025 (lv_at hl 5 rfl) ?_
  refine lv_iconst (v := 2) hx hb dL_law_1027 (by decide) ?_
  refine lv_iadd hx hb dL_law_1028 ?_
  refine lw_rd hx hb hX9 hbl hbA hS (t := 2) rfl (by omega) hL dL_law_1029 ?_
  refine lv_aload_n hx hb dL_law_1030 rfl (lv_at hl 1 rfl) ?_
  refine lv_iload hx hb dL_law_1031 (lv_at hl 5 rfl) ?_
  refine lv_iconst (v := 3) hx hb dL_law_1033 (by decide) ?_
  refine lv_iadd hx hb dL_law_1034 ?_
  refine lw_rd hx hb hX9 hbl hbA hS (t := 3) rfl (by omega) hL dL_law_1035 ?_
  refine va_calli (va_runV (As := [.int (xs (5 * k + 1)), .int (xs (5 * k + 2)), .int (xs (5 * k + 3))]) (rest := []) ⟨hx, hb, hml, hown, hts⟩ (c_X8_compare l hl0 D y s.heap.size L1 a1 g1 F A hM1 nu f14 ln f3 nm f21 hnu hln hnm ut (fun u hu => ⟨(hUR u hu).2.2.2.2.2.2.2.2.1, (hUR u hu).2.2.2.2.2.2.2.1⟩) (xs (5 * k + 1)) (xs (5 * k + 2)) (xs (5 * k + 3))) (cwV 3 hts gL_law_X8_compare rfl rfl rfl (by decide +kernel) ⟨(Nat.le_of_ble_eq_true rfl), (Nat.le_of_ble_eq_true rfl)⟩) ⟨WdM_blind, Wd_recv hK hP (ci := 10) rfl hM1.1 hM1.2.1, WdM_at hP hK hN hD hS (Nat.le_refl _) hT⟩ rfl rfl hl.1 rfl (lv_room (Nat.le_of_ble_eq_true rfl)) dL_law_1036 ⟨(show _ ≤ 601024 by omega), Nat.le_trans (show _ ≤ 7293033 by omega) (by decide)⟩) hS (fun _ _ h => h) (fun _ h => h) (fun r6 u6 t H locs ht hvm hw6 hB hz2 hk2 hS => ?_)
  obtain ⟨hP, hD⟩ := hB
  rw [ht] at hP
  refine lv_istore (lv' := [(6, .int r6), (5, .int r5), (0, .ref b), (1, .ref qa.1), (2, .ref (a1 100)), (3, .ref qa.2.1), (4, .int (nI (5 * k)))]) hx hb dL_law_1039 hl (by decide) rfl (fun ls hl => ?_)
  obtain ⟨L2, a2, g2, F2, A2, lo2, rfl, hRel2, h05, hans⟩ := hnext r6 u6 hw6
  obtain ⟨hq2, hM2, hOu2⟩ := Rel_q hRel2
  rw [ha1, ← hq2.2.2, ← hq2.2.1] at hl
  refine lv_aload_n hx hb dL_law_1041 rfl (lv_at hl 4 rfl) ?_
  refine vp_callSi (va_Run.run (va_runV (As := []) (rest := []) ⟨hx, hb, hml, hown, hts⟩ (c_X8_thrown l D y L2 a2 g2 F2 A2 hM2) (cwV 0 hts gL_law_X8_thrown rfl rfl rfl (by decide +kernel) ⟨(Nat.le_of_ble_eq_true rfl), (Nat.le_of_ble_eq_true rfl)⟩) ⟨Wd_blind, Wd_recv hK hP (ci := 10) rfl hM2.1 hM2.2.1, Wd_at hP hK hN⟩ rfl rfl hl.1 rfl (lv_room (Nat.le_of_ble_eq_true rfl)) dL_law_1042 ⟨(show _ ≤ 601024 by omega), Nat.le_trans (show _ ≤ 7293033 by omega) (by decide)⟩)) (fun r7 hr7 => ?_)
  refine lv_iload hx hb dL_law_1045 (lv_at hl 1 rfl) ?_
  refine lv_icmp_eq (tgt := 1052) hx hb dL_law_1047 (by decide) (fun c1 => ?_) (fun c1 => ?_)
  · refine lv_iload hx hb dL_law_1052 (lv_at hl 1 rfl) ?_
    refine lv_if_ne (tgt := 1069) hx hb dL_law_1054 (by decide) (fun c2 => ?_) (fun c2 => ?_)
    · refine lv_goto (tgt := 1209) hx hb dL_law_1069 (by decide) ?_
      refine W.widen (k := cells + 7) (n := slots + 1043) (by omega) (by omega) ?_
      rw [hq2.2.2, hq2.2.1] at hl
      exact kk _ _ _ _ _ _ _ _ _ hRel2 hP hD hS (lv_sub hl [2, 3, 4, 5, 6] rfl)
    · refine lv_aload_n hx hb dL_law_1057 rfl (lv_at hl 5 rfl) ?_
      refine lv_iconst (v := 0) hx hb dL_law_1058 (by decide) ?_
      refine pv_lald hx hb hK hP hOu2.1 4 hOu2.2 rfl (k := 0) rfl (by decide) (by decide) dL_law_1059 ?_
      refine lv_iload hx hb dL_law_1060 (lv_at hl 0 rfl) ?_
      refine lv_i2l hx hb dL_law_1062 rfl ?_
      refine W.lcmp hx hb dL_law_1063 ?_
      refine lv_if_eq (tgt := 1069) hx hb dL_law_1064 (by decide) (fun c3 => ?_) (fun c3 => ?_)
      · refine lv_goto (tgt := 1209) hx hb dL_law_1069 (by decide) ?_
        refine W.widen (k := cells + 7) (n := slots + 1043) (by omega) (by omega) ?_
        rw [hq2.2.2, hq2.2.1] at hl
        exact kk _ _ _ _ _ _ _ _ _ hRel2 hP hD hS (lv_sub hl [2, 3, 4, 5, 6] rfl)
      · exact absurd ((lg_cmp_eq _ _).mpr (hans c2)) c3
  · exact absurd (by rw [hr7, h05]) c1

set_option maxHeartbeats 4000000 in
set_option maxRecDepth 100000 in
theorem lc_print {p : Program} {l : Launch} {e : Env} {s : State} {m : MethodId} {below : List Frame} {meth : Method} {c : Code} {b L : Nat} {xs : Nat → Int32} {D : va_G} {y : Nat → ClassId} {df mr : Nat} (hc : LawC p l s m c b L xs D y df mr) {k : Nat} (hk : 5 * k + 5 ≤ L) {qa : Nat × Nat × Nat} {Ls : List Nat} {ad : Nat → Nat} {G : Nat → va_E} {F : Nat → Int32} {A : Nat → Nat → Int32} {lo : Nat → Int64} (hRel : Rel y df qa k Ls ad G F A lo) {H : Heap} {locs : List Loc} (hP : va_P D vwCl (wl Ls ad G) H) (hD : va_D (fun q => s.heap.size ≤ q) (wl Ls ad G)) (hS : va_S (fun q => s.heap.size ≤ q) s.heap H locs) {cells slots : Nat} (hrc : cells + 7 ≤ 601024) (hrs : slots + 1043 ≤ 7293033) {ls : Array Slot} (hl : lv_has ls 7 [(0, .ref b), (1, .ref qa.1), (2, .ref qa.2.2), (3, .ref qa.2.1), (4, .int (nI (5 * k)))]) {Q : State → Prop}
    (kk : ∀ Ls2 ad2 G2 F2 A2 lo2 H2 locs2 ls2, Rel y df qa (k + 1) Ls2 ad2 G2 F2 A2 lo2 → va_P D vwCl (wl Ls2 ad2 G2) H2 → va_D (fun q => s.heap.size ≤ q) (wl Ls2 ad2 G2) → va_S (fun q => s.heap.size ≤ q) s.heap H2 locs2 → lv_has ls2 7 [(0, .ref b), (1, .ref qa.1), (2, .ref qa.2.2), (3, .ref qa.2.1), (4, .int (nI (5 * k)))] → W p l e room_1 s m #[Value.ref b] below meth c H2 locs2 (cells + 7) (slots + 1043) Q (F0 m 1209 ls2 [])) :
    W p l e room_1 s m #[Value.ref b] below meth c H locs cells slots Q (F0 m 1072 ls []) := by
  obtain ⟨hx, hb, hml, hown, hts9, hX9, hbl, hK, hN, hT, hLs, hNc, hL, hl0⟩ := hc
  have hts : ∀ w ∈ wsL_law, w.before #[Value.ref b] s = true := fun w h => hts9 w (List.mem_append_left _ h)
  have hbA : ¬ (fun q : Nat => s.heap.size ≤ q) b := Nat.not_le.mpr hbl
  obtain ⟨ch, dr, st, ha, mi, dO, dD, dP, nd, li, ow, len, ln, nu, uo, uf, ul, ug, ut, uk, ud, nm, nl, pn, hC, hM, hMo, hOu⟩ := hRel
  obtain ⟨hX, hcd, hCg, ⟨d2, hDr⟩, hTx, hUs, hMs, hBs, hPa, hE3, hE5, hE8, hf1, hf2, hf3, hnu, hnm, hqa⟩ := id hC
  obtain ⟨f1, f3, f14, f21, f26, f32, hCh, hln, hUR, hMv, hBl, hnl, hbil⟩ := id hM
  have hk5 : k < 512 := by omega
  have hlen := hTx.2.2.2.2.1
  have hpn := hPa.2.2.2.2
  rw [← hqa.1, ← hqa.2.1] at hl
  refine lv_aload_n hx hb dL_law_1072 rfl (lv_at hl 1 rfl) ?_
  refine lv_aload_n hx hb dL_law_1073 rfl (lv_at hl 0 rfl) ?_
  refine lv_iload hx hb dL_law_1074 (lv_at hl 4 rfl) ?_
  refine lv_iconst (v := 1) hx hb dL_law_1076 (by decide) ?_
  refine lv_iadd hx hb dL_law_1077 ?_
  refine lw_rd hx hb hX9 hbl hbA hS (t := 1) rfl (by omega) hL dL_law_1078 ?_
  refine lv_aload_n hx hb dL_law_1079 rfl (lv_at hl 3 rfl) ?_
  refine va_calli (vx_runSW (As := [.ref (ad 0), .int (xs (5 * k + 1)), .ref (ad 70)]) (rest := []) ⟨hx, hb, hml, hown, hts⟩ (c_L_print l D y s.heap.size df mr Ls ad G lo hOu hX.1 hX.2 (xs (5 * k + 1)) (c_X7_print l hl0 D y s.heap.size Ls ad G ch dr hX nl (A 27) (A 28) (A 29) (A 30) hBs (A 33) pn hPa (zM (A 28)) (zC (A 29)) (BlR_zz hBl) (by omega) (xs (5 * k + 1))) (hp_print hOu) (fun k9 h9 => h9.1)) (vx_cwSW 3 hts gL_law_L_print rfl rfl rfl (by decide +kernel) ⟨(Nat.le_of_ble_eq_true rfl), (Nat.le_of_ble_eq_true rfl)⟩) ⟨WdC_blind, WdC_at hP hK hN hD hS (Nat.le_refl _) hT hLs hNc⟩ rfl rfl hl.1 rfl (lv_room (Nat.le_of_ble_eq_true rfl)) dL_law_1080 ⟨(show _ ≤ 601024 by omega), Nat.le_trans (show _ ≤ 7293033 by omega) (by decide)⟩) hS (fun _ _ h => h) (fun _ h => h) (fun r5 u5 t H locs ht hvm hw5 hB hz1 hk1 hS => ?_)
  obtain ⟨hP, hD⟩ := hB
  rw [ht] at hP
  refine lv_istore (lv' := [(5, .int r5), (0, .ref b), (1, .ref (ad 0)), (2, .ref qa.2.2), (3, .ref (ad 70)), (4, .int (nI (5 * k)))]) hx hb dL_law_1083 hl (by decide) rfl (fun ls hl => ?_)
  obtain ⟨L1, a1, g1, rfl, ha1, hM1, hnext⟩ := st_print hC hM hMo hOu hw5
  rw [hqa.1, hqa.2.1, ← ha1] at hl
  refine lv_aload_n hx hb dL_law_1085 rfl (lv_at hl 3 rfl) ?_
  refine lv_aload_n hx hb dL_law_1086 rfl (lv_at hl 1 rfl) ?_
  refine lv_iload hx hb dL_law_1087 (lv_at hl 5 rfl) ?_
  refine lv_iconst (v := 1) hx hb dL_law_1089 (by decide) ?_
  refine lv_iadd hx hb dL_law_1090 ?_
  refine lw_rd hx hb hX9 hbl hbA hS (t := 1) rfl (by omega) hL dL_law_1091 ?_
  refine va_calli (va_runV (As := [.int (xs (5 * k + 1))]) (rest := []) ⟨hx, hb, hml, hown, hts⟩ (c_X8_print l hl0 D y s.heap.size L1 a1 g1 F A hM1 nl f26 (zM (A 28)) (zC (A 29)) (BlR_zz hBl) (by omega) (xs (5 * k + 1))) (cwV 1 hts gL_law_X8_print rfl rfl rfl (by decide +kernel) ⟨(Nat.le_of_ble_eq_true rfl), (Nat.le_of_ble_eq_true rfl)⟩) ⟨WdM_blind, Wd_recv hK hP (ci := 10) rfl hM1.1 hM1.2.1, WdM_at hP hK hN hD hS (Nat.le_refl _) hT⟩ rfl rfl hl.1 rfl (lv_room (Nat.le_of_ble_eq_true rfl)) dL_law_1092 ⟨(show _ ≤ 601024 by omega), Nat.le_trans (show _ ≤ 7293033 by omega) (by decide)⟩) hS (fun _ _ h => h) (fun _ h => h) (fun r6 u6 t H locs ht hvm hw6 hB hz2 hk2 hS => ?_)
  obtain ⟨hP, hD⟩ := hB
  rw [ht] at hP
  refine lv_istore (lv' := [(6, .int r6), (5, .int r5), (0, .ref b), (1, .ref qa.1), (2, .ref (a1 100)), (3, .ref qa.2.1), (4, .int (nI (5 * k)))]) hx hb dL_law_1095 hl (by decide) rfl (fun ls hl => ?_)
  obtain ⟨L2, a2, g2, F2, A2, lo2, rfl, hRel2, h05, hans⟩ := hnext r6 u6 hw6
  obtain ⟨hq2, hM2, hOu2⟩ := Rel_q hRel2
  rw [ha1, ← hq2.2.2, ← hq2.2.1] at hl
  refine lv_aload_n hx hb dL_law_1097 rfl (lv_at hl 4 rfl) ?_
  refine vp_callSi (va_Run.run (va_runV (As := []) (rest := []) ⟨hx, hb, hml, hown, hts⟩ (c_X8_thrown l D y L2 a2 g2 F2 A2 hM2) (cwV 0 hts gL_law_X8_thrown rfl rfl rfl (by decide +kernel) ⟨(Nat.le_of_ble_eq_true rfl), (Nat.le_of_ble_eq_true rfl)⟩) ⟨Wd_blind, Wd_recv hK hP (ci := 10) rfl hM2.1 hM2.2.1, Wd_at hP hK hN⟩ rfl rfl hl.1 rfl (lv_room (Nat.le_of_ble_eq_true rfl)) dL_law_1098 ⟨(show _ ≤ 601024 by omega), Nat.le_trans (show _ ≤ 7293033 by omega) (by decide)⟩)) (fun r7 hr7 => ?_)
  refine lv_iload hx hb dL_law_1101 (lv_at hl 1 rfl) ?_
  refine lv_icmp_eq (tgt := 1108) hx hb dL_law_1103 (by decide) (fun c1 => ?_) (fun c1 => ?_)
  · refine lv_iload hx hb dL_law_1108 (lv_at hl 1 rfl) ?_
    refine lv_if_ne (tgt := 1125) hx hb dL_law_1110 (by decide) (fun c2 => ?_) (fun c2 => ?_)
    · refine lv_goto (tgt := 1209) hx hb dL_law_1125 (by decide) ?_
      refine W.widen (k := cells + 7) (n := slots + 1043) (by omega) (by omega) ?_
      rw [hq2.2.2, hq2.2.1] at hl
      exact kk _ _ _ _ _ _ _ _ _ hRel2 hP hD hS (lv_sub hl [2, 3, 4, 5, 6] rfl)
    · refine lv_aload_n hx hb dL_law_1113 rfl (lv_at hl 5 rfl) ?_
      refine lv_iconst (v := 0) hx hb dL_law_1114 (by decide) ?_
      refine pv_lald hx hb hK hP hOu2.1 4 hOu2.2 rfl (k := 0) rfl (by decide) (by decide) dL_law_1115 ?_
      refine lv_iload hx hb dL_law_1116 (lv_at hl 0 rfl) ?_
      refine lv_i2l hx hb dL_law_1118 rfl ?_
      refine W.lcmp hx hb dL_law_1119 ?_
      refine lv_if_eq (tgt := 1125) hx hb dL_law_1120 (by decide) (fun c3 => ?_) (fun c3 => ?_)
      · refine lv_goto (tgt := 1209) hx hb dL_law_1125 (by decide) ?_
        refine W.widen (k := cells + 7) (n := slots + 1043) (by omega) (by omega) ?_
        rw [hq2.2.2, hq2.2.1] at hl
        exact kk _ _ _ _ _ _ _ _ _ hRel2 hP hD hS (lv_sub hl [2, 3, 4, 5, 6] rfl)
      · exact absurd ((lg_cmp_eq _ _).mpr (hans c2)) c3
  · exact absurd (by rw [hr7, h05]) c1

set_option maxHeartbeats 4000000 in
set_option maxRecDepth 100000 in
theorem lc_at {p : Program} {l : Launch} {e : Env} {s : State} {m : MethodId} {below : List Frame} {meth : Method} {c : Code} {b L : Nat} {xs : Nat → Int32} {D : va_G} {y : Nat → ClassId} {df mr : Nat} (hc : LawC p l s m c b L xs D y df mr) {k : Nat} (hk : 5 * k + 5 ≤ L) {qa : Nat × Nat × Nat} {Ls : List Nat} {ad : Nat → Nat} {G : Nat → va_E} {F : Nat → Int32} {A : Nat → Nat → Int32} {lo : Nat → Int64} (hRel : Rel y df qa k Ls ad G F A lo) {H : Heap} {locs : List Loc} (hP : va_P D vwCl (wl Ls ad G) H) (hD : va_D (fun q => s.heap.size ≤ q) (wl Ls ad G)) (hS : va_S (fun q => s.heap.size ≤ q) s.heap H locs) {cells slots : Nat} (hrc : cells + 7 ≤ 601024) (hrs : slots + 1043 ≤ 7293033) {ls : Array Slot} (hl : lv_has ls 7 [(0, .ref b), (1, .ref qa.1), (2, .ref qa.2.2), (3, .ref qa.2.1), (4, .int (nI (5 * k)))]) {Q : State → Prop}
    (kk : ∀ Ls2 ad2 G2 F2 A2 lo2 H2 locs2 ls2, Rel y df qa (k + 1) Ls2 ad2 G2 F2 A2 lo2 → va_P D vwCl (wl Ls2 ad2 G2) H2 → va_D (fun q => s.heap.size ≤ q) (wl Ls2 ad2 G2) → va_S (fun q => s.heap.size ≤ q) s.heap H2 locs2 → lv_has ls2 7 [(0, .ref b), (1, .ref qa.1), (2, .ref qa.2.2), (3, .ref qa.2.1), (4, .int (nI (5 * k)))] → W p l e room_1 s m #[Value.ref b] below meth c H2 locs2 (cells + 7) (slots + 1043) Q (F0 m 1209 ls2 [])) :
    W p l e room_1 s m #[Value.ref b] below meth c H locs cells slots Q (F0 m 1128 ls []) := by
  obtain ⟨hx, hb, hml, hown, hts9, hX9, hbl, hK, hN, hT, hLs, hNc, hL, hl0⟩ := hc
  have hts : ∀ w ∈ wsL_law, w.before #[Value.ref b] s = true := fun w h => hts9 w (List.mem_append_left _ h)
  have hbA : ¬ (fun q : Nat => s.heap.size ≤ q) b := Nat.not_le.mpr hbl
  obtain ⟨ch, dr, st, ha, mi, dO, dD, dP, nd, li, ow, len, ln, nu, uo, uf, ul, ug, ut, uk, ud, nm, nl, pn, hC, hM, hMo, hOu⟩ := hRel
  obtain ⟨hX, hcd, hCg, ⟨d2, hDr⟩, hTx, hUs, hMs, hBs, hPa, hE3, hE5, hE8, hf1, hf2, hf3, hnu, hnm, hqa⟩ := id hC
  obtain ⟨f1, f3, f14, f21, f26, f32, hCh, hln, hUR, hMv, hBl, hnl, hbil⟩ := id hM
  have hk5 : k < 512 := by omega
  have hlen := hTx.2.2.2.2.1
  have hpn := hPa.2.2.2.2
  rw [← hqa.1, ← hqa.2.1] at hl
  refine lv_aload_n hx hb dL_law_1128 rfl (lv_at hl 1 rfl) ?_
  refine lv_aload_n hx hb dL_law_1129 rfl (lv_at hl 0 rfl) ?_
  refine lv_iload hx hb dL_law_1130 (lv_at hl 4 rfl) ?_
  refine lv_iconst (v := 1) hx hb dL_law_1132 (by decide) ?_
  refine lv_iadd hx hb dL_law_1133 ?_
  refine lw_rd hx hb hX9 hbl hbA hS (t := 1) rfl (by omega) hL dL_law_1134 ?_
  refine lv_aload_n hx hb dL_law_1135 rfl (lv_at hl 3 rfl) ?_
  refine va_calli (vx_runSW (As := [.ref (ad 0), .int (xs (5 * k + 1)), .ref (ad 70)]) (rest := []) ⟨hx, hb, hml, hown, hts9⟩ (c_L_at l D y s.heap.size df mr Ls ad G lo hOu hX.1 hX.2 (xs (5 * k + 1)) (c_X7_at l hl0 D y s.heap.size Ls ad G ch dr hX (A 33) pn hPa (xs (5 * k + 1))) (hp_at hOu) (fun k9 h9 => h9.1)) (vx_cwSW 3 hts9 gL_law9_L_at9 rfl rfl rfl (by decide +kernel) ⟨(Nat.le_of_ble_eq_true rfl), (Nat.le_of_ble_eq_true rfl)⟩) ⟨WdC_blind, WdC_at hP hK hN hD hS (Nat.le_refl _) hT hLs hNc⟩ rfl rfl hl.1 rfl (lv_room (Nat.le_of_ble_eq_true rfl)) dL_law_1136 ⟨(show _ ≤ 601024 by omega), Nat.le_trans (show _ ≤ 7293033 by omega) (by decide)⟩) hS (fun _ _ h => h) (fun _ h => h) (fun r5 u5 t H locs ht hvm hw5 hB hz1 hk1 hS => ?_)
  obtain ⟨hP, hD⟩ := hB
  rw [ht] at hP
  refine lv_istore (lv' := [(5, .int r5), (0, .ref b), (1, .ref (ad 0)), (2, .ref qa.2.2), (3, .ref (ad 70)), (4, .int (nI (5 * k)))]) hx hb dL_law_1139 hl (by decide) rfl (fun ls hl => ?_)
  obtain ⟨L1, a1, g1, rfl, ha1, hM1, hnext⟩ := st_at hC hM hMo hOu hw5
  rw [hqa.1, hqa.2.1, ← ha1] at hl
  refine lv_aload_n hx hb dL_law_1141 rfl (lv_at hl 3 rfl) ?_
  refine lv_aload_n hx hb dL_law_1142 rfl (lv_at hl 1 rfl) ?_
  refine lv_iload hx hb dL_law_1143 (lv_at hl 5 rfl) ?_
  refine lv_iconst (v := 1) hx hb dL_law_1145 (by decide) ?_
  refine lv_iadd hx hb dL_law_1146 ?_
  refine lw_rd hx hb hX9 hbl hbA hS (t := 1) rfl (by omega) hL dL_law_1147 ?_
  refine va_calli (va_runV (As := [.int (xs (5 * k + 1))]) (rest := []) ⟨hx, hb, hml, hown, hts⟩ (c_X8_at l hl0 D y s.heap.size L1 a1 g1 F A hM1 pn f32 (by omega) (xs (5 * k + 1))) (cwV 1 hts gL_law_X8_at rfl rfl rfl (by decide +kernel) ⟨(Nat.le_of_ble_eq_true rfl), (Nat.le_of_ble_eq_true rfl)⟩) ⟨WdM_blind, Wd_recv hK hP (ci := 10) rfl hM1.1 hM1.2.1, WdM_at hP hK hN hD hS (Nat.le_refl _) hT⟩ rfl rfl hl.1 rfl (lv_room (Nat.le_of_ble_eq_true rfl)) dL_law_1148 ⟨(show _ ≤ 601024 by omega), Nat.le_trans (show _ ≤ 7293033 by omega) (by decide)⟩) hS (fun _ _ h => h) (fun _ h => h) (fun r6 u6 t H locs ht hvm hw6 hB hz2 hk2 hS => ?_)
  obtain ⟨hP, hD⟩ := hB
  rw [ht] at hP
  refine lv_istore (lv' := [(6, .int r6), (5, .int r5), (0, .ref b), (1, .ref qa.1), (2, .ref (a1 100)), (3, .ref qa.2.1), (4, .int (nI (5 * k)))]) hx hb dL_law_1151 hl (by decide) rfl (fun ls hl => ?_)
  obtain ⟨L2, a2, g2, F2, A2, lo2, rfl, hRel2, h05, hans⟩ := hnext r6 u6 hw6
  obtain ⟨hq2, hM2, hOu2⟩ := Rel_q hRel2
  rw [ha1, ← hq2.2.2, ← hq2.2.1] at hl
  refine lv_aload_n hx hb dL_law_1153 rfl (lv_at hl 4 rfl) ?_
  refine vp_callSi (va_Run.run (va_runV (As := []) (rest := []) ⟨hx, hb, hml, hown, hts⟩ (c_X8_thrown l D y L2 a2 g2 F2 A2 hM2) (cwV 0 hts gL_law_X8_thrown rfl rfl rfl (by decide +kernel) ⟨(Nat.le_of_ble_eq_true rfl), (Nat.le_of_ble_eq_true rfl)⟩) ⟨Wd_blind, Wd_recv hK hP (ci := 10) rfl hM2.1 hM2.2.1, Wd_at hP hK hN⟩ rfl rfl hl.1 rfl (lv_room (Nat.le_of_ble_eq_true rfl)) dL_law_1154 ⟨(show _ ≤ 601024 by omega), Nat.le_trans (show _ ≤ 7293033 by omega) (by decide)⟩)) (fun r7 hr7 => ?_)
  refine lv_iload hx hb dL_law_1157 (lv_at hl 1 rfl) ?_
  refine lv_icmp_eq (tgt := 1164) hx hb dL_law_1159 (by decide) (fun c1 => ?_) (fun c1 => ?_)
  · refine lv_iload hx hb dL_law_1164 (lv_at hl 1 rfl) ?_
    refine lv_if_ne (tgt := 1181) hx hb dL_law_1166 (by decide) (fun c2 => ?_) (fun c2 => ?_)
    · refine lv_goto (tgt := 1209) hx hb dL_law_1181 (by decide) ?_
      refine W.widen (k := cells + 7) (n := slots + 1043) (by omega) (by omega) ?_
      rw [hq2.2.2, hq2.2.1] at hl
      exact kk _ _ _ _ _ _ _ _ _ hRel2 hP hD hS (lv_sub hl [2, 3, 4, 5, 6] rfl)
    · refine lv_aload_n hx hb dL_law_1169 rfl (lv_at hl 5 rfl) ?_
      refine lv_iconst (v := 0) hx hb dL_law_1170 (by decide) ?_
      refine pv_lald hx hb hK hP hOu2.1 4 hOu2.2 rfl (k := 0) rfl (by decide) (by decide) dL_law_1171 ?_
      refine lv_iload hx hb dL_law_1172 (lv_at hl 0 rfl) ?_
      refine lv_i2l hx hb dL_law_1174 rfl ?_
      refine W.lcmp hx hb dL_law_1175 ?_
      refine lv_if_eq (tgt := 1181) hx hb dL_law_1176 (by decide) (fun c3 => ?_) (fun c3 => ?_)
      · refine lv_goto (tgt := 1209) hx hb dL_law_1181 (by decide) ?_
        refine W.widen (k := cells + 7) (n := slots + 1043) (by omega) (by omega) ?_
        rw [hq2.2.2, hq2.2.1] at hl
        exact kk _ _ _ _ _ _ _ _ _ hRel2 hP hD hS (lv_sub hl [2, 3, 4, 5, 6] rfl)
      · exact absurd ((lg_cmp_eq _ _).mpr (hans c2)) c3
  · exact absurd (by rw [hr7, h05]) c1

set_option maxHeartbeats 4000000 in
set_option maxRecDepth 100000 in
theorem lc_count {p : Program} {l : Launch} {e : Env} {s : State} {m : MethodId} {below : List Frame} {meth : Method} {c : Code} {b L : Nat} {xs : Nat → Int32} {D : va_G} {y : Nat → ClassId} {df mr : Nat} (hc : LawC p l s m c b L xs D y df mr) {k : Nat} (hk : 5 * k + 5 ≤ L) {qa : Nat × Nat × Nat} {Ls : List Nat} {ad : Nat → Nat} {G : Nat → va_E} {F : Nat → Int32} {A : Nat → Nat → Int32} {lo : Nat → Int64} (hRel : Rel y df qa k Ls ad G F A lo) {H : Heap} {locs : List Loc} (hP : va_P D vwCl (wl Ls ad G) H) (hD : va_D (fun q => s.heap.size ≤ q) (wl Ls ad G)) (hS : va_S (fun q => s.heap.size ≤ q) s.heap H locs) {cells slots : Nat} (hrc : cells + 7 ≤ 601024) (hrs : slots + 1043 ≤ 7293033) {ls : Array Slot} (hl : lv_has ls 7 [(0, .ref b), (1, .ref qa.1), (2, .ref qa.2.2), (3, .ref qa.2.1), (4, .int (nI (5 * k)))]) {Q : State → Prop}
    (kk : ∀ Ls2 ad2 G2 F2 A2 lo2 H2 locs2 ls2, Rel y df qa (k + 1) Ls2 ad2 G2 F2 A2 lo2 → va_P D vwCl (wl Ls2 ad2 G2) H2 → va_D (fun q => s.heap.size ≤ q) (wl Ls2 ad2 G2) → va_S (fun q => s.heap.size ≤ q) s.heap H2 locs2 → lv_has ls2 7 [(0, .ref b), (1, .ref qa.1), (2, .ref qa.2.2), (3, .ref qa.2.1), (4, .int (nI (5 * k)))] → W p l e room_1 s m #[Value.ref b] below meth c H2 locs2 (cells + 7) (slots + 1043) Q (F0 m 1209 ls2 [])) :
    W p l e room_1 s m #[Value.ref b] below meth c H locs cells slots Q (F0 m 1184 ls []) := by
  obtain ⟨hx, hb, hml, hown, hts9, hX9, hbl, hK, hN, hT, hLs, hNc, hL, hl0⟩ := hc
  have hts : ∀ w ∈ wsL_law, w.before #[Value.ref b] s = true := fun w h => hts9 w (List.mem_append_left _ h)
  have hbA : ¬ (fun q : Nat => s.heap.size ≤ q) b := Nat.not_le.mpr hbl
  obtain ⟨ch, dr, st, ha, mi, dO, dD, dP, nd, li, ow, len, ln, nu, uo, uf, ul, ug, ut, uk, ud, nm, nl, pn, hC, hM, hMo, hOu⟩ := hRel
  obtain ⟨hX, hcd, hCg, ⟨d2, hDr⟩, hTx, hUs, hMs, hBs, hPa, hE3, hE5, hE8, hf1, hf2, hf3, hnu, hnm, hqa⟩ := id hC
  obtain ⟨f1, f3, f14, f21, f26, f32, hCh, hln, hUR, hMv, hBl, hnl, hbil⟩ := id hM
  have hk5 : k < 512 := by omega
  have hlen := hTx.2.2.2.2.1
  have hpn := hPa.2.2.2.2
  rw [← hqa.1, ← hqa.2.1] at hl
  refine lv_aload_n hx hb dL_law_1184 rfl (lv_at hl 1 rfl) ?_
  refine lv_aload_n hx hb dL_law_1185 rfl (lv_at hl 0 rfl) ?_
  refine lv_iload hx hb dL_law_1186 (lv_at hl 4 rfl) ?_
  refine lv_iconst (v := 1) hx hb dL_law_1188 (by decide) ?_
  refine lv_iadd hx hb dL_law_1189 ?_
  refine lw_rd hx hb hX9 hbl hbA hS (t := 1) rfl (by omega) hL dL_law_1190 ?_
  refine vp_callSi (va_Run.run (va_runV (As := [.int (xs (5 * k + 1))]) (rest := []) ⟨hx, hb, hml, hown, hts⟩ (c_X7_count l D y Ls ad G ch dr hX st ha mi dO dD dP nd li ow hCg nu uo uf ul ug ut uk ud hUs nm (A 22) (A 23) (A 24) (A 25) hMs (A 2) len 0 hTx (A 33) pn hPa (xs (5 * k + 1))) (cwV 1 hts gL_law_X7_count rfl rfl rfl (by decide +kernel) ⟨(Nat.le_of_ble_eq_true rfl), (Nat.le_of_ble_eq_true rfl)⟩) ⟨Wd_blind, Wd_recv hK hP (ci := 9) rfl hX.1 hX.2, Wd_at hP hK hN⟩ rfl rfl hl.1 rfl (lv_room (Nat.le_of_ble_eq_true rfl)) dL_law_1191 ⟨(show _ ≤ 601024 by omega), Nat.le_trans (show _ ≤ 7293033 by omega) (by decide)⟩)) (fun r5 hw5 => ?_)
  have hnext := st_count hC hM hMo hOu hw5
  have hM1 := hMo
  have ha1 := hqa.2.2
  rw [← ha1] at hl
  refine lv_aload_n hx hb dL_law_1194 rfl (lv_at hl 2 rfl) ?_
  refine lv_aload_n hx hb dL_law_1195 rfl (lv_at hl 0 rfl) ?_
  refine lv_iload hx hb dL_law_1196 (lv_at hl 4 rfl) ?_
  refine lv_iconst (v := 1) hx hb dL_law_1198 (by decide) ?_
  refine lv_iadd hx hb dL_law_1199 ?_
  refine lw_rd hx hb hX9 hbl hbA hS (t := 1) rfl (by omega) hL dL_law_1200 ?_
  refine va_calli (va_runV (As := [.int (xs (5 * k + 1))]) (rest := [.int r5]) ⟨hx, hb, hml, hown, hts⟩ (c_X8_count l hl0 D y s.heap.size Ls ad G F A hM1 len f1 ln f3 nu f14 nm f21 pn f32 hnu hln (xs (5 * k + 1))) (cwV 1 hts gL_law_X8_count rfl rfl rfl (by decide +kernel) ⟨(Nat.le_of_ble_eq_true rfl), (Nat.le_of_ble_eq_true rfl)⟩) ⟨WdM_blind, Wd_recv hK hP (ci := 10) rfl hM1.1 hM1.2.1, WdM_at hP hK hN hD hS (Nat.le_refl _) hT⟩ rfl rfl hl.1 rfl (lv_room (Nat.le_of_ble_eq_true rfl)) dL_law_1201 ⟨(show _ ≤ 601024 by omega), Nat.le_trans (show _ ≤ 7293033 by omega) (by decide)⟩) hS (fun _ _ h => h) (fun _ h => h) (fun r6 u6 t H locs ht hvm hw6 hB hz2 hk2 hS => ?_)
  obtain ⟨hP, hD⟩ := hB
  rw [ht] at hP
  obtain ⟨L2, a2, g2, F2, A2, lo2, rfl, hRel2, h56⟩ := hnext r6 u6 hw6
  refine lv_icmp_eq (tgt := 1209) hx hb dL_law_1204 (by decide) (fun c1 => ?_) (fun c1 => ?_)
  · refine W.widen (k := cells + 7) (n := slots + 1043) (by omega) (by omega) ?_
    rw [hqa.2.2, hqa.1, hqa.2.1] at hl
    exact kk _ _ _ _ _ _ _ _ _ hRel2 hP hD hS hl
  · exact absurd h56 c1
