/-! the law's cases -/
def wsL_law9 : List Cond := wsL_law ++ (.classLink RL 69 (exN 5) :: (vx_atS RX7 228 (exN 5) N3).filter goodWord)
theorem gL_law9_L_at9 : GoodIn wsL_law9 (va_wsS RL 131 yL_at wsL_at9) := goodIn_app (fun w h => ⟨List.mem_append_left _ (gL_law_L_at w (List.mem_append_left _ h)).1, (gL_law_L_at w (List.mem_append_left _ h)).2⟩) (goodIn_app (fun w h => ⟨List.mem_append_left _ (ggL_law_L_at w h).1, (ggL_law_L_at w h).2⟩) (goodIn_sub (fun w h => List.mem_append_right _ h) (by decide +kernel)))
/-- what holds all along -/
def LawC (p : Program) (l : Launch) (s : State) (m : MethodId) (c : Code) (b L : Nat) (xs : Nat → Int32) (D : va_G) (y : Nat → ClassId) (df mr : Nat) : Prop :=
  p.tables.exec = Jvm.exec ∧ c.code = cL_law ∧ c.maxLocals = 7 ∧ s.vm.findClass RL = some m.cls ∧ (∀ w ∈ wsL_law9, w.before #[Value.ref b] s = true) ∧ va_X b L xs s s.heap ∧ b < s.heap.size ∧ va_K D vwCl (TY y) s ∧ (∀ w ∈ nestW, va_Nw w s) ∧ ThP s.heap.size s ∧ LsP s.heap.size df mr s ∧ NcP s ∧ L ≤ 2560 ∧ l.stackTraces = false
theorem rm_c {a k : Nat} (h : a + 7 ≤ 601024) (hk : k ≤ 7) : a + k ≤ room_1.cells := by
  show a + k ≤ 601024
  omega
theorem rm_s {a k : Nat} (h : a + 1043 ≤ 7293033) (hk : k ≤ 1043) : a + k ≤ room_1.slots := Nat.le_trans (show a + k ≤ 7293033 by omega) (by decide)
theorem Rel_q {y : Nat → ClassId} {df n : Nat} {qa : Nat × Nat × Nat} {Ls : List Nat} {ad : Nat → Nat} {G : Nat → va_E} {F : Nat → Int32} {A : Nat → Nat → Int32} {lo : Nat → Int64} (h : Rel y df qa n Ls ad G F A lo) : (ad 0 = qa.1 ∧ ad 70 = qa.2.1 ∧ ad 100 = qa.2.2) ∧ ModelAt y Ls ad G F A ∧ OutAt y Ls G lo := by
  obtain ⟨ch, dr, st, ha, mi, dO, dD, dP, nd, li, ow, len, ln, nu, uo, uf, ul, ug, ut, uk, ud, nm, nl, pn, hC, hM, hMo, hOu⟩ := h
  exact ⟨hC.2.2.2.2.2.2.2.2.2.2.2.2.2.2.2.2.2, hMo, hOu⟩
section
variable {p : Program} {l : Launch} {e : Env} {R : Room} {s : State} {m : MethodId} {args : Array Value} {below : List Frame} {meth : Method} {c : Code} {H H0 : Heap} {locs : List Loc} {cells slots : Nat} {Q : State → Prop}
variable {cc : ByteArray} {pc : Nat} {ls : Array Slot} {rest : List Value} {A : Nat → Prop}
theorem lw_rd (hexec : p.tables.exec = Jvm.exec) (hb : c.code = cc) {b L : Nat} {xs : Nat → Int32} (hX : va_X b L xs s H0) (hbl : b < H0.size) (hbA : ¬ A b) (hS : va_S A H0 H locs) {j t : Nat} {ti : Int32} (hti : ti = nI t) (hlt : j + t < L) (hL : L ≤ 2560) (hdg : decode cc pc = .ok (.iaload, 1))
    (kk : W p l e R s m args below meth c H locs cells slots Q (F0 m (pc + 1) ls (.int (xs (j + t)) :: rest))) : W p l e R s m args below meth c H locs cells slots Q (F0 m pc ls (.int (nI j + ti) :: .ref b :: rest)) := by
  subst hti
  rw [nI_add]
  exact va_sld hexec hb hX hbl hbA hS (vp_in_nI hlt (by omega)) hdg (by rw [nI_clamp (by omega)]; exact kk)
end

set_option maxHeartbeats 4000000 in
set_option maxRecDepth 100000 in
theorem lc_sign {p : Program} {l : Launch} {e : Env} {s : State} {m : MethodId} {below : List Frame} {meth : Method} {c : Code} {b L : Nat} {xs : Nat → Int32} {D : va_G} {y : Nat → ClassId} {df mr : Nat} (hc : LawC p l s m c b L xs D y df mr) {k : Nat} (hk : 5 * k + 5 ≤ L) {qa : Nat × Nat × Nat} {Ls : List Nat} {ad : Nat → Nat} {G : Nat → va_E} {F : Nat → Int32} {A : Nat → Nat → Int32} {lo : Nat → Int64} (hRel : Rel y df qa k Ls ad G F A lo) {H : Heap} {locs : List Loc} (hP : va_P D vwCl (wl Ls ad G) H) (hD : va_D (fun q => s.heap.size ≤ q) (wl Ls ad G)) (hS : va_S (fun q => s.heap.size ≤ q) s.heap H locs) {cells slots : Nat} (hrc : cells + 7 ≤ 601024) (hrs : slots + 1043 ≤ 7293033) {ls : Array Slot} (hl : lv_has ls 7 [(0, .ref b), (1, .ref qa.1), (2, .ref qa.2.2), (3, .ref qa.2.1), (4, .int (nI (5 * k)))]) {Q : State → Prop}
    (kk : ∀ Ls2 ad2 G2 F2 A2 lo2 H2 locs2 ls2, Rel y df qa (k + 1) Ls2 ad2 G2 F2 A2 lo2 → va_P D vwCl (wl Ls2 ad2 G2) H2 → va_D (fun q => s.heap.size ≤ q) (wl Ls2 ad2 G2) → va_S (fun q => s.heap.size ≤ q) s.heap H2 locs2 → lv_has ls2 7 [(0, .ref b), (1, .ref qa.1), (2, .ref qa.2.2), (3, .ref qa.2.1), (4, .int (nI (5 * k)))] → W p l e room_1 s m #[Value.ref b] below meth c H2 locs2 (cells + 7) (slots + 1043) Q (F0 m 1209 ls2 [])) :
    W p l e room_1 s m #[Value.ref b] below meth c H locs cells slots Q (F0 m 120 ls []) := by
  obtain ⟨hx, hb, hml, hown, hts9, hX9, hbl, hK, hN, hT, hLs, hNc, hL, hl0⟩ := hc
  have hts : ∀ w ∈ wsL_law, w.before #[Value.ref b] s = true := fun w h => hts9 w (List.mem_append_left _ h)
  have hbA : ¬ (fun q : Nat => s.heap.size ≤ q) b := Nat.not_le.mpr hbl
  obtain ⟨ch, dr, st, ha, mi, dO, dD, dP, nd, li, ow, len, ln, nu, uo, uf, ul, ug, ut, uk, ud, nm, nl, pn, hC, hM, hMo, hOu⟩ := hRel
  obtain ⟨hX, hcd, hCg, ⟨d2, hDr⟩, hTx, hUs, hMs, hBs, hPa, hE3, hE5, hE8, hf1, hf2, hf3, hnu, hnm, hqa⟩ := id hC
  obtain ⟨f1, f3, f14, f21, f26, f32, hCh, hln, hUR, hMv, hBl, hnl, hbil⟩ := id hM
  have hk5 : k < 512 := by omega
  have hlen := hTx.2.2.2.2.1
  have hpn := hPa.2.2.2.2
  rw [← hqa.1, ← hqa.2.1] at hl
  refine lv_aload_n hx hb dL_law_120 rfl (lv_at hl 1 rfl) ?_
  refine lv_aload_n hx hb dL_law_121 rfl (lv_at hl 0 rfl) ?_
  refine lv_iload hx hb dL_law_122 (lv_at hl 4 rfl) ?_
  refine lv_iconst (v := 1) hx hb dL_law_124 (by decide) ?_
  refine lv_iadd hx hb dL_law_125 ?_
  refine lw_rd hx hb hX9 hbl hbA hS (t := 1) rfl (by omega) hL dL_law_126 ?_
  refine lv_aload_n hx hb dL_law_127 rfl (lv_at hl 3 rfl) ?_
  refine va_calli (vx_runSW (As := [.ref (ad 0), .int (xs (5 * k + 1)), .ref (ad 70)]) (rest := []) ⟨hx, hb, hml, hown, hts⟩ (c_L_sign l D y s.heap.size df mr Ls ad G lo hOu hX.1 hX.2 (xs (5 * k + 1)) (c_X7_sign l hl0 D y s.heap.size Ls ad G ch dr hX (A 2) len 0 hTx (xs (5 * k + 1))) (hp_sign hOu) (fun k9 h9 => by rcases h9 with h9 | h9 <;> have := h9.1 <;> omega)) (vx_cwSW 3 hts gL_law_L_sign rfl rfl rfl (by decide +kernel) ⟨(Nat.le_of_ble_eq_true rfl), (Nat.le_of_ble_eq_true rfl)⟩) ⟨WdC_blind, WdC_at hP hK hN hD hS (Nat.le_refl _) hT hLs hNc⟩ rfl rfl hl.1 rfl (lv_room (Nat.le_of_ble_eq_true rfl)) dL_law_128 ⟨rm_c hrc (by decide), rm_s hrs (by decide)⟩) hS (fun _ _ h => h) (fun _ h => h) (fun r5 u5 t H locs ht hvm hw5 hB hz1 hk1 hS => ?_)
  obtain ⟨hP, hD⟩ := hB
  rw [ht] at hP
  refine lv_istore (lv' := [(5, .int r5), (0, .ref b), (1, .ref (ad 0)), (2, .ref qa.2.2), (3, .ref (ad 70)), (4, .int (nI (5 * k)))]) hx hb dL_law_131 hl (by decide) rfl (fun ls hl => ?_)
  obtain ⟨L1, a1, g1, rfl, ha1, hM1, hnext⟩ := st_sign hC hM hMo hOu hw5
  rw [hqa.1, hqa.2.1, ← ha1] at hl
  refine lv_aload_n hx hb dL_law_133 rfl (lv_at hl 3 rfl) ?_
  refine lv_aload_n hx hb dL_law_134 rfl (lv_at hl 1 rfl) ?_
  refine lv_iload hx hb dL_law_135 (lv_at hl 5 rfl) ?_
  refine lv_iconst (v := 1) hx hb dL_law_137 (by decide) ?_
  refine lv_iadd hx hb dL_law_138 ?_
  refine lw_rd hx hb hX9 hbl hbA hS (t := 1) rfl (by omega) hL dL_law_139 ?_
  refine va_calli (va_runV (As := [.int (xs (5 * k + 1))]) (rest := []) ⟨hx, hb, hml, hown, hts⟩ (c_X8_sign l hl0 D y s.heap.size L1 a1 g1 F A hM1 len f1 hlen (xs (5 * k + 1))) (cwV 1 hts gL_law_X8_sign rfl rfl rfl (by decide +kernel) ⟨(Nat.le_of_ble_eq_true rfl), (Nat.le_of_ble_eq_true rfl)⟩) ⟨WdM_blind, Wd_recv hK hP (ci := 10) rfl hM1.1 hM1.2.1, WdM_at hP hK hN hD hS (Nat.le_refl _) hT⟩ rfl rfl hl.1 rfl (lv_room (Nat.le_of_ble_eq_true rfl)) dL_law_140 ⟨rm_c hrc (by decide), rm_s hrs (by decide)⟩) hS (fun _ _ h => h) (fun _ h => h) (fun r6 u6 t H locs ht hvm hw6 hB hz2 hk2 hS => ?_)
  obtain ⟨hP, hD⟩ := hB
  rw [ht] at hP
  refine lv_istore (lv' := [(6, .int r6), (5, .int r5), (0, .ref b), (1, .ref qa.1), (2, .ref (a1 100)), (3, .ref qa.2.1), (4, .int (nI (5 * k)))]) hx hb dL_law_143 hl (by decide) rfl (fun ls hl => ?_)
  obtain ⟨L2, a2, g2, F2, A2, lo2, rfl, hRel2, h05, hans⟩ := hnext r6 u6 hw6
  obtain ⟨hq2, hM2, hOu2⟩ := Rel_q hRel2
  rw [ha1, ← hq2.2.2, ← hq2.2.1] at hl
  refine lv_aload_n hx hb dL_law_145 rfl (lv_at hl 4 rfl) ?_
  refine vp_callSi (va_Run.run (va_runV (As := []) (rest := []) ⟨hx, hb, hml, hown, hts⟩ (c_X8_thrown l D y L2 a2 g2 F2 A2 hM2) (cwV 0 hts gL_law_X8_thrown rfl rfl rfl (by decide +kernel) ⟨(Nat.le_of_ble_eq_true rfl), (Nat.le_of_ble_eq_true rfl)⟩) ⟨Wd_blind, Wd_recv hK hP (ci := 10) rfl hM2.1 hM2.2.1, Wd_at hP hK hN⟩ rfl rfl hl.1 rfl (lv_room (Nat.le_of_ble_eq_true rfl)) dL_law_146 ⟨rm_c hrc (by decide), rm_s hrs (by decide)⟩)) (fun r7 hr7 => ?_)
  refine lv_iload hx hb dL_law_149 (lv_at hl 1 rfl) ?_
  refine lv_icmp_eq (tgt := 156) hx hb dL_law_151 (by decide) (fun c1 => ?_) (fun c1 => ?_)
  · refine lv_iload hx hb dL_law_156 (lv_at hl 1 rfl) ?_
    refine lv_if_ne (tgt := 173) hx hb dL_law_158 (by decide) (fun c2 => ?_) (fun c2 => ?_)
    · refine lv_goto (tgt := 1209) hx hb dL_law_173 (by decide) ?_
      refine W.widen (k := cells + 7) (n := slots + 1043) (by omega) (by omega) ?_
      rw [hq2.2.2, hq2.2.1] at hl
      exact kk _ _ _ _ _ _ _ _ _ hRel2 hP hD hS (lv_sub hl [2, 3, 4, 5, 6] rfl)
    · refine lv_aload_n hx hb dL_law_161 rfl (lv_at hl 5 rfl) ?_
      refine lv_iconst (v := 0) hx hb dL_law_162 (by decide) ?_
      refine pv_lald hx hb hK hP hOu2.1 4 hOu2.2 rfl (k := 0) rfl (by decide) (by decide) dL_law_163 ?_
      refine lv_iload hx hb dL_law_164 (lv_at hl 0 rfl) ?_
      refine lv_i2l hx hb dL_law_166 rfl ?_
      refine W.lcmp hx hb dL_law_167 ?_
      refine lv_if_eq (tgt := 173) hx hb dL_law_168 (by decide) (fun c3 => ?_) (fun c3 => ?_)
      · refine lv_goto (tgt := 1209) hx hb dL_law_173 (by decide) ?_
        refine W.widen (k := cells + 7) (n := slots + 1043) (by omega) (by omega) ?_
        rw [hq2.2.2, hq2.2.1] at hl
        exact kk _ _ _ _ _ _ _ _ _ hRel2 hP hD hS (lv_sub hl [2, 3, 4, 5, 6] rfl)
      · exact absurd ((lg_cmp_eq _ _).mpr (hans c2)) c3
  · exact absurd (by rw [hr7, h05]) c1
