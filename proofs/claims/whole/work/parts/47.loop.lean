/-! the law's loop -/
theorem Rel_up {y : Nat → ClassId} {df n : Nat} {qa : Nat × Nat × Nat} {Ls : List Nat} {ad : Nat → Nat} {G : Nat → va_E} {F : Nat → Int32} {A : Nat → Nat → Int32} {lo : Nat → Int64} (h : Rel y df qa n Ls ad G F A lo) : Rel y df qa (n + 1) Ls ad G F A lo := by
  obtain ⟨ch, dr, st, ha, mi, dO, dD, dP, nd, li, ow, len, ln, nu, uo, uf, ul, ug, ut, uk, ud, nm, nl, pn, hC, ⟨f1, f3, f14, f21, f26, f32, hCh, hln, hUR, hMv, hBl, hnl, hbil⟩, hMo, hOu⟩ := h
  exact ⟨ch, dr, st, ha, mi, dO, dD, dP, nd, li, ow, len, ln, nu, uo, uf, ul, ug, ut, uk, ud, nm, nl, pn, hC, ⟨f1, f3, f14, f21, f26, f32, hCh, hln, hUR, hMv, hBl, by omega, hbil⟩, hMo, hOu⟩
theorem lw_more {k L : Nat} (hL : L ≤ 2560) (hk : k ≤ 600) (h : ¬ nI L - 5 < nI (5 * k)) : 5 * k + 5 ≤ L := by
  rw [show (5 : Int32) = nI 5 from rfl] at h
  by_cases h5 : 5 ≤ L
  · rw [pk_sub h5, nI_ltI (by omega) (by omega)] at h
    omega
  · exact absurd (Int32.lt_of_lt_of_le (pk_sneg (by decide) (by omega)) (nI_pos' (by omega))) h
set_option maxHeartbeats 4000000 in
set_option maxRecDepth 100000 in
theorem law_loop {p : Program} {l : Launch} {e : Env} {s : State} {m : MethodId} {below : List Frame} {meth : Method} {c : Code} {b L : Nat} {xs : Nat → Int32} {D : va_G} {y : Nat → ClassId} {df mr : Nat} (hc : LawC p l s m c b L xs D y df mr) {qa : Nat × Nat × Nat} {Q : State → Prop} {C0 S0 : Nat} (hC0 : C0 + 3600 ≤ 601024) (hS0 : S0 + 535059 ≤ 7293033)
    (hend : ∀ H locs ls cells slots, va_S (fun q => s.heap.size ≤ q) s.heap H locs → cells ≤ 601024 → slots ≤ 7293033 → W p l e room_1 s m #[Value.ref b] below meth c H locs cells slots Q (F0 m 1215 ls [])) :
    ∀ (n k : Nat), L < 5 * k + 5 * n → k ≤ 512 → ∀ (Ls : List Nat) (ad : Nat → Nat) (G : Nat → va_E) (F : Nat → Int32) (A : Nat → Nat → Int32) (lo : Nat → Int64) (H : Heap) (locs : List Loc) (ls : Array Slot), Rel y df qa k Ls ad G F A lo → va_P D vwCl (wl Ls ad G) H → va_D (fun q => s.heap.size ≤ q) (wl Ls ad G) → va_S (fun q => s.heap.size ≤ q) s.heap H locs → lv_has ls 7 [(0, .ref b), (1, .ref qa.1), (2, .ref qa.2.2), (3, .ref qa.2.1), (4, .int (nI (5 * k)))] → W p l e room_1 s m #[Value.ref b] below meth c H locs (C0 + 7 * k) (S0 + 1043 * k) Q (F0 m 23 ls []) := by
  obtain ⟨hx, hb, hml, hown, hts9, hX9, hbl, hK, hN, hT, hLs, hNc, hL, hl0⟩ := id hc
  have hbA : ¬ (fun q : Nat => s.heap.size ≤ q) b := Nat.not_le.mpr hbl
  intro n
  induction n with
  | zero =>
    intro k h1 h2 Ls ad G F A lo H locs ls hRel hP hD hS hl
    refine lv_iload hx hb dL_law_23 (lv_at hl 4 rfl) ?_
    refine lv_aload_n hx hb dL_law_25 rfl (lv_at hl 0 rfl) ?_
    refine va_slen hx hb hX9 hbl hbA hS dL_law_26 ?_
    refine lv_iconst (v := 5) hx hb dL_law_27 (by decide) ?_
    refine lv_isub hx hb dL_law_28 ?_
    refine lv_icmp_gt (tgt := 1215) hx hb dL_law_29 (by decide) (fun c1 => ?_) (fun c1 => ?_)
    · exact hend _ _ _ _ _ hS (by omega) (by omega)
    · have := lw_more hL (by omega) c1
      omega
  | succ n ih =>
    intro k h1 h2 Ls ad G F A lo H locs ls hRel hP hD hS hl
    refine lv_iload hx hb dL_law_23 (lv_at hl 4 rfl) ?_
    refine lv_aload_n hx hb dL_law_25 rfl (lv_at hl 0 rfl) ?_
    refine va_slen hx hb hX9 hbl hbA hS dL_law_26 ?_
    refine lv_iconst (v := 5) hx hb dL_law_27 (by decide) ?_
    refine lv_isub hx hb dL_law_28 ?_
    refine lv_icmp_gt (tgt := 1215) hx hb dL_law_29 (by decide) (fun c1 => ?_) (fun c1 => ?_)
    · exact hend _ _ _ _ _ hS (by omega) (by omega)
    · have hk := lw_more hL (by omega) c1
      have hnx : ∀ Ls2 ad2 G2 F2 A2 lo2 H2 locs2 ls2, Rel y df qa (k + 1) Ls2 ad2 G2 F2 A2 lo2 → va_P D vwCl (wl Ls2 ad2 G2) H2 → va_D (fun q => s.heap.size ≤ q) (wl Ls2 ad2 G2) → va_S (fun q => s.heap.size ≤ q) s.heap H2 locs2 → lv_has ls2 7 [(0, .ref b), (1, .ref qa.1), (2, .ref qa.2.2), (3, .ref qa.2.1), (4, .int (nI (5 * k)))] → W p l e room_1 s m #[Value.ref b] below meth c H2 locs2 (C0 + 7 * k + 7) (S0 + 1043 * k + 1043) Q (F0 m 1209 ls2 []) := by
        intro Ls2 ad2 G2 F2 A2 lo2 H2 locs2 ls2 hR2 hP2 hD2 hS2 hl2
        refine lv_iinc (v := nI (5 * (k + 1))) (lv' := [(4, .int (nI (5 * (k + 1)))), (0, .ref b), (1, .ref qa.1), (2, .ref qa.2.2), (3, .ref qa.2.1)]) hx hb dL_law_1209 hl2 (k := 4) rfl (show nI (5 * k) + nI 5 = nI (5 * (k + 1)) by rw [nI_add]; rfl) (by decide) rfl (fun ls hl => ?_)
        refine lv_goto (tgt := 23) hx hb dL_law_1212 (by decide) ?_
        refine W.widen (k := C0 + 7 * (k + 1)) (n := S0 + 1043 * (k + 1)) (by omega) (by omega) ?_
        exact ih (k + 1) (by omega) (by omega) Ls2 ad2 G2 F2 A2 lo2 H2 locs2 ls hR2 hP2 hD2 hS2 (lv_sub hl [1, 2, 3, 4, 0] rfl)
      refine lv_aload_n hx hb dL_law_32 rfl (lv_at hl 0 rfl) ?_
      refine lv_iload hx hb dL_law_33 (lv_at hl 4 rfl) ?_
      refine va_sld hx hb hX9 hbl hbA hS (vp_in_nI (by omega) (by omega)) dL_law_35 ?_
      refine lv_bipush (v := 31) hx hb dL_law_36 (by decide) ?_
      refine lv_iand hx hb dL_law_38 ?_
      rcases sw16 (xs (nI (5 * k)).toNatClampNeg &&& 31) with hsw | hsw | hsw | hsw | hsw | hsw | hsw | hsw | hsw | hsw | hsw | hsw | hsw | hsw | hsw | hsw | hsw | hsw
      · refine lv_tableOut (tgt := 1209) hx hb dL_law_39 hsw (by decide) ?_
        refine W.widen (k := C0 + 7 * k + 7) (n := S0 + 1043 * k + 1043) (by omega) (by omega) ?_
        exact hnx Ls ad G F A lo H locs ls (Rel_up hRel) hP hD hS hl
      · refine lv_tableIn (tgt := 120) (off := 81) hx hb dL_law_39 (by rw [hsw]; decide) (by rw [hsw]; decide) (by rw [hsw]; rfl) (by decide) ?_
        exact lc_sign hc hk hRel hP hD hS (by omega) (by omega) hl hnx
      · refine lv_tableIn (tgt := 176) (off := 137) hx hb dL_law_39 (by rw [hsw]; decide) (by rw [hsw]; decide) (by rw [hsw]; rfl) (by decide) ?_
        exact lc_read hc hk hRel hP hD hS (by omega) (by omega) hl hnx
      · refine lv_tableIn (tgt := 189) (off := 150) hx hb dL_law_39 (by rw [hsw]; decide) (by rw [hsw]; decide) (by rw [hsw]; rfl) (by decide) ?_
        exact lc_unit hc hk hRel hP hD hS (by omega) (by omega) hl hnx
      · refine lv_tableIn (tgt := 269) (off := 230) hx hb dL_law_39 (by rw [hsw]; decide) (by rw [hsw]; decide) (by rw [hsw]; rfl) (by decide) ?_
        exact lc_change hc hk hRel hP hD hS (by omega) (by omega) hl hnx
      · refine lv_tableIn (tgt := 356) (off := 317) hx hb dL_law_39 (by rw [hsw]; decide) (by rw [hsw]; decide) (by rw [hsw]; rfl) (by decide) ?_
        exact lc_gone hc hk hRel hP hD hS (by omega) (by omega) hl hnx
      · refine lv_tableIn (tgt := 424) (off := 385) hx hb dL_law_39 (by rw [hsw]; decide) (by rw [hsw]; decide) (by rw [hsw]; rfl) (by decide) ?_
        exact lc_move hc hk hRel hP hD hS (by omega) (by omega) hl hnx
      · refine lv_tableIn (tgt := 516) (off := 477) hx hb dL_law_39 (by rw [hsw]; decide) (by rw [hsw]; decide) (by rw [hsw]; rfl) (by decide) ?_
        exact lc_sum hc hk hRel hP hD hS (by omega) (by omega) hl hnx
      · refine lv_tableIn (tgt := 584) (off := 545) hx hb dL_law_39 (by rw [hsw]; decide) (by rw [hsw]; decide) (by rw [hsw]; rfl) (by decide) ?_
        exact lc_days hc hk hRel hP hD hS (by omega) (by omega) hl hnx
      · refine lv_tableIn (tgt := 652) (off := 613) hx hb dL_law_39 (by rw [hsw]; decide) (by rw [hsw]; decide) (by rw [hsw]; rfl) (by decide) ?_
        exact lc_average hc hk hRel hP hD hS (by omega) (by omega) hl hnx
      · refine lv_tableIn (tgt := 720) (off := 681) hx hb dL_law_39 (by rw [hsw]; decide) (by rw [hsw]; decide) (by rw [hsw]; rfl) (by decide) ?_
        exact lc_bill hc hk hRel hP hD hS (by omega) (by omega) hl hnx
      · refine lv_tableIn (tgt := 788) (off := 749) hx hb dL_law_39 (by rw [hsw]; decide) (by rw [hsw]; decide) (by rw [hsw]; rfl) (by decide) ?_
        exact lc_correct hc hk hRel hP hD hS (by omega) (by omega) hl hnx
      · refine lv_tableIn (tgt := 856) (off := 817) hx hb dL_law_39 (by rw [hsw]; decide) (by rw [hsw]; decide) (by rw [hsw]; rfl) (by decide) ?_
        exact lc_line hc hk hRel hP hD hS (by omega) (by omega) hl hnx
      · refine lv_tableIn (tgt := 936) (off := 897) hx hb dL_law_39 (by rw [hsw]; decide) (by rw [hsw]; decide) (by rw [hsw]; rfl) (by decide) ?_
        exact lc_billed hc hk hRel hP hD hS (by omega) (by omega) hl hnx
      · refine lv_tableIn (tgt := 992) (off := 953) hx hb dL_law_39 (by rw [hsw]; decide) (by rw [hsw]; decide) (by rw [hsw]; rfl) (by decide) ?_
        exact lc_compare hc hk hRel hP hD hS (by omega) (by omega) hl hnx
      · refine lv_tableIn (tgt := 1072) (off := 1033) hx hb dL_law_39 (by rw [hsw]; decide) (by rw [hsw]; decide) (by rw [hsw]; rfl) (by decide) ?_
        exact lc_print hc hk hRel hP hD hS (by omega) (by omega) hl hnx
      · refine lv_tableIn (tgt := 1128) (off := 1089) hx hb dL_law_39 (by rw [hsw]; decide) (by rw [hsw]; decide) (by rw [hsw]; rfl) (by decide) ?_
        exact lc_at hc hk hRel hP hD hS (by omega) (by omega) hl hnx
      · refine lv_tableIn (tgt := 1184) (off := 1145) hx hb dL_law_39 (by rw [hsw]; decide) (by rw [hsw]; decide) (by rw [hsw]; rfl) (by decide) ?_
        exact lc_count hc hk hRel hP hD hS (by omega) (by omega) hl hnx
