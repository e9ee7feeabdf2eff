/-! the law's own methods that call and catch -/
def ncT : List (String × String) := [(exN 1, exN 0), (exN 0, exN 2), (exN 3, exN 2), (exN 3, exN 0), (exN 1, exN 2), (exN 1, exN 3), (exN 4, exN 0)]
def NcP (U : State) : Prop := ∀ t ∈ ncT, va_Nc t.1 t.2 U
theorem NcP_at {s U : State} (h : NcP s) (hW : s.WarmedH U.vm) : NcP U := fun t ht => (h t ht).moved hW.alike
theorem NcP_call {U : State} {g : JFrame} {mk : MethodId} {a : Array Value} (h : NcP U) : NcP (U.calling g mk a) := fun t ht => va_Nc.moved (u := U) (U := U.calling g mk a) (Vm.Alike.refl U.vm) (h t ht)
/-- the law's world -/
def WdC (D : va_G) (y : Nat → ClassId) (b0 df mi : Nat) (ws : va_W) (U : State) : Prop := WdL D y b0 df mi ws U ∧ NcP U
theorem WdC_blind {D : va_G} {y : Nat → ClassId} {b0 df mi : Nat} {ws : va_W} {av : List Value} : FrameBlind (va_Pc av (WdC D y b0 df mi ws)) := fun a U g mk q => ⟨q.1, (WdL_blind (av := av) a U g mk ⟨q.1, q.2.1⟩).2, NcP_call q.2.2⟩
theorem WdC_at {D : va_G} {y : Nat → ClassId} {b0 df mi : Nat} {ws : va_W} {s : State} {H : Heap} {locs : List Loc} {av : List Value} (hP : va_P D vwCl ws H) (hK : va_K D vwCl (TY y) s) (hN : ∀ w ∈ nestW, va_Nw w s) (hD : va_D (fun q => b0 ≤ q) ws) (hS : va_S (fun q => b0 ≤ q) s.heap H locs) (hb0 : b0 ≤ s.heap.size) (hT : ThP b0 s) (hL : LsP b0 df mi s) (hNc : NcP s) : ∀ U : State, U.heap = H → s.WarmedH U.vm → va_Pc av (WdC D y b0 df mi ws) av.toArray U := fun U hU hW => ⟨rfl, (WdL_at (av := av) hP hK hN hD hS hb0 hT hL U hU hW).2, NcP_at hNc hW⟩
section
variable {p : Program} {l : Launch} {e : Env} {R : Room} {s : State} {m : MethodId} {args : Array Value} {below : List Frame} {meth : Method} {c : Code} {H H0 : Heap} {locs : List Loc} {cells slots : Nat} {Q : State → Prop}
variable {cc : ByteArray} {pc : Nat} {ls : Array Slot} {rest : List Value} {D : va_G} {cl : List vw_C} {tys : List (ClassId × FieldType)} {Ls : List Nat} {ad : Nat → Nat} {G : Nat → va_E} {A : Nat → Prop} {j : Nat}
theorem pv_last (hexec : p.tables.exec = Jvm.exec) (hb : c.code = cc) (hK : va_K D cl tys s) (hP : va_P D cl (wl Ls ad G) H) (hD : va_D A (wl Ls ad G)) (hS : va_S A H0 H locs) (hj : j ∈ Ls) (t0 : Nat) {cA : ClassId} {n : Nat} {f : Nat → Int64} (ha : G j = .inl (cA, n, .inr (.inl f))) (ht : tys[t0]? = some (cA, .long)) {i : Int32} {x : Int64} {k : Nat} (hi : i = nI k) (hk : k < n) (hn : n < 2 ^ 31) (hdg : decode cc pc = .ok (.lastore, 1))
    (kk : ∀ (H1 : Heap) (locs1 : List Loc), va_P D cl (wl Ls ad (va_up G j (.inl (cA, n, .inr (.inl (vp_updL f k x)))))) H1 → va_D A (wl Ls ad (va_up G j (.inl (cA, n, .inr (.inl (vp_updL f k x)))))) → va_S A H0 H1 locs1 → W p l e R s m args below meth c H1 locs1 cells slots Q (F0 m (pc + 1) ls rest)) : W p l e R s m args below meth c H locs cells slots Q (F0 m pc ls (.long x :: .int i :: .ref (ad j) :: rest)) := by
  obtain ⟨q0, hq0, hq⟩ := wl_get (ad := ad) (G := G) hj
  subst hi
  refine va_last hexec hb hK hP hD hS q0 t0 (by rw [hq, ha]) ht (vp_in_nI hk hn) hdg fun H1 locs1 h1 h2 h3 => ?_
  rw [wl_set hD hq0, nI_clamp (by omega)] at h1 h2
  exact kk H1 locs1 h1 h2 h3
theorem pv_lald (hexec : p.tables.exec = Jvm.exec) (hb : c.code = cc) (hK : va_K D cl tys s) (hP : va_P D cl (wl Ls ad G) H) (hj : j ∈ Ls) (t0 : Nat) {cA : ClassId} {n : Nat} {f : Nat → Int64} (ha : G j = .inl (cA, n, .inr (.inl f))) (ht : tys[t0]? = some (cA, .long)) {i : Int32} {k : Nat} (hi : i = nI k) (hk : k < n) (hn : n < 2 ^ 31) (hdg : decode cc pc = .ok (.laload, 1))
    (kk : W p l e R s m args below meth c H locs cells slots Q (F0 m (pc + 1) ls (.long (f k) :: rest))) : W p l e R s m args below meth c H locs cells slots Q (F0 m pc ls (.int i :: .ref (ad j) :: rest)) := by
  obtain ⟨q0, -, hq⟩ := wl_get (ad := ad) (G := G) hj
  subst hi
  exact va_lald hexec hb hK hP q0 t0 (by rw [hq, ha]) ht (vp_in_nI hk hn) hdg (by rw [nI_clamp (by omega)]; exact kk)
end
/-- the row that the answers go into -/
def OutAt (y : Nat → ClassId) (Ls : List Nat) (G : Nat → va_E) (lo : Nat → Int64) : Prop := 70 ∈ Ls ∧ G 70 = .inl (y 4, 1, .inr (.inl lo))
/-- the world with an answer in it -/
def outG (y : Nat → ClassId) (G : Nat → va_E) (lo : Nat → Int64) (v : Int64) : Nat → va_E := va_up G 70 (.inl (y 4, 1, .inr (.inl (vp_updL lo 0 v))))
/-- a call that came back, its answer in the row -/
def wRet (y : Nat → ClassId) (ad : Nat → Nat) (lo : Nat → Int64) (post2 : Int32 → List Nat → (Nat → Nat) → (Nat → va_E) → Prop) (val : Int32 → Int64) (r : Int32) (u : va_W) : Prop := r = 0 ∧ ∃ v L a g, post2 v L a g ∧ 70 ∈ L ∧ a 70 = ad 70 ∧ u = wl L a (outG y g lo (val v))

set_option maxHeartbeats 4000000 in
set_option maxRecDepth 100000 in
theorem c_L_sign (l : Launch) (D : va_G) (y : Nat → ClassId) (b0 df mi : Nat) (Ls : List Nat) (ad : Nat → Nat) (G : Nat → va_E) (lo : Nat → Int64) (hOut : OutAt y Ls G lo) {fs : List Value} (hX0 : 0 ∈ Ls) (eX0 : G 0 = .inr (9, fs)) (p0 : Int32) {post : Int32 → va_W → Prop} {px : Nat → Prop} {post2 : Int32 → List Nat → (Nat → Nat) → (Nat → va_E) → Prop}
    (hM : vx_Met l yX7_sign wsX7_sign ({ frames := 6, cells := 1, slots := 6, locals := 82 }) (va_Pc [.ref (ad 0), .int p0] (WdM D y b0 (wl Ls ad G))) (va_Qi post (WB D b0) (fun q => b0 ≤ q)) (XX D b0 (wl Ls ad G) px) 1 6 (fun q => b0 ≤ q))
    (hpost : ∀ r u, post r u → ∃ Ls2 ad2 G2, u = wl Ls2 ad2 G2 ∧ 70 ∈ Ls2 ∧ ad2 70 = ad 70 ∧ G2 70 = G 70 ∧ post2 r Ls2 ad2 G2) (hpx : ∀ k, px k → k = 0 ∨ k = 1) :
    Met l yL_sign wsL_sign ({ frames := 7, cells := 1, slots := 6, locals := 103 }) (va_Pc [.ref (ad 0), .int p0, .ref (ad 70)] (WdC D y b0 df mi (wl Ls ad G))) (va_Qi (fun (r : Int32) (u : va_W) => wRet y ad lo post2 (fun v => v.toInt64) r u ∨ (px 0 ∧ r = 1 ∧ u = wl Ls ad G) ∨ (px 1 ∧ r = 2 ∧ u = wl Ls ad G)) (WB D b0) (fun q => b0 ≤ q)) 1 6 (fun q => b0 ≤ q) := by
  refine va_MetW (cc := cL_sign) (maxL := 4) (ret := (some .int)) (by decide) rfl ?_
  intro p e s m args below meth c s₁ B hml hv
  obtain ⟨rfl, ⟨⟨⟨hP, hK, hN⟩, hD, hb0, hT⟩, hLs⟩, hNc⟩ := hv
  have hx := B.exec
  have hb := B.bytes
  have hr := B.returns
  have hts := atoms_spec (ws := wsL_sign) B.pre
  have hown : s.vm.findClass RL = some m.cls := findClass_of_methodNamed B.named
  have htab : c.exceptionTable.toList = tableOf [(0, 9, 12, 13), (0, 9, 15, 15)] := vx_table (x := yL_sign) B (hts (.codeWith yL_sign cL_sign 4 (some .int) [(0, 9, 12, 13), (0, 9, 15, 15)]) List.mem_cons_self)
  have hS : va_S (fun q => b0 ≤ q) s.heap s.heap [] := va_S.rf
  have hl := lv_entry ([.ref (ad 0), .int p0, .ref (ad 70)]) (n := 4) (Nat.le_of_ble_eq_true rfl)
  rw [lg_entry_eq]
  generalize (lg_sl ([.ref (ad 0), .int p0, .ref (ad 70)]) ++ List.replicate (4 - (lg_sl ([.ref (ad 0), .int p0, .ref (ad 70)])).length) Slot.unset).toArray = ls at hl ⊢
  have hl : lv_has ls 4 [(0, .ref (ad 0)), (1, .int p0), (2, .ref (ad 70))] := hl
  refine lv_aload_n hx hb dL_sign_0 rfl (lv_at hl 2 rfl) ?_
  refine lv_iconst (v := 0) hx hb dL_sign_1 (by decide) ?_
  refine lv_aload_n hx hb dL_sign_2 rfl (lv_at hl 0 rfl) ?_
  refine lv_iload_n hx hb dL_sign_3 rfl (lv_at hl 1 rfl) ?_
  refine vx_calli (vx_runV (As := [.int p0]) (rest := [.int 0, .ref (ad 70)]) ⟨hx, hb, hml, hown, hts⟩ hM (cwV 1 hts gL_sign_X7_sign rfl rfl rfl (by decide +kernel) ⟨(Nat.le_of_ble_eq_true rfl), (Nat.le_of_ble_eq_true rfl)⟩) ⟨WdM_blind, Wd_recv hK hP (ci := 9) rfl hX0 eX0, WdM_at hP hK hN hD hS hb0 hT⟩ rfl rfl hl.1 rfl (lv_room (Nat.le_of_ble_eq_true rfl)) dL_sign_4 ⟨(Nat.le_of_ble_eq_true rfl), (Nat.le_of_ble_eq_true rfl)⟩) hS (fun _ _ h => h) (fun _ h => h) (fun _ _ h => h) (fun E9 ce9 q9 k9 t9 H9 locs9 ht9 hvm9 hp9 hB9 hz9 hk9 hS9 hce9 hcv9 hcl9 => ?_) (fun v u t H locs ht hvm hw hB hz1 hk1 hS => ?_)
  · obtain ⟨rfl, hP9⟩ := hB9
    rw [ht9] at hP9
    rcases hpx k9 hp9 with rfl | rfl
    · refine cx_catch (h := 12) hce9 hcv9 hcl9 (fun pl hpl k hk => by rw [htab]; exact cx_take (args := ([.ref (ad 0), .int p0, .ref (ad 70)] : List Value).toArray) (own := RL) (nm := exN 0) hown hpl hk rfl (by decide) (hts (.classLink RL 13 (exN 0)) (by decide +kernel)) (va_Nw.use rfl (hT.2.2.1 (.castable (exN 0) (exN 0)) (by decide +kernel))) rfl) ?_
      refine lv_astore_n (lv' := [(3, .ref q9), (0, .ref (ad 0)), (1, .int p0), (2, .ref (ad 70))]) hx hb dL_sign_12 rfl hl (by decide) rfl (fun ls hl => ?_)
      refine lv_iconst (v := 1) hx hb dL_sign_13 (by decide) ?_
      refine W.widen (k := 1) (n := 6) (Nat.le_of_ble_eq_true rfl) (Nat.le_of_ble_eq_true rfl) ?_
      exact W.iret (v := 1) hx hb hr (fun t ht hW => ⟨⟨1, wl Ls ad G, rfl, Or.inr (Or.inl ⟨hp9, rfl, rfl⟩), by rw [ht]; exact hP9, hD⟩, hS9.F ht⟩) hS9.2.2 dL_sign_14
    · refine cx_catch (h := 15) hce9 hcv9 hcl9 (fun pl hpl k hk => by rw [htab]; exact cx_pass (args := ([.ref (ad 0), .int p0, .ref (ad 70)] : List Value).toArray) (own := RL) (nm := exN 0) hown hpl hk rfl (by decide) (hts (.classLink RL 13 (exN 0)) (by decide +kernel)) (hNc (exN 1, exN 0) (by decide +kernel)) (cx_take (args := ([.ref (ad 0), .int p0, .ref (ad 70)] : List Value).toArray) (own := RL) (nm := exN 1) hown hpl hk rfl (by decide) (hts (.classLink RL 15 (exN 1)) (by decide +kernel)) (va_Nw.use rfl (hT.2.2.1 (.castable (exN 1) (exN 1)) (by decide +kernel))) rfl)) ?_
      refine lv_astore_n (lv' := [(3, .ref q9), (0, .ref (ad 0)), (1, .int p0), (2, .ref (ad 70))]) hx hb dL_sign_15 rfl hl (by decide) rfl (fun ls hl => ?_)
      refine lv_iconst (v := 2) hx hb dL_sign_16 (by decide) ?_
      refine W.widen (k := 1) (n := 6) (Nat.le_of_ble_eq_true rfl) (Nat.le_of_ble_eq_true rfl) ?_
      exact W.iret (v := 2) hx hb hr (fun t ht hW => ⟨⟨2, wl Ls ad G, rfl, Or.inr (Or.inr (⟨hp9, rfl, rfl⟩)), by rw [ht]; exact hP9, hD⟩, hS9.F ht⟩) hS9.2.2 dL_sign_17
  · obtain ⟨hP, hD⟩ := hB
    rw [ht] at hP
    obtain ⟨Ls2, ad2, G2, rfl, h70, ea70, eG70, hw2⟩ := hpost v u hw
    refine lv_i2l hx hb dL_sign_7 rfl ?_
    rw [← ea70]
    refine pv_last hx hb hK hP hD hS h70 4 (eG70.trans hOut.2) rfl (k := 0) rfl (by decide) (by decide) dL_sign_8 (fun H locs hP hD hS => ?_)
    refine lv_goto (tgt := 18) hx hb dL_sign_9 (by decide) ?_
    refine lv_iconst (v := 0) hx hb dL_sign_18 (by decide) ?_
    refine W.widen (k := 1) (n := 6) (Nat.le_of_ble_eq_true rfl) (Nat.le_of_ble_eq_true rfl) ?_
    exact W.iret (v := 0) hx hb hr (fun t ht hW => ⟨⟨0, wl Ls2 ad2 (outG y G2 lo v.toInt64), rfl, Or.inl ⟨rfl, v, Ls2, ad2, G2, hw2, h70, ea70, rfl⟩, by rw [ht]; exact hP, hD⟩, hS.F ht⟩) hS.2.2 dL_sign_19

set_option maxHeartbeats 4000000 in
set_option maxRecDepth 100000 in
theorem c_L_unit (l : Launch) (D : va_G) (y : Nat → ClassId) (b0 df mi : Nat) (Ls : List Nat) (ad : Nat → Nat) (G : Nat → va_E) (lo : Nat → Int64) (hOut : OutAt y Ls G lo) {fs : List Value} (hX0 : 0 ∈ Ls) (eX0 : G 0 = .inr (9, fs)) (p0 p1 p2 : Int32) {post : Int32 → va_W → Prop} {px : Nat → Prop} {post2 : Int32 → List Nat → (Nat → Nat) → (Nat → va_E) → Prop}
    (hM : vx_Met l yX7_unit wsX7_unit ({ frames := 7, cells := 7, slots := 1043, locals := 191 }) (va_Pc [.ref (ad 0), .int p0, .int p1, .int p2] (WdL D y b0 df mi (wl Ls ad G))) (va_Qi post (WB D b0) (fun q => b0 ≤ q)) (XX D b0 (wl Ls ad G) px) 7 1043 (fun q => b0 ≤ q))
    (hpost : ∀ r u, post r u → ∃ Ls2 ad2 G2, u = wl Ls2 ad2 G2 ∧ 70 ∈ Ls2 ∧ ad2 70 = ad 70 ∧ G2 70 = G 70 ∧ post2 r Ls2 ad2 G2) (hpx : ∀ k, px k → k = 0 ∨ k = 1) :
    Met l yL_unit wsL_unit ({ frames := 8, cells := 7, slots := 1043, locals := 214 }) (va_Pc [.ref (ad 0), .int p0, .int p1, .int p2, .ref (ad 70)] (WdC D y b0 df mi (wl Ls ad G))) (va_Qi (fun (r : Int32) (u : va_W) => wRet y ad lo post2 (fun v => v.toInt64) r u ∨ (px 0 ∧ r = 1 ∧ u = wl Ls ad G) ∨ (px 1 ∧ r = 2 ∧ u = wl Ls ad G)) (WB D b0) (fun q => b0 ≤ q)) 7 1043 (fun q => b0 ≤ q) := by
  refine va_MetW (cc := cL_unit) (maxL := 6) (ret := (some .int)) (by decide) rfl ?_
  intro p e s m args below meth c s₁ B hml hv
  obtain ⟨rfl, ⟨⟨⟨hP, hK, hN⟩, hD, hb0, hT⟩, hLs⟩, hNc⟩ := hv
  have hx := B.exec
  have hb := B.bytes
  have hr := B.returns
  have hts := atoms_spec (ws := wsL_unit) B.pre
  have hown : s.vm.findClass RL = some m.cls := findClass_of_methodNamed B.named
  have htab : c.exceptionTable.toList = tableOf [(0, 12, 15, 13), (0, 12, 19, 15)] := vx_table (x := yL_unit) B (hts (.codeWith yL_unit cL_unit 6 (some .int) [(0, 12, 15, 13), (0, 12, 19, 15)]) List.mem_cons_self)
  have hS : va_S (fun q => b0 ≤ q) s.heap s.heap [] := va_S.rf
  have hl := lv_entry ([.ref (ad 0), .int p0, .int p1, .int p2, .ref (ad 70)]) (n := 6) (Nat.le_of_ble_eq_true rfl)
  rw [lg_entry_eq]
  generalize (lg_sl ([.ref (ad 0), .int p0, .int p1, .int p2, .ref (ad 70)]) ++ List.replicate (6 - (lg_sl ([.ref (ad 0), .int p0, .int p1, .int p2, .ref (ad 70)])).length) Slot.unset).toArray = ls at hl ⊢
  have hl : lv_has ls 6 [(0, .ref (ad 0)), (1, .int p0), (2, .int p1), (3, .int p2), (4, .ref (ad 70))] := hl
  refine lv_aload hx hb dL_unit_0 (lv_at hl 4 rfl) ?_
  refine lv_iconst (v := 0) hx hb dL_unit_2 (by decide) ?_
  refine lv_aload_n hx hb dL_unit_3 rfl (lv_at hl 0 rfl) ?_
  refine lv_iload_n hx hb dL_unit_4 rfl (lv_at hl 1 rfl) ?_
  refine lv_iload_n hx hb dL_unit_5 rfl (lv_at hl 2 rfl) ?_
  refine lv_iload_n hx hb dL_unit_6 rfl (lv_at hl 3 rfl) ?_
  refine vx_calli (vx_runV (As := [.int p0, .int p1, .int p2]) (rest := [.int 0, .ref (ad 70)]) ⟨hx, hb, hml, hown, hts⟩ hM (cwV 3 hts gL_unit_X7_unit rfl rfl rfl (by decide +kernel) ⟨(Nat.le_of_ble_eq_true rfl), (Nat.le_of_ble_eq_true rfl)⟩) ⟨WdL_blind, Wd_recv hK hP (ci := 9) rfl hX0 eX0, WdL_at hP hK hN hD hS hb0 hT hLs⟩ rfl rfl hl.1 rfl (lv_room (Nat.le_of_ble_eq_true rfl)) dL_unit_7 ⟨(Nat.le_of_ble_eq_true rfl), (Nat.le_of_ble_eq_true rfl)⟩) hS (fun _ _ h => h) (fun _ h => h) (fun _ _ h => h) (fun E9 ce9 q9 k9 t9 H9 locs9 ht9 hvm9 hp9 hB9 hz9 hk9 hS9 hce9 hcv9 hcl9 => ?_) (fun v u t H locs ht hvm hw hB hz1 hk1 hS => ?_)
  · obtain ⟨rfl, hP9⟩ := hB9
    rw [ht9] at hP9
    rcases hpx k9 hp9 with rfl | rfl
    · refine cx_catch (h := 15) hce9 hcv9 hcl9 (fun pl hpl k hk => by rw [htab]; exact cx_take (args := ([.ref (ad 0), .int p0, .int p1, .int p2, .ref (ad 70)] : List Value).toArray) (own := RL) (nm := exN 0) hown hpl hk rfl (by decide) (hts (.classLink RL 13 (exN 0)) (by decide +kernel)) (va_Nw.use rfl (hT.2.2.1 (.castable (exN 0) (exN 0)) (by decide +kernel))) rfl) ?_
      refine lv_astore (lv' := [(5, .ref q9), (0, .ref (ad 0)), (1, .int p0), (2, .int p1), (3, .int p2), (4, .ref (ad 70))]) hx hb dL_unit_15 hl (by decide) rfl (fun ls hl => ?_)
      refine lv_iconst (v := 1) hx hb dL_unit_17 (by decide) ?_
      refine W.widen (k := 7) (n := 1043) (Nat.le_of_ble_eq_true rfl) (Nat.le_of_ble_eq_true rfl) ?_
      exact W.iret (v := 1) hx hb hr (fun t ht hW => ⟨⟨1, wl Ls ad G, rfl, Or.inr (Or.inl ⟨hp9, rfl, rfl⟩), by rw [ht]; exact hP9, hD⟩, hS9.F ht⟩) hS9.2.2 dL_unit_18
    · refine cx_catch (h := 19) hce9 hcv9 hcl9 (fun pl hpl k hk => by rw [htab]; exact cx_pass (args := ([.ref (ad 0), .int p0, .int p1, .int p2, .ref (ad 70)] : List Value).toArray) (own := RL) (nm := exN 0) hown hpl hk rfl (by decide) (hts (.classLink RL 13 (exN 0)) (by decide +kernel)) (hNc (exN 1, exN 0) (by decide +kernel)) (cx_take (args := ([.ref (ad 0), .int p0, .int p1, .int p2, .ref (ad 70)] : List Value).toArray) (own := RL) (nm := exN 1) hown hpl hk rfl (by decide) (hts (.classLink RL 15 (exN 1)) (by decide +kernel)) (va_Nw.use rfl (hT.2.2.1 (.castable (exN 1) (exN 1)) (by decide +kernel))) rfl)) ?_
      refine lv_astore (lv' := [(5, .ref q9), (0, .ref (ad 0)), (1, .int p0), (2, .int p1), (3, .int p2), (4, .ref (ad 70))]) hx hb dL_unit_19 hl (by decide) rfl (fun ls hl => ?_)
      refine lv_iconst (v := 2) hx hb dL_unit_21 (by decide) ?_
      refine W.widen (k := 7) (n := 1043) (Nat.le_of_ble_eq_true rfl) (Nat.le_of_ble_eq_true rfl) ?_
      exact W.iret (v := 2) hx hb hr (fun t ht hW => ⟨⟨2, wl Ls ad G, rfl, Or.inr (Or.inr (⟨hp9, rfl, rfl⟩)), by rw [ht]; exact hP9, hD⟩, hS9.F ht⟩) hS9.2.2 dL_unit_22
  · obtain ⟨hP, hD⟩ := hB
    rw [ht] at hP
    obtain ⟨Ls2, ad2, G2, rfl, h70, ea70, eG70, hw2⟩ := hpost v u hw
    refine lv_i2l hx hb dL_unit_10 rfl ?_
    rw [← ea70]
    refine pv_last hx hb hK hP hD hS h70 4 (eG70.trans hOut.2) rfl (k := 0) rfl (by decide) (by decide) dL_unit_11 (fun H locs hP hD hS => ?_)
    refine lv_goto (tgt := 23) hx hb dL_unit_12 (by decide) ?_
    refine lv_iconst (v := 0) hx hb dL_unit_23 (by decide) ?_
    refine W.widen (k := 7) (n := 1043) (Nat.le_of_ble_eq_true rfl) (Nat.le_of_ble_eq_true rfl) ?_
    exact W.iret (v := 0) hx hb hr (fun t ht hW => ⟨⟨0, wl Ls2 ad2 (outG y G2 lo v.toInt64), rfl, Or.inl ⟨rfl, v, Ls2, ad2, G2, hw2, h70, ea70, rfl⟩, by rw [ht]; exact hP, hD⟩, hS.F ht⟩) hS.2.2 dL_unit_24

set_option maxHeartbeats 4000000 in
set_option maxRecDepth 100000 in
theorem c_L_change (l : Launch) (D : va_G) (y : Nat → ClassId) (b0 df mi : Nat) (Ls : List Nat) (ad : Nat → Nat) (G : Nat → va_E) (lo : Nat → Int64) (hOut : OutAt y Ls G lo) {fs : List Value} (hX0 : 0 ∈ Ls) (eX0 : G 0 = .inr (9, fs)) (p0 p1 p2 : Int32) {post : Int32 → va_W → Prop} {px : Nat → Prop} {post2 : Int32 → List Nat → (Nat → Nat) → (Nat → va_E) → Prop}
    (hM : vx_Met l yX7_change wsX7_change ({ frames := 7, cells := 5, slots := 30, locals := 103 }) (va_Pc [.ref (ad 0), .int p0, .int p1, .int p2] (WdM D y b0 (wl Ls ad G))) (va_Qi post (WB D b0) (fun q => b0 ≤ q)) (XX D b0 (wl Ls ad G) px) 5 30 (fun q => b0 ≤ q))
    (hpost : ∀ r u, post r u → ∃ Ls2 ad2 G2, u = wl Ls2 ad2 G2 ∧ 70 ∈ Ls2 ∧ ad2 70 = ad 70 ∧ G2 70 = G 70 ∧ post2 r Ls2 ad2 G2) (hpx : ∀ k, px k → k = 0 ∨ k = 1 ∨ k = 2 ∨ k = 3) :
    Met l yL_change wsL_change ({ frames := 8, cells := 5, slots := 30, locals := 128 }) (va_Pc [.ref (ad 0), .int p0, .int p1, .int p2, .ref (ad 70)] (WdC D y b0 df mi (wl Ls ad G))) (va_Qi (fun (r : Int32) (u : va_W) => wRet y ad lo post2 (fun v => (if v = 0 then 0 else 1)) r u ∨ (px 2 ∧ r = 1 ∧ u = wl Ls ad G) ∨ (px 0 ∧ r = 2 ∧ u = wl Ls ad G) ∨ (px 3 ∧ r = 3 ∧ u = wl Ls ad G) ∨ (px 1 ∧ r = 4 ∧ u = wl Ls ad G)) (WB D b0) (fun q => b0 ≤ q)) 5 30 (fun q => b0 ≤ q) := by
  refine va_MetW (cc := cL_change) (maxL := 6) (ret := (some .int)) (by decide) rfl ?_
  intro p e s m args below meth c s₁ B hml hv
  obtain ⟨rfl, ⟨⟨⟨hP, hK, hN⟩, hD, hb0, hT⟩, hLs⟩, hNc⟩ := hv
  have hx := B.exec
  have hb := B.bytes
  have hr := B.returns
  have hts := atoms_spec (ws := wsL_change) B.pre
  have hown : s.vm.findClass RL = some m.cls := findClass_of_methodNamed B.named
  have htab : c.exceptionTable.toList = tableOf [(0, 19, 22, 25), (0, 19, 26, 13), (0, 19, 30, 27), (0, 19, 34, 15)] := vx_table (x := yL_change) B (hts (.codeWith yL_change cL_change 6 (some .int) [(0, 19, 22, 25), (0, 19, 26, 13), (0, 19, 30, 27), (0, 19, 34, 15)]) List.mem_cons_self)
  have hS : va_S (fun q => b0 ≤ q) s.heap s.heap [] := va_S.rf
  have hl := lv_entry ([.ref (ad 0), .int p0, .int p1, .int p2, .ref (ad 70)]) (n := 6) (Nat.le_of_ble_eq_true rfl)
  rw [lg_entry_eq]
  generalize (lg_sl ([.ref (ad 0), .int p0, .int p1, .int p2, .ref (ad 70)]) ++ List.replicate (6 - (lg_sl ([.ref (ad 0), .int p0, .int p1, .int p2, .ref (ad 70)])).length) Slot.unset).toArray = ls at hl ⊢
  have hl : lv_has ls 6 [(0, .ref (ad 0)), (1, .int p0), (2, .int p1), (3, .int p2), (4, .ref (ad 70))] := hl
  refine lv_aload hx hb dL_change_0 (lv_at hl 4 rfl) ?_
  refine lv_iconst (v := 0) hx hb dL_change_2 (by decide) ?_
  refine lv_aload_n hx hb dL_change_3 rfl (lv_at hl 0 rfl) ?_
  refine lv_iload_n hx hb dL_change_4 rfl (lv_at hl 1 rfl) ?_
  refine lv_iload_n hx hb dL_change_5 rfl (lv_at hl 2 rfl) ?_
  refine lv_iload_n hx hb dL_change_6 rfl (lv_at hl 3 rfl) ?_
  refine vx_calli (vx_runV (As := [.int p0, .int p1, .int p2]) (rest := [.int 0, .ref (ad 70)]) ⟨hx, hb, hml, hown, hts⟩ hM (cwV 3 hts gL_change_X7_change rfl rfl rfl (by decide +kernel) ⟨(Nat.le_of_ble_eq_true rfl), (Nat.le_of_ble_eq_true rfl)⟩) ⟨WdM_blind, Wd_recv hK hP (ci := 9) rfl hX0 eX0, WdM_at hP hK hN hD hS hb0 hT⟩ rfl rfl hl.1 rfl (lv_room (Nat.le_of_ble_eq_true rfl)) dL_change_7 ⟨(Nat.le_of_ble_eq_true rfl), (Nat.le_of_ble_eq_true rfl)⟩) hS (fun _ _ h => h) (fun _ h => h) (fun _ _ h => h) (fun E9 ce9 q9 k9 t9 H9 locs9 ht9 hvm9 hp9 hB9 hz9 hk9 hS9 hce9 hcv9 hcl9 => ?_) (fun v u t H locs ht hvm hw hB hz1 hk1 hS => ?_)
  · obtain ⟨rfl, hP9⟩ := hB9
    rw [ht9] at hP9
    rcases hpx k9 hp9 with rfl | rfl | rfl | rfl
    · refine cx_catch (h := 26) hce9 hcv9 hcl9 (fun pl hpl k hk => by rw [htab]; exact cx_pass (args := ([.ref (ad 0), .int p0, .int p1, .int p2, .ref (ad 70)] : List Value).toArray) (own := RL) (nm := exN 2) hown hpl hk rfl (by decide) (hts (.classLink RL 25 (exN 2)) (by decide +kernel)) (hNc (exN 0, exN 2) (by decide +kernel)) (cx_take (args := ([.ref (ad 0), .int p0, .int p1, .int p2, .ref (ad 70)] : List Value).toArray) (own := RL) (nm := exN 0) hown hpl hk rfl (by decide) (hts (.classLink RL 13 (exN 0)) (by decide +kernel)) (va_Nw.use rfl (hT.2.2.1 (.castable (exN 0) (exN 0)) (by decide +kernel))) rfl)) ?_
      refine lv_astore (lv' := [(5, .ref q9), (0, .ref (ad 0)), (1, .int p0), (2, .int p1), (3, .int p2), (4, .ref (ad 70))]) hx hb dL_change_26 hl (by decide) rfl (fun ls hl => ?_)
      refine lv_iconst (v := 2) hx hb dL_change_28 (by decide) ?_
      refine W.widen (k := 5) (n := 30) (Nat.le_of_ble_eq_true rfl) (Nat.le_of_ble_eq_true rfl) ?_
      exact W.iret (v := 2) hx hb hr (fun t ht hW => ⟨⟨2, wl Ls ad G, rfl, Or.inr (Or.inr (Or.inl ⟨hp9, rfl, rfl⟩)), by rw [ht]; exact hP9, hD⟩, hS9.F ht⟩) hS9.2.2 dL_change_29
    · refine cx_catch (h := 34) hce9 hcv9 hcl9 (fun pl hpl k hk => by rw [htab]; exact cx_pass (args := ([.ref (ad 0), .int p0, .int p1, .int p2, .ref (ad 70)] : List Value).toArray) (own := RL) (nm := exN 2) hown hpl hk rfl (by decide) (hts (.classLink RL 25 (exN 2)) (by decide +kernel)) (hNc (exN 1, exN 2) (by decide +kernel)) (cx_pass (args := ([.ref (ad 0), .int p0, .int p1, .int p2, .ref (ad 70)] : List Value).toArray) (own := RL) (nm := exN 0) hown hpl hk rfl (by decide) (hts (.classLink RL 13 (exN 0)) (by decide +kernel)) (hNc (exN 1, exN 0) (by decide +kernel)) (cx_pass (args := ([.ref (ad 0), .int p0, .int p1, .int p2, .ref (ad 70)] : List Value).toArray) (own := RL) (nm := exN 3) hown hpl hk rfl (by decide) (hts (.classLink RL 27 (exN 3)) (by decide +kernel)) (hNc (exN 1, exN 3) (by decide +kernel)) (cx_take (args := ([.ref (ad 0), .int p0, .int p1, .int p2, .ref (ad 70)] : List Value).toArray) (own := RL) (nm := exN 1) hown hpl hk rfl (by decide) (hts (.classLink RL 15 (exN 1)) (by decide +kernel)) (va_Nw.use rfl (hT.2.2.1 (.castable (exN 1) (exN 1)) (by decide +kernel))) rfl)))) ?_
      refine lv_astore (lv' := [(5, .ref q9), (0, .ref (ad 0)), (1, .int p0), (2, .int p1), (3, .int p2), (4, .ref (ad 70))]) hx hb dL_change_34 hl (by decide) rfl (fun ls hl => ?_)
      refine lv_iconst (v := 4) hx hb dL_change_36 (by decide) ?_
      refine W.widen (k := 5) (n := 30) (Nat.le_of_ble_eq_true rfl) (Nat.le_of_ble_eq_true rfl) ?_
      exact W.iret (v := 4) hx hb hr (fun t ht hW => ⟨⟨4, wl Ls ad G, rfl, Or.inr (Or.inr (Or.inr (Or.inr (⟨hp9, rfl, rfl⟩)))), by rw [ht]; exact hP9, hD⟩, hS9.F ht⟩) hS9.2.2 dL_change_37
    · refine cx_catch (h := 22) hce9 hcv9 hcl9 (fun pl hpl k hk => by rw [htab]; exact cx_take (args := ([.ref (ad 0), .int p0, .int p1, .int p2, .ref (ad 70)] : List Value).toArray) (own := RL) (nm := exN 2) hown hpl hk rfl (by decide) (hts (.classLink RL 25 (exN 2)) (by decide +kernel)) (va_Nw.use rfl (hT.2.2.1 (.castable (exN 2) (exN 2)) (by decide +kernel))) rfl) ?_
      refine lv_astore (lv' := [(5, .ref q9), (0, .ref (ad 0)), (1, .int p0), (2, .int p1), (3, .int p2), (4, .ref (ad 70))]) hx hb dL_change_22 hl (by decide) rfl (fun ls hl => ?_)
      refine lv_iconst (v := 1) hx hb dL_change_24 (by decide) ?_
      refine W.widen (k := 5) (n := 30) (Nat.le_of_ble_eq_true rfl) (Nat.le_of_ble_eq_true rfl) ?_
      exact W.iret (v := 1) hx hb hr (fun t ht hW => ⟨⟨1, wl Ls ad G, rfl, Or.inr (Or.inl ⟨hp9, rfl, rfl⟩), by rw [ht]; exact hP9, hD⟩, hS9.F ht⟩) hS9.2.2 dL_change_25
    · refine cx_catch (h := 30) hce9 hcv9 hcl9 (fun pl hpl k hk => by rw [htab]; exact cx_pass (args := ([.ref (ad 0), .int p0, .int p1, .int p2, .ref (ad 70)] : List Value).toArray) (own := RL) (nm := exN 2) hown hpl hk rfl (by decide) (hts (.classLink RL 25 (exN 2)) (by decide +kernel)) (hNc (exN 3, exN 2) (by decide +kernel)) (cx_pass (args := ([.ref (ad 0), .int p0, .int p1, .int p2, .ref (ad 70)] : List Value).toArray) (own := RL) (nm := exN 0) hown hpl hk rfl (by decide) (hts (.classLink RL 13 (exN 0)) (by decide +kernel)) (hNc (exN 3, exN 0) (by decide +kernel)) (cx_take (args := ([.ref (ad 0), .int p0, .int p1, .int p2, .ref (ad 70)] : List Value).toArray) (own := RL) (nm := exN 3) hown hpl hk rfl (by decide) (hts (.classLink RL 27 (exN 3)) (by decide +kernel)) (va_Nw.use rfl (hT.2.2.1 (.castable (exN 3) (exN 3)) (by decide +kernel))) rfl))) ?_
      refine lv_astore (lv' := [(5, .ref q9), (0, .ref (ad 0)), (1, .int p0), (2, .int p1), (3, .int p2), (4, .ref (ad 70))]) hx hb dL_change_30 hl (by decide) rfl (fun ls hl => ?_)
      refine lv_iconst (v := 3) hx hb dL_change_32 (by decide) ?_
      refine W.widen (k := 5) (n := 30) (Nat.le_of_ble_eq_true rfl) (Nat.le_of_ble_eq_true rfl) ?_
      exact W.iret (v := 3) hx hb hr (fun t ht hW => ⟨⟨3, wl Ls ad G, rfl, Or.inr (Or.inr (Or.inr (Or.inl ⟨hp9, rfl, rfl⟩))), by rw [ht]; exact hP9, hD⟩, hS9.F ht⟩) hS9.2.2 dL_change_33
  · obtain ⟨hP, hD⟩ := hB
    rw [ht] at hP
    obtain ⟨Ls2, ad2, G2, rfl, h70, ea70, eG70, hw2⟩ := hpost v u hw
    refine lv_if_eq (tgt := 17) hx hb dL_change_10 (by decide) (fun c_0 => ?_) (fun c_0 => ?_)
    · refine lv_lconst (v := 0) hx hb dL_change_17 (by decide) ?_
      rw [← ea70]
      refine pv_last hx hb hK hP hD hS h70 4 (eG70.trans hOut.2) rfl (k := 0) rfl (by decide) (by decide) dL_change_18 (fun H locs hP hD hS => ?_)
      refine lv_goto (tgt := 38) hx hb dL_change_19 (by decide) ?_
      refine lv_iconst (v := 0) hx hb dL_change_38 (by decide) ?_
      refine W.widen (k := 5) (n := 30) (Nat.le_of_ble_eq_true rfl) (Nat.le_of_ble_eq_true rfl) ?_
      exact W.iret (v := 0) hx hb hr (fun t ht hW => ⟨⟨0, wl Ls2 ad2 (outG y G2 lo 0), rfl, Or.inl ⟨rfl, v, Ls2, ad2, G2, hw2, h70, ea70, by simp only [if_pos c_0]⟩, by rw [ht]; exact hP, hD⟩, hS.F ht⟩) hS.2.2 dL_change_39
    · refine lv_lconst (v := 1) hx hb dL_change_13 (by decide) ?_
      refine lv_goto (tgt := 18) hx hb dL_change_14 (by decide) ?_
      rw [← ea70]
      refine pv_last hx hb hK hP hD hS h70 4 (eG70.trans hOut.2) rfl (k := 0) rfl (by decide) (by decide) dL_change_18 (fun H locs hP hD hS => ?_)
      refine lv_goto (tgt := 38) hx hb dL_change_19 (by decide) ?_
      refine lv_iconst (v := 0) hx hb dL_change_38 (by decide) ?_
      refine W.widen (k := 5) (n := 30) (Nat.le_of_ble_eq_true rfl) (Nat.le_of_ble_eq_true rfl) ?_
      exact W.iret (v := 0) hx hb hr (fun t ht hW => ⟨⟨0, wl Ls2 ad2 (outG y G2 lo 1), rfl, Or.inl ⟨rfl, v, Ls2, ad2, G2, hw2, h70, ea70, by simp only [if_neg c_0]⟩, by rw [ht]; exact hP, hD⟩, hS.F ht⟩) hS.2.2 dL_change_39

set_option maxHeartbeats 4000000 in
set_option maxRecDepth 100000 in
theorem c_L_gone (l : Launch) (D : va_G) (y : Nat → ClassId) (b0 df mi : Nat) (Ls : List Nat) (ad : Nat → Nat) (G : Nat → va_E) (lo : Nat → Int64) (hOut : OutAt y Ls G lo) {fs : List Value} (hX0 : 0 ∈ Ls) (eX0 : G 0 = .inr (9, fs)) (p0 p1 : Int32) {post : Int32 → va_W → Prop} {px : Nat → Prop} {post2 : Int32 → List Nat → (Nat → Nat) → (Nat → va_E) → Prop}
    (hM : vx_Met l yX7_gone wsX7_gone ({ frames := 7, cells := 3, slots := 18, locals := 103 }) (va_Pc [.ref (ad 0), .int p0, .int p1] (WdM D y b0 (wl Ls ad G))) (va_Qi post (WB D b0) (fun q => b0 ≤ q)) (XX D b0 (wl Ls ad G) px) 3 18 (fun q => b0 ≤ q))
    (hpost : ∀ r u, post r u → ∃ Ls2 ad2 G2, u = wl Ls2 ad2 G2 ∧ 70 ∈ Ls2 ∧ ad2 70 = ad 70 ∧ G2 70 = G 70 ∧ post2 r Ls2 ad2 G2) (hpx : ∀ k, px k → k = 0 ∨ k = 2 ∨ k = 3) :
    Met l yL_gone wsL_gone ({ frames := 8, cells := 3, slots := 18, locals := 126 }) (va_Pc [.ref (ad 0), .int p0, .int p1, .ref (ad 70)] (WdC D y b0 df mi (wl Ls ad G))) (va_Qi (fun (r : Int32) (u : va_W) => wRet y ad lo post2 (fun v => v.toInt64) r u ∨ (px 2 ∧ r = 1 ∧ u = wl Ls ad G) ∨ (px 0 ∧ r = 2 ∧ u = wl Ls ad G) ∨ (px 3 ∧ r = 3 ∧ u = wl Ls ad G)) (WB D b0) (fun q => b0 ≤ q)) 3 18 (fun q => b0 ≤ q) := by
  refine va_MetW (cc := cL_gone) (maxL := 5) (ret := (some .int)) (by decide) rfl ?_
  intro p e s m args below meth c s₁ B hml hv
  obtain ⟨rfl, ⟨⟨⟨hP, hK, hN⟩, hD, hb0, hT⟩, hLs⟩, hNc⟩ := hv
  have hx := B.exec
  have hb := B.bytes
  have hr := B.returns
  have hts := atoms_spec (ws := wsL_gone) B.pre
  have hown : s.vm.findClass RL = some m.cls := findClass_of_methodNamed B.named
  have htab : c.exceptionTable.toList = tableOf [(0, 10, 13, 25), (0, 10, 17, 13), (0, 10, 21, 27)] := vx_table (x := yL_gone) B (hts (.codeWith yL_gone cL_gone 5 (some .int) [(0, 10, 13, 25), (0, 10, 17, 13), (0, 10, 21, 27)]) List.mem_cons_self)
  have hS : va_S (fun q => b0 ≤ q) s.heap s.heap [] := va_S.rf
  have hl := lv_entry ([.ref (ad 0), .int p0, .int p1, .ref (ad 70)]) (n := 5) (Nat.le_of_ble_eq_true rfl)
  rw [lg_entry_eq]
  generalize (lg_sl ([.ref (ad 0), .int p0, .int p1, .ref (ad 70)]) ++ List.replicate (5 - (lg_sl ([.ref (ad 0), .int p0, .int p1, .ref (ad 70)])).length) Slot.unset).toArray = ls at hl ⊢
  have hl : lv_has ls 5 [(0, .ref (ad 0)), (1, .int p0), (2, .int p1), (3, .ref (ad 70))] := hl
  refine lv_aload_n hx hb dL_gone_0 rfl (lv_at hl 3 rfl) ?_
  refine lv_iconst (v := 0) hx hb dL_gone_1 (by decide) ?_
  refine lv_aload_n hx hb dL_gone_2 rfl (lv_at hl 0 rfl) ?_
  refine lv_iload_n hx hb dL_gone_3 rfl (lv_at hl 1 rfl) ?_
  refine lv_iload_n hx hb dL_gone_4 rfl (lv_at hl 2 rfl) ?_
  refine vx_calli (vx_runV (As := [.int p0, .int p1]) (rest := [.int 0, .ref (ad 70)]) ⟨hx, hb, hml, hown, hts⟩ hM (cwV 2 hts gL_gone_X7_gone rfl rfl rfl (by decide +kernel) ⟨(Nat.le_of_ble_eq_true rfl), (Nat.le_of_ble_eq_true rfl)⟩) ⟨WdM_blind, Wd_recv hK hP (ci := 9) rfl hX0 eX0, WdM_at hP hK hN hD hS hb0 hT⟩ rfl rfl hl.1 rfl (lv_room (Nat.le_of_ble_eq_true rfl)) dL_gone_5 ⟨(Nat.le_of_ble_eq_true rfl), (Nat.le_of_ble_eq_true rfl)⟩) hS (fun _ _ h => h) (fun _ h => h) (fun _ _ h => h) (fun E9 ce9 q9 k9 t9 H9 locs9 ht9 hvm9 hp9 hB9 hz9 hk9 hS9 hce9 hcv9 hcl9 => ?_) (fun v u t H locs ht hvm hw hB hz1 hk1 hS => ?_)
  · obtain ⟨rfl, hP9⟩ := hB9
    rw [ht9] at hP9
    rcases hpx k9 hp9 with rfl | rfl | rfl
    · refine cx_catch (h := 17) hce9 hcv9 hcl9 (fun pl hpl k hk => by rw [htab]; exact cx_pass (args := ([.ref (ad 0), .int p0, .int p1, .ref (ad 70)] : List Value).toArray) (own := RL) (nm := exN 2) hown hpl hk rfl (by decide) (hts (.classLink RL 25 (exN 2)) (by decide +kernel)) (hNc (exN 0, exN 2) (by decide +kernel)) (cx_take (args := ([.ref (ad 0), .int p0, .int p1, .ref (ad 70)] : List Value).toArray) (own := RL) (nm := exN 0) hown hpl hk rfl (by decide) (hts (.classLink RL 13 (exN 0)) (by decide +kernel)) (va_Nw.use rfl (hT.2.2.1 (.castable (exN 0) (exN 0)) (by decide +kernel))) rfl)) ?_
      refine lv_astore (lv' := [(4, .ref q9), (0, .ref (ad 0)), (1, .int p0), (2, .int p1), (3, .ref (ad 70))]) hx hb dL_gone_17 hl (by decide) rfl (fun ls hl => ?_)
      refine lv_iconst (v := 2) hx hb dL_gone_19 (by decide) ?_
      refine W.widen (k := 3) (n := 18) (Nat.le_of_ble_eq_true rfl) (Nat.le_of_ble_eq_true rfl) ?_
      exact W.iret (v := 2) hx hb hr (fun t ht hW => ⟨⟨2, wl Ls ad G, rfl, Or.inr (Or.inr (Or.inl ⟨hp9, rfl, rfl⟩)), by rw [ht]; exact hP9, hD⟩, hS9.F ht⟩) hS9.2.2 dL_gone_20
    · refine cx_catch (h := 13) hce9 hcv9 hcl9 (fun pl hpl k hk => by rw [htab]; exact cx_take (args := ([.ref (ad 0), .int p0, .int p1, .ref (ad 70)] : List Value).toArray) (own := RL) (nm := exN 2) hown hpl hk rfl (by decide) (hts (.classLink RL 25 (exN 2)) (by decide +kernel)) (va_Nw.use rfl (hT.2.2.1 (.castable (exN 2) (exN 2)) (by decide +kernel))) rfl) ?_
      refine lv_astore (lv' := [(4, .ref q9), (0, .ref (ad 0)), (1, .int p0), (2, .int p1), (3, .ref (ad 70))]) hx hb dL_gone_13 hl (by decide) rfl (fun ls hl => ?_)
      refine lv_iconst (v := 1) hx hb dL_gone_15 (by decide) ?_
      refine W.widen (k := 3) (n := 18) (Nat.le_of_ble_eq_true rfl) (Nat.le_of_ble_eq_true rfl) ?_
      exact W.iret (v := 1) hx hb hr (fun t ht hW => ⟨⟨1, wl Ls ad G, rfl, Or.inr (Or.inl ⟨hp9, rfl, rfl⟩), by rw [ht]; exact hP9, hD⟩, hS9.F ht⟩) hS9.2.2 dL_gone_16
    · refine cx_catch (h := 21) hce9 hcv9 hcl9 (fun pl hpl k hk => by rw [htab]; exact cx_pass (args := ([.ref (ad 0), .int p0, .int p1, .ref (ad 70)] : List Value).toArray) (own := RL) (nm := exN 2) hown hpl hk rfl (by decide) (hts (.classLink RL 25 (exN 2)) (by decide +kernel)) (hNc (exN 3, exN 2) (by decide +kernel)) (cx_pass (args := ([.ref (ad 0), .int p0, .int p1, .ref (ad 70)] : List Value).toArray) (own := RL) (nm := exN 0) hown hpl hk rfl (by decide) (hts (.classLink RL 13 (exN 0)) (by decide +kernel)) (hNc (exN 3, exN 0) (by decide +kernel)) (cx_take (args := ([.ref (ad 0), .int p0, .int p1, .ref (ad 70)] : List Value).toArray) (own := RL) (nm := exN 3) hown hpl hk rfl (by decide) (hts (.classLink RL 27 (exN 3)) (by decide +kernel)) (va_Nw.use rfl (hT.2.2.1 (.castable (exN 3) (exN 3)) (by decide +kernel))) rfl))) ?_
      refine lv_astore (lv' := [(4, .ref q9), (0, .ref (ad 0)), (1, .int p0), (2, .int p1), (3, .ref (ad 70))]) hx hb dL_gone_21 hl (by decide) rfl (fun ls hl => ?_)
      refine lv_iconst (v := 3) hx hb dL_gone_23 (by decide) ?_
      refine W.widen (k := 3) (n := 18) (Nat.le_of_ble_eq_true rfl) (Nat.le_of_ble_eq_true rfl) ?_
      exact W.iret (v := 3) hx hb hr (fun t ht hW => ⟨⟨3, wl Ls ad G, rfl, Or.inr (Or.inr (Or.inr (⟨hp9, rfl, rfl⟩))), by rw [ht]; exact hP9, hD⟩, hS9.F ht⟩) hS9.2.2 dL_gone_24
  · obtain ⟨hP, hD⟩ := hB
    rw [ht] at hP
    obtain ⟨Ls2, ad2, G2, rfl, h70, ea70, eG70, hw2⟩ := hpost v u hw
    refine lv_i2l hx hb dL_gone_8 rfl ?_
    rw [← ea70]
    refine pv_last hx hb hK hP hD hS h70 4 (eG70.trans hOut.2) rfl (k := 0) rfl (by decide) (by decide) dL_gone_9 (fun H locs hP hD hS => ?_)
    refine lv_goto (tgt := 25) hx hb dL_gone_10 (by decide) ?_
    refine lv_iconst (v := 0) hx hb dL_gone_25 (by decide) ?_
    refine W.widen (k := 3) (n := 18) (Nat.le_of_ble_eq_true rfl) (Nat.le_of_ble_eq_true rfl) ?_
    exact W.iret (v := 0) hx hb hr (fun t ht hW => ⟨⟨0, wl Ls2 ad2 (outG y G2 lo v.toInt64), rfl, Or.inl ⟨rfl, v, Ls2, ad2, G2, hw2, h70, ea70, rfl⟩, by rw [ht]; exact hP, hD⟩, hS.F ht⟩) hS.2.2 dL_gone_26

set_option maxHeartbeats 4000000 in
set_option maxRecDepth 100000 in
theorem c_L_move (l : Launch) (D : va_G) (y : Nat → ClassId) (b0 df mi : Nat) (Ls : List Nat) (ad : Nat → Nat) (G : Nat → va_E) (lo : Nat → Int64) (hOut : OutAt y Ls G lo) {fs : List Value} (hX0 : 0 ∈ Ls) (eX0 : G 0 = .inr (9, fs)) (p0 p1 p2 p3 : Int32) {post : Int32 → va_W → Prop} {px : Nat → Prop} {post2 : Int32 → List Nat → (Nat → Nat) → (Nat → va_E) → Prop}
    (hM : vx_Met l yX7_move wsX7_move ({ frames := 7, cells := 5, slots := 1022, locals := 191 }) (va_Pc [.ref (ad 0), .int p0, .int p1, .int p2, .int p3] (WdL D y b0 df mi (wl Ls ad G))) (va_Qi post (WB D b0) (fun q => b0 ≤ q)) (XX D b0 (wl Ls ad G) px) 5 1022 (fun q => b0 ≤ q))
    (hpost : ∀ r u, post r u → ∃ Ls2 ad2 G2, u = wl Ls2 ad2 G2 ∧ 70 ∈ Ls2 ∧ ad2 70 = ad 70 ∧ G2 70 = G 70 ∧ post2 r Ls2 ad2 G2) (hpx : ∀ k, px k → k = 0 ∨ k = 1) :
    Met l yL_move wsL_move ({ frames := 8, cells := 5, slots := 1022, locals := 215 }) (va_Pc [.ref (ad 0), .int p0, .int p1, .int p2, .int p3, .ref (ad 70)] (WdC D y b0 df mi (wl Ls ad G))) (va_Qi (fun (r : Int32) (u : va_W) => wRet y ad lo post2 (fun v => v.toInt64) r u ∨ (px 0 ∧ r = 1 ∧ u = wl Ls ad G) ∨ (px 1 ∧ r = 2 ∧ u = wl Ls ad G)) (WB D b0) (fun q => b0 ≤ q)) 5 1022 (fun q => b0 ≤ q) := by
  refine va_MetW (cc := cL_move) (maxL := 7) (ret := (some .int)) (by decide) rfl ?_
  intro p e s m args below meth c s₁ B hml hv
  obtain ⟨rfl, ⟨⟨⟨hP, hK, hN⟩, hD, hb0, hT⟩, hLs⟩, hNc⟩ := hv
  have hx := B.exec
  have hb := B.bytes
  have hr := B.returns
  have hts := atoms_spec (ws := wsL_move) B.pre
  have hown : s.vm.findClass RL = some m.cls := findClass_of_methodNamed B.named
  have htab : c.exceptionTable.toList = tableOf [(0, 14, 17, 13), (0, 14, 21, 15)] := vx_table (x := yL_move) B (hts (.codeWith yL_move cL_move 7 (some .int) [(0, 14, 17, 13), (0, 14, 21, 15)]) List.mem_cons_self)
  have hS : va_S (fun q => b0 ≤ q) s.heap s.heap [] := va_S.rf
  have hl := lv_entry ([.ref (ad 0), .int p0, .int p1, .int p2, .int p3, .ref (ad 70)]) (n := 7) (Nat.le_of_ble_eq_true rfl)
  rw [lg_entry_eq]
  generalize (lg_sl ([.ref (ad 0), .int p0, .int p1, .int p2, .int p3, .ref (ad 70)]) ++ List.replicate (7 - (lg_sl ([.ref (ad 0), .int p0, .int p1, .int p2, .int p3, .ref (ad 70)])).length) Slot.unset).toArray = ls at hl ⊢
  have hl : lv_has ls 7 [(0, .ref (ad 0)), (1, .int p0), (2, .int p1), (3, .int p2), (4, .int p3), (5, .ref (ad 70))] := hl
  refine lv_aload hx hb dL_move_0 (lv_at hl 5 rfl) ?_
  refine lv_iconst (v := 0) hx hb dL_move_2 (by decide) ?_
  refine lv_aload_n hx hb dL_move_3 rfl (lv_at hl 0 rfl) ?_
  refine lv_iload_n hx hb dL_move_4 rfl (lv_at hl 1 rfl) ?_
  refine lv_iload_n hx hb dL_move_5 rfl (lv_at hl 2 rfl) ?_
  refine lv_iload_n hx hb dL_move_6 rfl (lv_at hl 3 rfl) ?_
  refine lv_iload hx hb dL_move_7 (lv_at hl 4 rfl) ?_
  refine vx_calli (vx_runV (As := [.int p0, .int p1, .int p2, .int p3]) (rest := [.int 0, .ref (ad 70)]) ⟨hx, hb, hml, hown, hts⟩ hM (cwV 4 hts gL_move_X7_move rfl rfl rfl (by decide +kernel) ⟨(Nat.le_of_ble_eq_true rfl), (Nat.le_of_ble_eq_true rfl)⟩) ⟨WdL_blind, Wd_recv hK hP (ci := 9) rfl hX0 eX0, WdL_at hP hK hN hD hS hb0 hT hLs⟩ rfl rfl hl.1 rfl (lv_room (Nat.le_of_ble_eq_true rfl)) dL_move_9 ⟨(Nat.le_of_ble_eq_true rfl), (Nat.le_of_ble_eq_true rfl)⟩) hS (fun _ _ h => h) (fun _ h => h) (fun _ _ h => h) (fun E9 ce9 q9 k9 t9 H9 locs9 ht9 hvm9 hp9 hB9 hz9 hk9 hS9 hce9 hcv9 hcl9 => ?_) (fun v u t H locs ht hvm hw hB hz1 hk1 hS => ?_)
  · obtain ⟨rfl, hP9⟩ := hB9
    rw [ht9] at hP9
    rcases hpx k9 hp9 with rfl | rfl
    · refine cx_catch (h := 17) hce9 hcv9 hcl9 (fun pl hpl k hk => by rw [htab]; exact cx_take (args := ([.ref (ad 0), .int p0, .int p1, .int p2, .int p3, .ref (ad 70)] : List Value).toArray) (own := RL) (nm := exN 0) hown hpl hk rfl (by decide) (hts (.classLink RL 13 (exN 0)) (by decide +kernel)) (va_Nw.use rfl (hT.2.2.1 (.castable (exN 0) (exN 0)) (by decide +kernel))) rfl) ?_
      refine lv_astore (lv' := [(6, .ref q9), (0, .ref (ad 0)), (1, .int p0), (2, .int p1), (3, .int p2), (4, .int p3), (5, .ref (ad 70))]) hx hb dL_move_17 hl (by decide) rfl (fun ls hl => ?_)
      refine lv_iconst (v := 1) hx hb dL_move_19 (by decide) ?_
      refine W.widen (k := 5) (n := 1022) (Nat.le_of_ble_eq_true rfl) (Nat.le_of_ble_eq_true rfl) ?_
      exact W.iret (v := 1) hx hb hr (fun t ht hW => ⟨⟨1, wl Ls ad G, rfl, Or.inr (Or.inl ⟨hp9, rfl, rfl⟩), by rw [ht]; exact hP9, hD⟩, hS9.F ht⟩) hS9.2.2 dL_move_20
    · refine cx_catch (h := 21) hce9 hcv9 hcl9 (fun pl hpl k hk => by rw [htab]; exact cx_pass (args := ([.ref (ad 0), .int p0, .int p1, .int p2, .int p3, .ref (ad 70)] : List Value).toArray) (own := RL) (nm := exN 0) hown hpl hk rfl (by decide) (hts (.classLink RL 13 (exN 0)) (by decide +kernel)) (hNc (exN 1, exN 0) (by decide +kernel)) (cx_take (args := ([.ref (ad 0), .int p0, .int p1, .int p2, .int p3, .ref (ad 70)] : List Value).toArray) (own := RL) (nm := exN 1) hown hpl hk rfl (by decide) (hts (.classLink RL 15 (exN 1)) (by decide +kernel)) (va_Nw.use rfl (hT.2.2.1 (.castable (exN 1) (exN 1)) (by decide +kernel))) rfl)) ?_
      refine lv_astore (lv' := [(6, .ref q9), (0, .ref (ad 0)), (1, .int p0), (2, .int p1), (3, .int p2), (4, .int p3), (5, .ref (ad 70))]) hx hb dL_move_21 hl (by decide) rfl (fun ls hl => ?_)
      refine lv_iconst (v := 2) hx hb dL_move_23 (by decide) ?_
      refine W.widen (k := 5) (n := 1022) (Nat.le_of_ble_eq_true rfl) (Nat.le_of_ble_eq_true rfl) ?_
      exact W.iret (v := 2) hx hb hr (fun t ht hW => ⟨⟨2, wl Ls ad G, rfl, Or.inr (Or.inr (⟨hp9, rfl, rfl⟩)), by rw [ht]; exact hP9, hD⟩, hS9.F ht⟩) hS9.2.2 dL_move_24
  · obtain ⟨hP, hD⟩ := hB
    rw [ht] at hP
    obtain ⟨Ls2, ad2, G2, rfl, h70, ea70, eG70, hw2⟩ := hpost v u hw
    refine lv_i2l hx hb dL_move_12 rfl ?_
    rw [← ea70]
    refine pv_last hx hb hK hP hD hS h70 4 (eG70.trans hOut.2) rfl (k := 0) rfl (by decide) (by decide) dL_move_13 (fun H locs hP hD hS => ?_)
    refine lv_goto (tgt := 25) hx hb dL_move_14 (by decide) ?_
    refine lv_iconst (v := 0) hx hb dL_move_25 (by decide) ?_
    refine W.widen (k := 5) (n := 1022) (Nat.le_of_ble_eq_true rfl) (Nat.le_of_ble_eq_true rfl) ?_
    exact W.iret (v := 0) hx hb hr (fun t ht hW => ⟨⟨0, wl Ls2 ad2 (outG y G2 lo v.toInt64), rfl, Or.inl ⟨rfl, v, Ls2, ad2, G2, hw2, h70, ea70, rfl⟩, by rw [ht]; exact hP, hD⟩, hS.F ht⟩) hS.2.2 dL_move_26

set_option maxHeartbeats 4000000 in
set_option maxRecDepth 100000 in
theorem c_L_sum (l : Launch) (D : va_G) (y : Nat → ClassId) (b0 df mi : Nat) (Ls : List Nat) (ad : Nat → Nat) (G : Nat → va_E) (lo : Nat → Int64) (hOut : OutAt y Ls G lo) {fs : List Value} (hX0 : 0 ∈ Ls) (eX0 : G 0 = .inr (9, fs)) (p0 p1 : Int32) {post : Int32 → va_W → Prop} {px : Nat → Prop} {post2 : Int32 → List Nat → (Nat → Nat) → (Nat → va_E) → Prop}
    (hM : vx_Met l yX7_sum wsX7_sum ({ frames := 7, cells := 2, slots := 12, locals := 142 }) (va_Pc [.ref (ad 0), .int p0, .int p1] (WdM D y b0 (wl Ls ad G))) (va_Qi post (WB D b0) (fun q => b0 ≤ q)) (XX D b0 (wl Ls ad G) px) 2 12 (fun q => b0 ≤ q))
    (hpost : ∀ r u, post r u → ∃ Ls2 ad2 G2, u = wl Ls2 ad2 G2 ∧ 70 ∈ Ls2 ∧ ad2 70 = ad 70 ∧ G2 70 = G 70 ∧ post2 r Ls2 ad2 G2) (hpx : ∀ k, px k → k = 0) :
    Met l yL_sum wsL_sum ({ frames := 8, cells := 2, slots := 12, locals := 164 }) (va_Pc [.ref (ad 0), .int p0, .int p1, .ref (ad 70)] (WdC D y b0 df mi (wl Ls ad G))) (va_Qi (fun (r : Int32) (u : va_W) => wRet y ad lo post2 (fun v => v.toInt64) r u ∨ (px 0 ∧ r = 1 ∧ u = wl Ls ad G)) (WB D b0) (fun q => b0 ≤ q)) 2 12 (fun q => b0 ≤ q) := by
  refine va_MetW (cc := cL_sum) (maxL := 5) (ret := (some .int)) (by decide) rfl ?_
  intro p e s m args below meth c s₁ B hml hv
  obtain ⟨rfl, ⟨⟨⟨hP, hK, hN⟩, hD, hb0, hT⟩, hLs⟩, hNc⟩ := hv
  have hx := B.exec
  have hb := B.bytes
  have hr := B.returns
  have hts := atoms_spec (ws := wsL_sum) B.pre
  have hown : s.vm.findClass RL = some m.cls := findClass_of_methodNamed B.named
  have htab : c.exceptionTable.toList = tableOf [(0, 10, 13, 13)] := vx_table (x := yL_sum) B (hts (.codeWith yL_sum cL_sum 5 (some .int) [(0, 10, 13, 13)]) List.mem_cons_self)
  have hS : va_S (fun q => b0 ≤ q) s.heap s.heap [] := va_S.rf
  have hl := lv_entry ([.ref (ad 0), .int p0, .int p1, .ref (ad 70)]) (n := 5) (Nat.le_of_ble_eq_true rfl)
  rw [lg_entry_eq]
  generalize (lg_sl ([.ref (ad 0), .int p0, .int p1, .ref (ad 70)]) ++ List.replicate (5 - (lg_sl ([.ref (ad 0), .int p0, .int p1, .ref (ad 70)])).length) Slot.unset).toArray = ls at hl ⊢
  have hl : lv_has ls 5 [(0, .ref (ad 0)), (1, .int p0), (2, .int p1), (3, .ref (ad 70))] := hl
  refine lv_aload_n hx hb dL_sum_0 rfl (lv_at hl 3 rfl) ?_
  refine lv_iconst (v := 0) hx hb dL_sum_1 (by decide) ?_
  refine lv_aload_n hx hb dL_sum_2 rfl (lv_at hl 0 rfl) ?_
  refine lv_iload_n hx hb dL_sum_3 rfl (lv_at hl 1 rfl) ?_
  refine lv_iload_n hx hb dL_sum_4 rfl (lv_at hl 2 rfl) ?_
  refine vx_calli (vx_runV (As := [.int p0, .int p1]) (rest := [.int 0, .ref (ad 70)]) ⟨hx, hb, hml, hown, hts⟩ hM (cwV 2 hts gL_sum_X7_sum rfl rfl rfl (by decide +kernel) ⟨(Nat.le_of_ble_eq_true rfl), (Nat.le_of_ble_eq_true rfl)⟩) ⟨WdM_blind, Wd_recv hK hP (ci := 9) rfl hX0 eX0, WdM_at hP hK hN hD hS hb0 hT⟩ rfl rfl hl.1 rfl (lv_room (Nat.le_of_ble_eq_true rfl)) dL_sum_5 ⟨(Nat.le_of_ble_eq_true rfl), (Nat.le_of_ble_eq_true rfl)⟩) hS (fun _ _ h => h) (fun _ h => h) (fun _ _ h => h) (fun E9 ce9 q9 k9 t9 H9 locs9 ht9 hvm9 hp9 hB9 hz9 hk9 hS9 hce9 hcv9 hcl9 => ?_) (fun v u t H locs ht hvm hw hB hz1 hk1 hS => ?_)
  · obtain ⟨rfl, hP9⟩ := hB9
    rw [ht9] at hP9
    rcases hpx k9 hp9 with rfl
    · refine cx_catch (h := 13) hce9 hcv9 hcl9 (fun pl hpl k hk => by rw [htab]; exact cx_take (args := ([.ref (ad 0), .int p0, .int p1, .ref (ad 70)] : List Value).toArray) (own := RL) (nm := exN 0) hown hpl hk rfl (by decide) (hts (.classLink RL 13 (exN 0)) (by decide +kernel)) (va_Nw.use rfl (hT.2.2.1 (.castable (exN 0) (exN 0)) (by decide +kernel))) rfl) ?_
      refine lv_astore (lv' := [(4, .ref q9), (0, .ref (ad 0)), (1, .int p0), (2, .int p1), (3, .ref (ad 70))]) hx hb dL_sum_13 hl (by decide) rfl (fun ls hl => ?_)
      refine lv_iconst (v := 1) hx hb dL_sum_15 (by decide) ?_
      refine W.widen (k := 2) (n := 12) (Nat.le_of_ble_eq_true rfl) (Nat.le_of_ble_eq_true rfl) ?_
      exact W.iret (v := 1) hx hb hr (fun t ht hW => ⟨⟨1, wl Ls ad G, rfl, Or.inr (⟨hp9, rfl, rfl⟩), by rw [ht]; exact hP9, hD⟩, hS9.F ht⟩) hS9.2.2 dL_sum_16
  · obtain ⟨hP, hD⟩ := hB
    rw [ht] at hP
    obtain ⟨Ls2, ad2, G2, rfl, h70, ea70, eG70, hw2⟩ := hpost v u hw
    refine lv_i2l hx hb dL_sum_8 rfl ?_
    rw [← ea70]
    refine pv_last hx hb hK hP hD hS h70 4 (eG70.trans hOut.2) rfl (k := 0) rfl (by decide) (by decide) dL_sum_9 (fun H locs hP hD hS => ?_)
    refine lv_goto (tgt := 17) hx hb dL_sum_10 (by decide) ?_
    refine lv_iconst (v := 0) hx hb dL_sum_17 (by decide) ?_
    refine W.widen (k := 2) (n := 12) (Nat.le_of_ble_eq_true rfl) (Nat.le_of_ble_eq_true rfl) ?_
    exact W.iret (v := 0) hx hb hr (fun t ht hW => ⟨⟨0, wl Ls2 ad2 (outG y G2 lo v.toInt64), rfl, Or.inl ⟨rfl, v, Ls2, ad2, G2, hw2, h70, ea70, rfl⟩, by rw [ht]; exact hP, hD⟩, hS.F ht⟩) hS.2.2 dL_sum_18

set_option maxHeartbeats 4000000 in
set_option maxRecDepth 100000 in
theorem c_L_days (l : Launch) (D : va_G) (y : Nat → ClassId) (b0 df mi : Nat) (Ls : List Nat) (ad : Nat → Nat) (G : Nat → va_E) (lo : Nat → Int64) (hOut : OutAt y Ls G lo) {fs : List Value} (hX0 : 0 ∈ Ls) (eX0 : G 0 = .inr (9, fs)) (p0 p1 : Int32) {post : Int32 → va_W → Prop} {px : Nat → Prop} {post2 : Int32 → List Nat → (Nat → Nat) → (Nat → va_E) → Prop}
    (hM : vx_Met l yX7_days wsX7_days ({ frames := 7, cells := 2, slots := 12, locals := 102 }) (va_Pc [.ref (ad 0), .int p0, .int p1] (WdM D y b0 (wl Ls ad G))) (va_Qi post (WB D b0) (fun q => b0 ≤ q)) (XX D b0 (wl Ls ad G) px) 2 12 (fun q => b0 ≤ q))
    (hpost : ∀ r u, post r u → ∃ Ls2 ad2 G2, u = wl Ls2 ad2 G2 ∧ 70 ∈ Ls2 ∧ ad2 70 = ad 70 ∧ G2 70 = G 70 ∧ post2 r Ls2 ad2 G2) (hpx : ∀ k, px k → k = 0) :
    Met l yL_days wsL_days ({ frames := 8, cells := 2, slots := 12, locals := 124 }) (va_Pc [.ref (ad 0), .int p0, .int p1, .ref (ad 70)] (WdC D y b0 df mi (wl Ls ad G))) (va_Qi (fun (r : Int32) (u : va_W) => wRet y ad lo post2 (fun v => v.toInt64) r u ∨ (px 0 ∧ r = 1 ∧ u = wl Ls ad G)) (WB D b0) (fun q => b0 ≤ q)) 2 12 (fun q => b0 ≤ q) := by
  refine va_MetW (cc := cL_days) (maxL := 5) (ret := (some .int)) (by decide) rfl ?_
  intro p e s m args below meth c s₁ B hml hv
  obtain ⟨rfl, ⟨⟨⟨hP, hK, hN⟩, hD, hb0, hT⟩, hLs⟩, hNc⟩ := hv
  have hx := B.exec
  have hb := B.bytes
  have hr := B.returns
  have hts := atoms_spec (ws := wsL_days) B.pre
  have hown : s.vm.findClass RL = some m.cls := findClass_of_methodNamed B.named
  have htab : c.exceptionTable.toList = tableOf [(0, 10, 13, 13)] := vx_table (x := yL_days) B (hts (.codeWith yL_days cL_days 5 (some .int) [(0, 10, 13, 13)]) List.mem_cons_self)
  have hS : va_S (fun q => b0 ≤ q) s.heap s.heap [] := va_S.rf
  have hl := lv_entry ([.ref (ad 0), .int p0, .int p1, .ref (ad 70)]) (n := 5) (Nat.le_of_ble_eq_true rfl)
  rw [lg_entry_eq]
  generalize (lg_sl ([.ref (ad 0), .int p0, .int p1, .ref (ad 70)]) ++ List.replicate (5 - (lg_sl ([.ref (ad 0), .int p0, .int p1, .ref (ad 70)])).length) Slot.unset).toArray = ls at hl ⊢
  have hl : lv_has ls 5 [(0, .ref (ad 0)), (1, .int p0), (2, .int p1), (3, .ref (ad 70))] := hl
  refine lv_aload_n hx hb dL_days_0 rfl (lv_at hl 3 rfl) ?_
  refine lv_iconst (v := 0) hx hb dL_days_1 (by decide) ?_
  refine lv_aload_n hx hb dL_days_2 rfl (lv_at hl 0 rfl) ?_
  refine lv_iload_n hx hb dL_days_3 rfl (lv_at hl 1 rfl) ?_
  refine lv_iload_n hx hb dL_days_4 rfl (lv_at hl 2 rfl) ?_
  refine vx_calli (vx_runV (As := [.int p0, .int p1]) (rest := [.int 0, .ref (ad 70)]) ⟨hx, hb, hml, hown, hts⟩ hM (cwV 2 hts gL_days_X7_days rfl rfl rfl (by decide +kernel) ⟨(Nat.le_of_ble_eq_true rfl), (Nat.le_of_ble_eq_true rfl)⟩) ⟨WdM_blind, Wd_recv hK hP (ci := 9) rfl hX0 eX0, WdM_at hP hK hN hD hS hb0 hT⟩ rfl rfl hl.1 rfl (lv_room (Nat.le_of_ble_eq_true rfl)) dL_days_5 ⟨(Nat.le_of_ble_eq_true rfl), (Nat.le_of_ble_eq_true rfl)⟩) hS (fun _ _ h => h) (fun _ h => h) (fun _ _ h => h) (fun E9 ce9 q9 k9 t9 H9 locs9 ht9 hvm9 hp9 hB9 hz9 hk9 hS9 hce9 hcv9 hcl9 => ?_) (fun v u t H locs ht hvm hw hB hz1 hk1 hS => ?_)
  · obtain ⟨rfl, hP9⟩ := hB9
    rw [ht9] at hP9
    rcases hpx k9 hp9 with rfl
    · refine cx_catch (h := 13) hce9 hcv9 hcl9 (fun pl hpl k hk => by rw [htab]; exact cx_take (args := ([.ref (ad 0), .int p0, .int p1, .ref (ad 70)] : List Value).toArray) (own := RL) (nm := exN 0) hown hpl hk rfl (by decide) (hts (.classLink RL 13 (exN 0)) (by decide +kernel)) (va_Nw.use rfl (hT.2.2.1 (.castable (exN 0) (exN 0)) (by decide +kernel))) rfl) ?_
      refine lv_astore (lv' := [(4, .ref q9), (0, .ref (ad 0)), (1, .int p0), (2, .int p1), (3, .ref (ad 70))]) hx hb dL_days_13 hl (by decide) rfl (fun ls hl => ?_)
      refine lv_iconst (v := 1) hx hb dL_days_15 (by decide) ?_
      refine W.widen (k := 2) (n := 12) (Nat.le_of_ble_eq_true rfl) (Nat.le_of_ble_eq_true rfl) ?_
      exact W.iret (v := 1) hx hb hr (fun t ht hW => ⟨⟨1, wl Ls ad G, rfl, Or.inr (⟨hp9, rfl, rfl⟩), by rw [ht]; exact hP9, hD⟩, hS9.F ht⟩) hS9.2.2 dL_days_16
  · obtain ⟨hP, hD⟩ := hB
    rw [ht] at hP
    obtain ⟨Ls2, ad2, G2, rfl, h70, ea70, eG70, hw2⟩ := hpost v u hw
    refine lv_i2l hx hb dL_days_8 rfl ?_
    rw [← ea70]
    refine pv_last hx hb hK hP hD hS h70 4 (eG70.trans hOut.2) rfl (k := 0) rfl (by decide) (by decide) dL_days_9 (fun H locs hP hD hS => ?_)
    refine lv_goto (tgt := 17) hx hb dL_days_10 (by decide) ?_
    refine lv_iconst (v := 0) hx hb dL_days_17 (by decide) ?_
    refine W.widen (k := 2) (n := 12) (Nat.le_of_ble_eq_true rfl) (Nat.le_of_ble_eq_true rfl) ?_
    exact W.iret (v := 0) hx hb hr (fun t ht hW => ⟨⟨0, wl Ls2 ad2 (outG y G2 lo v.toInt64), rfl, Or.inl ⟨rfl, v, Ls2, ad2, G2, hw2, h70, ea70, rfl⟩, by rw [ht]; exact hP, hD⟩, hS.F ht⟩) hS.2.2 dL_days_18

set_option maxHeartbeats 4000000 in
set_option maxRecDepth 100000 in
theorem c_L_average (l : Launch) (D : va_G) (y : Nat → ClassId) (b0 df mi : Nat) (Ls : List Nat) (ad : Nat → Nat) (G : Nat → va_E) (lo : Nat → Int64) (hOut : OutAt y Ls G lo) {fs : List Value} (hX0 : 0 ∈ Ls) (eX0 : G 0 = .inr (9, fs)) (p0 p1 : Int32) {post : Int32 → va_W → Prop} {px : Nat → Prop} {post2 : Int32 → List Nat → (Nat → Nat) → (Nat → va_E) → Prop}
    (hM : vx_Met l yX7_average wsX7_average ({ frames := 7, cells := 3, slots := 18, locals := 118 }) (va_Pc [.ref (ad 0), .int p0, .int p1] (WdM D y b0 (wl Ls ad G))) (va_Qi post (WB D b0) (fun q => b0 ≤ q)) (XX D b0 (wl Ls ad G) px) 3 18 (fun q => b0 ≤ q))
    (hpost : ∀ r u, post r u → ∃ Ls2 ad2 G2, u = wl Ls2 ad2 G2 ∧ 70 ∈ Ls2 ∧ ad2 70 = ad 70 ∧ G2 70 = G 70 ∧ post2 r Ls2 ad2 G2) (hpx : ∀ k, px k → k = 0 ∨ k = 4) :
    Met l yL_average wsL_average ({ frames := 8, cells := 3, slots := 18, locals := 141 }) (va_Pc [.ref (ad 0), .int p0, .int p1, .ref (ad 70)] (WdC D y b0 df mi (wl Ls ad G))) (va_Qi (fun (r : Int32) (u : va_W) => wRet y ad lo post2 (fun v => v.toInt64) r u ∨ (px 0 ∧ r = 1 ∧ u = wl Ls ad G) ∨ (px 4 ∧ r = 2 ∧ u = wl Ls ad G)) (WB D b0) (fun q => b0 ≤ q)) 3 18 (fun q => b0 ≤ q) := by
  refine va_MetW (cc := cL_average) (maxL := 5) (ret := (some .int)) (by decide) rfl ?_
  intro p e s m args below meth c s₁ B hml hv
  obtain ⟨rfl, ⟨⟨⟨hP, hK, hN⟩, hD, hb0, hT⟩, hLs⟩, hNc⟩ := hv
  have hx := B.exec
  have hb := B.bytes
  have hr := B.returns
  have hts := atoms_spec (ws := wsL_average) B.pre
  have hown : s.vm.findClass RL = some m.cls := findClass_of_methodNamed B.named
  have htab : c.exceptionTable.toList = tableOf [(0, 10, 13, 13), (0, 10, 17, 46)] := vx_table (x := yL_average) B (hts (.codeWith yL_average cL_average 5 (some .int) [(0, 10, 13, 13), (0, 10, 17, 46)]) List.mem_cons_self)
  have hS : va_S (fun q => b0 ≤ q) s.heap s.heap [] := va_S.rf
  have hl := lv_entry ([.ref (ad 0), .int p0, .int p1, .ref (ad 70)]) (n := 5) (Nat.le_of_ble_eq_true rfl)
  rw [lg_entry_eq]
  generalize (lg_sl ([.ref (ad 0), .int p0, .int p1, .ref (ad 70)]) ++ List.replicate (5 - (lg_sl ([.ref (ad 0), .int p0, .int p1, .ref (ad 70)])).length) Slot.unset).toArray = ls at hl ⊢
  have hl : lv_has ls 5 [(0, .ref (ad 0)), (1, .int p0), (2, .int p1), (3, .ref (ad 70))] := hl
  refine lv_aload_n hx hb dL_average_0 rfl (lv_at hl 3 rfl) ?_
  refine lv_iconst (v := 0) hx hb dL_average_1 (by decide) ?_
  refine lv_aload_n hx hb dL_average_2 rfl (lv_at hl 0 rfl) ?_
  refine lv_iload_n hx hb dL_average_3 rfl (lv_at hl 1 rfl) ?_
  refine lv_iload_n hx hb dL_average_4 rfl (lv_at hl 2 rfl) ?_
  refine vx_calli (vx_runV (As := [.int p0, .int p1]) (rest := [.int 0, .ref (ad 70)]) ⟨hx, hb, hml, hown, hts⟩ hM (cwV 2 hts gL_average_X7_average rfl rfl rfl (by decide +kernel) ⟨(Nat.le_of_ble_eq_true rfl), (Nat.le_of_ble_eq_true rfl)⟩) ⟨WdM_blind, Wd_recv hK hP (ci := 9) rfl hX0 eX0, WdM_at hP hK hN hD hS hb0 hT⟩ rfl rfl hl.1 rfl (lv_room (Nat.le_of_ble_eq_true rfl)) dL_average_5 ⟨(Nat.le_of_ble_eq_true rfl), (Nat.le_of_ble_eq_true rfl)⟩) hS (fun _ _ h => h) (fun _ h => h) (fun _ _ h => h) (fun E9 ce9 q9 k9 t9 H9 locs9 ht9 hvm9 hp9 hB9 hz9 hk9 hS9 hce9 hcv9 hcl9 => ?_) (fun v u t H locs ht hvm hw hB hz1 hk1 hS => ?_)
  · obtain ⟨rfl, hP9⟩ := hB9
    rw [ht9] at hP9
    rcases hpx k9 hp9 with rfl | rfl
    · refine cx_catch (h := 13) hce9 hcv9 hcl9 (fun pl hpl k hk => by rw [htab]; exact cx_take (args := ([.ref (ad 0), .int p0, .int p1, .ref (ad 70)] : List Value).toArray) (own := RL) (nm := exN 0) hown hpl hk rfl (by decide) (hts (.classLink RL 13 (exN 0)) (by decide +kernel)) (va_Nw.use rfl (hT.2.2.1 (.castable (exN 0) (exN 0)) (by decide +kernel))) rfl) ?_
      refine lv_astore (lv' := [(4, .ref q9), (0, .ref (ad 0)), (1, .int p0), (2, .int p1), (3, .ref (ad 70))]) hx hb dL_average_13 hl (by decide) rfl (fun ls hl => ?_)
      refine lv_iconst (v := 1) hx hb dL_average_15 (by decide) ?_
      refine W.widen (k := 3) (n := 18) (Nat.le_of_ble_eq_true rfl) (Nat.le_of_ble_eq_true rfl) ?_
      exact W.iret (v := 1) hx hb hr (fun t ht hW => ⟨⟨1, wl Ls ad G, rfl, Or.inr (Or.inl ⟨hp9, rfl, rfl⟩), by rw [ht]; exact hP9, hD⟩, hS9.F ht⟩) hS9.2.2 dL_average_16
    · refine cx_catch (h := 17) hce9 hcv9 hcl9 (fun pl hpl k hk => by rw [htab]; exact cx_pass (args := ([.ref (ad 0), .int p0, .int p1, .ref (ad 70)] : List Value).toArray) (own := RL) (nm := exN 0) hown hpl hk rfl (by decide) (hts (.classLink RL 13 (exN 0)) (by decide +kernel)) (hNc (exN 4, exN 0) (by decide +kernel)) (cx_take (args := ([.ref (ad 0), .int p0, .int p1, .ref (ad 70)] : List Value).toArray) (own := RL) (nm := exN 4) hown hpl hk rfl (by decide) (hts (.classLink RL 46 (exN 4)) (by decide +kernel)) (va_Nw.use rfl (hT.2.2.1 (.castable (exN 4) (exN 4)) (by decide +kernel))) rfl)) ?_
      refine lv_astore (lv' := [(4, .ref q9), (0, .ref (ad 0)), (1, .int p0), (2, .int p1), (3, .ref (ad 70))]) hx hb dL_average_17 hl (by decide) rfl (fun ls hl => ?_)
      refine lv_iconst (v := 2) hx hb dL_average_19 (by decide) ?_
      refine W.widen (k := 3) (n := 18) (Nat.le_of_ble_eq_true rfl) (Nat.le_of_ble_eq_true rfl) ?_
      exact W.iret (v := 2) hx hb hr (fun t ht hW => ⟨⟨2, wl Ls ad G, rfl, Or.inr (Or.inr (⟨hp9, rfl, rfl⟩)), by rw [ht]; exact hP9, hD⟩, hS9.F ht⟩) hS9.2.2 dL_average_20
  · obtain ⟨hP, hD⟩ := hB
    rw [ht] at hP
    obtain ⟨Ls2, ad2, G2, rfl, h70, ea70, eG70, hw2⟩ := hpost v u hw
    refine lv_i2l hx hb dL_average_8 rfl ?_
    rw [← ea70]
    refine pv_last hx hb hK hP hD hS h70 4 (eG70.trans hOut.2) rfl (k := 0) rfl (by decide) (by decide) dL_average_9 (fun H locs hP hD hS => ?_)
    refine lv_goto (tgt := 21) hx hb dL_average_10 (by decide) ?_
    refine lv_iconst (v := 0) hx hb dL_average_21 (by decide) ?_
    refine W.widen (k := 3) (n := 18) (Nat.le_of_ble_eq_true rfl) (Nat.le_of_ble_eq_true rfl) ?_
    exact W.iret (v := 0) hx hb hr (fun t ht hW => ⟨⟨0, wl Ls2 ad2 (outG y G2 lo v.toInt64), rfl, Or.inl ⟨rfl, v, Ls2, ad2, G2, hw2, h70, ea70, rfl⟩, by rw [ht]; exact hP, hD⟩, hS.F ht⟩) hS.2.2 dL_average_22

set_option maxHeartbeats 4000000 in
set_option maxRecDepth 100000 in
theorem c_L_bill (l : Launch) (D : va_G) (y : Nat → ClassId) (b0 df mi : Nat) (Ls : List Nat) (ad : Nat → Nat) (G : Nat → va_E) (lo : Nat → Int64) (hOut : OutAt y Ls G lo) {fs : List Value} (hX0 : 0 ∈ Ls) (eX0 : G 0 = .inr (9, fs)) (p0 p1 : Int32) {post : Int32 → va_W → Prop} {px : Nat → Prop} {post2 : Int32 → List Nat → (Nat → Nat) → (Nat → va_E) → Prop}
    (hM : vx_Met l yX7_bill wsX7_bill ({ frames := 8, cells := 4, slots := 1016, locals := 212 }) (va_Pc [.ref (ad 0), .int p0, .int p1] (WdL D y b0 df mi (wl Ls ad G))) (va_Qi post (WB D b0) (fun q => b0 ≤ q)) (XX D b0 (wl Ls ad G) px) 4 1016 (fun q => b0 ≤ q))
    (hpost : ∀ r u, post r u → ∃ Ls2 ad2 G2, u = wl Ls2 ad2 G2 ∧ 70 ∈ Ls2 ∧ ad2 70 = ad 70 ∧ G2 70 = G 70 ∧ post2 r Ls2 ad2 G2) (hpx : ∀ k, px k → k = 0 ∨ k = 3) :
    Met l yL_bill wsL_bill ({ frames := 9, cells := 4, slots := 1016, locals := 235 }) (va_Pc [.ref (ad 0), .int p0, .int p1, .ref (ad 70)] (WdC D y b0 df mi (wl Ls ad G))) (va_Qi (fun (r : Int32) (u : va_W) => wRet y ad lo post2 (fun v => v.toInt64) r u ∨ (px 0 ∧ r = 1 ∧ u = wl Ls ad G) ∨ (px 3 ∧ r = 2 ∧ u = wl Ls ad G)) (WB D b0) (fun q => b0 ≤ q)) 4 1016 (fun q => b0 ≤ q) := by
  refine va_MetW (cc := cL_bill) (maxL := 5) (ret := (some .int)) (by decide) rfl ?_
  intro p e s m args below meth c s₁ B hml hv
  obtain ⟨rfl, ⟨⟨⟨hP, hK, hN⟩, hD, hb0, hT⟩, hLs⟩, hNc⟩ := hv
  have hx := B.exec
  have hb := B.bytes
  have hr := B.returns
  have hts := atoms_spec (ws := wsL_bill) B.pre
  have hown : s.vm.findClass RL = some m.cls := findClass_of_methodNamed B.named
  have htab : c.exceptionTable.toList = tableOf [(0, 10, 13, 13), (0, 10, 17, 27)] := vx_table (x := yL_bill) B (hts (.codeWith yL_bill cL_bill 5 (some .int) [(0, 10, 13, 13), (0, 10, 17, 27)]) List.mem_cons_self)
  have hS : va_S (fun q => b0 ≤ q) s.heap s.heap [] := va_S.rf
  have hl := lv_entry ([.ref (ad 0), .int p0, .int p1, .ref (ad 70)]) (n := 5) (Nat.le_of_ble_eq_true rfl)
  rw [lg_entry_eq]
  generalize (lg_sl ([.ref (ad 0), .int p0, .int p1, .ref (ad 70)]) ++ List.replicate (5 - (lg_sl ([.ref (ad 0), .int p0, .int p1, .ref (ad 70)])).length) Slot.unset).toArray = ls at hl ⊢
  have hl : lv_has ls 5 [(0, .ref (ad 0)), (1, .int p0), (2, .int p1), (3, .ref (ad 70))] := hl
  refine lv_aload_n hx hb dL_bill_0 rfl (lv_at hl 3 rfl) ?_
  refine lv_iconst (v := 0) hx hb dL_bill_1 (by decide) ?_
  refine lv_aload_n hx hb dL_bill_2 rfl (lv_at hl 0 rfl) ?_
  refine lv_iload_n hx hb dL_bill_3 rfl (lv_at hl 1 rfl) ?_
  refine lv_iload_n hx hb dL_bill_4 rfl (lv_at hl 2 rfl) ?_
  refine vx_calli (vx_runV (As := [.int p0, .int p1]) (rest := [.int 0, .ref (ad 70)]) ⟨hx, hb, hml, hown, hts⟩ hM (cwV 2 hts gL_bill_X7_bill rfl rfl rfl (by decide +kernel) ⟨(Nat.le_of_ble_eq_true rfl), (Nat.le_of_ble_eq_true rfl)⟩) ⟨WdL_blind, Wd_recv hK hP (ci := 9) rfl hX0 eX0, WdL_at hP hK hN hD hS hb0 hT hLs⟩ rfl rfl hl.1 rfl (lv_room (Nat.le_of_ble_eq_true rfl)) dL_bill_5 ⟨(Nat.le_of_ble_eq_true rfl), (Nat.le_of_ble_eq_true rfl)⟩) hS (fun _ _ h => h) (fun _ h => h) (fun _ _ h => h) (fun E9 ce9 q9 k9 t9 H9 locs9 ht9 hvm9 hp9 hB9 hz9 hk9 hS9 hce9 hcv9 hcl9 => ?_) (fun v u t H locs ht hvm hw hB hz1 hk1 hS => ?_)
  · obtain ⟨rfl, hP9⟩ := hB9
    rw [ht9] at hP9
    rcases hpx k9 hp9 with rfl | rfl
    · refine cx_catch (h := 13) hce9 hcv9 hcl9 (fun pl hpl k hk => by rw [htab]; exact cx_take (args := ([.ref (ad 0), .int p0, .int p1, .ref (ad 70)] : List Value).toArray) (own := RL) (nm := exN 0) hown hpl hk rfl (by decide) (hts (.classLink RL 13 (exN 0)) (by decide +kernel)) (va_Nw.use rfl (hT.2.2.1 (.castable (exN 0) (exN 0)) (by decide +kernel))) rfl) ?_
      refine lv_astore (lv' := [(4, .ref q9), (0, .ref (ad 0)), (1, .int p0), (2, .int p1), (3, .ref (ad 70))]) hx hb dL_bill_13 hl (by decide) rfl (fun ls hl => ?_)
      refine lv_iconst (v := 1) hx hb dL_bill_15 (by decide) ?_
      refine W.widen (k := 4) (n := 1016) (Nat.le_of_ble_eq_true rfl) (Nat.le_of_ble_eq_true rfl) ?_
      exact W.iret (v := 1) hx hb hr (fun t ht hW => ⟨⟨1, wl Ls ad G, rfl, Or.inr (Or.inl ⟨hp9, rfl, rfl⟩), by rw [ht]; exact hP9, hD⟩, hS9.F ht⟩) hS9.2.2 dL_bill_16
    · refine cx_catch (h := 17) hce9 hcv9 hcl9 (fun pl hpl k hk => by rw [htab]; exact cx_pass (args := ([.ref (ad 0), .int p0, .int p1, .ref (ad 70)] : List Value).toArray) (own := RL) (nm := exN 0) hown hpl hk rfl (by decide) (hts (.classLink RL 13 (exN 0)) (by decide +kernel)) (hNc (exN 3, exN 0) (by decide +kernel)) (cx_take (args := ([.ref (ad 0), .int p0, .int p1, .ref (ad 70)] : List Value).toArray) (own := RL) (nm := exN 3) hown hpl hk rfl (by decide) (hts (.classLink RL 27 (exN 3)) (by decide +kernel)) (va_Nw.use rfl (hT.2.2.1 (.castable (exN 3) (exN 3)) (by decide +kernel))) rfl)) ?_
      refine lv_astore (lv' := [(4, .ref q9), (0, .ref (ad 0)), (1, .int p0), (2, .int p1), (3, .ref (ad 70))]) hx hb dL_bill_17 hl (by decide) rfl (fun ls hl => ?_)
      refine lv_iconst (v := 2) hx hb dL_bill_19 (by decide) ?_
      refine W.widen (k := 4) (n := 1016) (Nat.le_of_ble_eq_true rfl) (Nat.le_of_ble_eq_true rfl) ?_
      exact W.iret (v := 2) hx hb hr (fun t ht hW => ⟨⟨2, wl Ls ad G, rfl, Or.inr (Or.inr (⟨hp9, rfl, rfl⟩)), by rw [ht]; exact hP9, hD⟩, hS9.F ht⟩) hS9.2.2 dL_bill_20
  · obtain ⟨hP, hD⟩ := hB
    rw [ht] at hP
    obtain ⟨Ls2, ad2, G2, rfl, h70, ea70, eG70, hw2⟩ := hpost v u hw
    refine lv_i2l hx hb dL_bill_8 rfl ?_
    rw [← ea70]
    refine pv_last hx hb hK hP hD hS h70 4 (eG70.trans hOut.2) rfl (k := 0) rfl (by decide) (by decide) dL_bill_9 (fun H locs hP hD hS => ?_)
    refine lv_goto (tgt := 21) hx hb dL_bill_10 (by decide) ?_
    refine lv_iconst (v := 0) hx hb dL_bill_21 (by decide) ?_
    refine W.widen (k := 4) (n := 1016) (Nat.le_of_ble_eq_true rfl) (Nat.le_of_ble_eq_true rfl) ?_
    exact W.iret (v := 0) hx hb hr (fun t ht hW => ⟨⟨0, wl Ls2 ad2 (outG y G2 lo v.toInt64), rfl, Or.inl ⟨rfl, v, Ls2, ad2, G2, hw2, h70, ea70, rfl⟩, by rw [ht]; exact hP, hD⟩, hS.F ht⟩) hS.2.2 dL_bill_22

set_option maxHeartbeats 4000000 in
set_option maxRecDepth 100000 in
theorem c_L_correct (l : Launch) (D : va_G) (y : Nat → ClassId) (b0 df mi : Nat) (Ls : List Nat) (ad : Nat → Nat) (G : Nat → va_E) (lo : Nat → Int64) (hOut : OutAt y Ls G lo) {fs : List Value} (hX0 : 0 ∈ Ls) (eX0 : G 0 = .inr (9, fs)) (p0 p1 : Int32) {post : Int32 → va_W → Prop} {px : Nat → Prop} {post2 : Int32 → List Nat → (Nat → Nat) → (Nat → va_E) → Prop}
    (hM : vx_Met l yX7_correct wsX7_correct ({ frames := 8, cells := 4, slots := 1016, locals := 212 }) (va_Pc [.ref (ad 0), .int p0, .int p1] (WdL D y b0 df mi (wl Ls ad G))) (va_Qi post (WB D b0) (fun q => b0 ≤ q)) (XX D b0 (wl Ls ad G) px) 4 1016 (fun q => b0 ≤ q))
    (hpost : ∀ r u, post r u → ∃ Ls2 ad2 G2, u = wl Ls2 ad2 G2 ∧ 70 ∈ Ls2 ∧ ad2 70 = ad 70 ∧ G2 70 = G 70 ∧ post2 r Ls2 ad2 G2) (hpx : ∀ k, px k → k = 0 ∨ k = 3) :
    Met l yL_correct wsL_correct ({ frames := 9, cells := 4, slots := 1016, locals := 235 }) (va_Pc [.ref (ad 0), .int p0, .int p1, .ref (ad 70)] (WdC D y b0 df mi (wl Ls ad G))) (va_Qi (fun (r : Int32) (u : va_W) => wRet y ad lo post2 (fun v => v.toInt64) r u ∨ (px 0 ∧ r = 1 ∧ u = wl Ls ad G) ∨ (px 3 ∧ r = 2 ∧ u = wl Ls ad G)) (WB D b0) (fun q => b0 ≤ q)) 4 1016 (fun q => b0 ≤ q) := by
  refine va_MetW (cc := cL_correct) (maxL := 5) (ret := (some .int)) (by decide) rfl ?_
  intro p e s m args below meth c s₁ B hml hv
  obtain ⟨rfl, ⟨⟨⟨hP, hK, hN⟩, hD, hb0, hT⟩, hLs⟩, hNc⟩ := hv
  have hx := B.exec
  have hb := B.bytes
  have hr := B.returns
  have hts := atoms_spec (ws := wsL_correct) B.pre
  have hown : s.vm.findClass RL = some m.cls := findClass_of_methodNamed B.named
  have htab : c.exceptionTable.toList = tableOf [(0, 10, 13, 13), (0, 10, 17, 27)] := vx_table (x := yL_correct) B (hts (.codeWith yL_correct cL_correct 5 (some .int) [(0, 10, 13, 13), (0, 10, 17, 27)]) List.mem_cons_self)
  have hS : va_S (fun q => b0 ≤ q) s.heap s.heap [] := va_S.rf
  have hl := lv_entry ([.ref (ad 0), .int p0, .int p1, .ref (ad 70)]) (n := 5) (Nat.le_of_ble_eq_true rfl)
  rw [lg_entry_eq]
  generalize (lg_sl ([.ref (ad 0), .int p0, .int p1, .ref (ad 70)]) ++ List.replicate (5 - (lg_sl ([.ref (ad 0), .int p0, .int p1, .ref (ad 70)])).length) Slot.unset).toArray = ls at hl ⊢
  have hl : lv_has ls 5 [(0, .ref (ad 0)), (1, .int p0), (2, .int p1), (3, .ref (ad 70))] := hl
  refine lv_aload_n hx hb dL_correct_0 rfl (lv_at hl 3 rfl) ?_
  refine lv_iconst (v := 0) hx hb dL_correct_1 (by decide) ?_
  refine lv_aload_n hx hb dL_correct_2 rfl (lv_at hl 0 rfl) ?_
  refine lv_iload_n hx hb dL_correct_3 rfl (lv_at hl 1 rfl) ?_
  refine lv_iload_n hx hb dL_correct_4 rfl (lv_at hl 2 rfl) ?_
  refine vx_calli (vx_runV (As := [.int p0, .int p1]) (rest := [.int 0, .ref (ad 70)]) ⟨hx, hb, hml, hown, hts⟩ hM (cwV 2 hts gL_correct_X7_correct rfl rfl rfl (by decide +kernel) ⟨(Nat.le_of_ble_eq_true rfl), (Nat.le_of_ble_eq_true rfl)⟩) ⟨WdL_blind, Wd_recv hK hP (ci := 9) rfl hX0 eX0, WdL_at hP hK hN hD hS hb0 hT hLs⟩ rfl rfl hl.1 rfl (lv_room (Nat.le_of_ble_eq_true rfl)) dL_correct_5 ⟨(Nat.le_of_ble_eq_true rfl), (Nat.le_of_ble_eq_true rfl)⟩) hS (fun _ _ h => h) (fun _ h => h) (fun _ _ h => h) (fun E9 ce9 q9 k9 t9 H9 locs9 ht9 hvm9 hp9 hB9 hz9 hk9 hS9 hce9 hcv9 hcl9 => ?_) (fun v u t H locs ht hvm hw hB hz1 hk1 hS => ?_)
  · obtain ⟨rfl, hP9⟩ := hB9
    rw [ht9] at hP9
    rcases hpx k9 hp9 with rfl | rfl
    · refine cx_catch (h := 13) hce9 hcv9 hcl9 (fun pl hpl k hk => by rw [htab]; exact cx_take (args := ([.ref (ad 0), .int p0, .int p1, .ref (ad 70)] : List Value).toArray) (own := RL) (nm := exN 0) hown hpl hk rfl (by decide) (hts (.classLink RL 13 (exN 0)) (by decide +kernel)) (va_Nw.use rfl (hT.2.2.1 (.castable (exN 0) (exN 0)) (by decide +kernel))) rfl) ?_
      refine lv_astore (lv' := [(4, .ref q9), (0, .ref (ad 0)), (1, .int p0), (2, .int p1), (3, .ref (ad 70))]) hx hb dL_correct_13 hl (by decide) rfl (fun ls hl => ?_)
      refine lv_iconst (v := 1) hx hb dL_correct_15 (by decide) ?_
      refine W.widen (k := 4) (n := 1016) (Nat.le_of_ble_eq_true rfl) (Nat.le_of_ble_eq_true rfl) ?_
      exact W.iret (v := 1) hx hb hr (fun t ht hW => ⟨⟨1, wl Ls ad G, rfl, Or.inr (Or.inl ⟨hp9, rfl, rfl⟩), by rw [ht]; exact hP9, hD⟩, hS9.F ht⟩) hS9.2.2 dL_correct_16
    · refine cx_catch (h := 17) hce9 hcv9 hcl9 (fun pl hpl k hk => by rw [htab]; exact cx_pass (args := ([.ref (ad 0), .int p0, .int p1, .ref (ad 70)] : List Value).toArray) (own := RL) (nm := exN 0) hown hpl hk rfl (by decide) (hts (.classLink RL 13 (exN 0)) (by decide +kernel)) (hNc (exN 3, exN 0) (by decide +kernel)) (cx_take (args := ([.ref (ad 0), .int p0, .int p1, .ref (ad 70)] : List Value).toArray) (own := RL) (nm := exN 3) hown hpl hk rfl (by decide) (hts (.classLink RL 27 (exN 3)) (by decide +kernel)) (va_Nw.use rfl (hT.2.2.1 (.castable (exN 3) (exN 3)) (by decide +kernel))) rfl)) ?_
      refine lv_astore (lv' := [(4, .ref q9), (0, .ref (ad 0)), (1, .int p0), (2, .int p1), (3, .ref (ad 70))]) hx hb dL_correct_17 hl (by decide) rfl (fun ls hl => ?_)
      refine lv_iconst (v := 2) hx hb dL_correct_19 (by decide) ?_
      refine W.widen (k := 4) (n := 1016) (Nat.le_of_ble_eq_true rfl) (Nat.le_of_ble_eq_true rfl) ?_
      exact W.iret (v := 2) hx hb hr (fun t ht hW => ⟨⟨2, wl Ls ad G, rfl, Or.inr (Or.inr (⟨hp9, rfl, rfl⟩)), by rw [ht]; exact hP9, hD⟩, hS9.F ht⟩) hS9.2.2 dL_correct_20
  · obtain ⟨hP, hD⟩ := hB
    rw [ht] at hP
    obtain ⟨Ls2, ad2, G2, rfl, h70, ea70, eG70, hw2⟩ := hpost v u hw
    refine lv_i2l hx hb dL_correct_8 rfl ?_
    rw [← ea70]
    refine pv_last hx hb hK hP hD hS h70 4 (eG70.trans hOut.2) rfl (k := 0) rfl (by decide) (by decide) dL_correct_9 (fun H locs hP hD hS => ?_)
    refine lv_goto (tgt := 21) hx hb dL_correct_10 (by decide) ?_
    refine lv_iconst (v := 0) hx hb dL_correct_21 (by decide) ?_
    refine W.widen (k := 4) (n := 1016) (Nat.le_of_ble_eq_true rfl) (Nat.le_of_ble_eq_true rfl) ?_
    exact W.iret (v := 0) hx hb hr (fun t ht hW => ⟨⟨0, wl Ls2 ad2 (outG y G2 lo v.toInt64), rfl, Or.inl ⟨rfl, v, Ls2, ad2, G2, hw2, h70, ea70, rfl⟩, by rw [ht]; exact hP, hD⟩, hS.F ht⟩) hS.2.2 dL_correct_22

set_option maxHeartbeats 4000000 in
set_option maxRecDepth 100000 in
theorem c_L_line (l : Launch) (D : va_G) (y : Nat → ClassId) (b0 df mi : Nat) (Ls : List Nat) (ad : Nat → Nat) (G : Nat → va_E) (lo : Nat → Int64) (hOut : OutAt y Ls G lo) {fs : List Value} (hX0 : 0 ∈ Ls) (eX0 : G 0 = .inr (9, fs)) (p0 p1 p2 : Int32) {post : Int32 → va_W → Prop} {px : Nat → Prop} {post2 : Int32 → List Nat → (Nat → Nat) → (Nat → va_E) → Prop}
    (hM : vx_Met l yX7_line wsX7_line ({ frames := 7, cells := 2, slots := 12, locals := 102 }) (va_Pc [.ref (ad 0), .int p0, .int p1, .int p2] (WdM D y b0 (wl Ls ad G))) (va_Qi post (WB D b0) (fun q => b0 ≤ q)) (XX D b0 (wl Ls ad G) px) 2 12 (fun q => b0 ≤ q))
    (hpost : ∀ r u, post r u → ∃ Ls2 ad2 G2, u = wl Ls2 ad2 G2 ∧ 70 ∈ Ls2 ∧ ad2 70 = ad 70 ∧ G2 70 = G 70 ∧ post2 r Ls2 ad2 G2) (hpx : ∀ k, px k → k = 0 ∨ k = 2) :
    Met l yL_line wsL_line ({ frames := 8, cells := 2, slots := 12, locals := 126 }) (va_Pc [.ref (ad 0), .int p0, .int p1, .int p2, .ref (ad 70)] (WdC D y b0 df mi (wl Ls ad G))) (va_Qi (fun (r : Int32) (u : va_W) => wRet y ad lo post2 (fun v => v.toInt64) r u ∨ (px 2 ∧ r = 1 ∧ u = wl Ls ad G) ∨ (px 0 ∧ r = 2 ∧ u = wl Ls ad G)) (WB D b0) (fun q => b0 ≤ q)) 2 12 (fun q => b0 ≤ q) := by
  refine va_MetW (cc := cL_line) (maxL := 6) (ret := (some .int)) (by decide) rfl ?_
  intro p e s m args below meth c s₁ B hml hv
  obtain ⟨rfl, ⟨⟨⟨hP, hK, hN⟩, hD, hb0, hT⟩, hLs⟩, hNc⟩ := hv
  have hx := B.exec
  have hb := B.bytes
  have hr := B.returns
  have hts := atoms_spec (ws := wsL_line) B.pre
  have hown : s.vm.findClass RL = some m.cls := findClass_of_methodNamed B.named
  have htab : c.exceptionTable.toList = tableOf [(0, 12, 15, 25), (0, 12, 19, 13)] := vx_table (x := yL_line) B (hts (.codeWith yL_line cL_line 6 (some .int) [(0, 12, 15, 25), (0, 12, 19, 13)]) List.mem_cons_self)
  have hS : va_S (fun q => b0 ≤ q) s.heap s.heap [] := va_S.rf
  have hl := lv_entry ([.ref (ad 0), .int p0, .int p1, .int p2, .ref (ad 70)]) (n := 6) (Nat.le_of_ble_eq_true rfl)
  rw [lg_entry_eq]
  generalize (lg_sl ([.ref (ad 0), .int p0, .int p1, .int p2, .ref (ad 70)]) ++ List.replicate (6 - (lg_sl ([.ref (ad 0), .int p0, .int p1, .int p2, .ref (ad 70)])).length) Slot.unset).toArray = ls at hl ⊢
  have hl : lv_has ls 6 [(0, .ref (ad 0)), (1, .int p0), (2, .int p1), (3, .int p2), (4, .ref (ad 70))] := hl
  refine lv_aload hx hb dL_line_0 (lv_at hl 4 rfl) ?_
  refine lv_iconst (v := 0) hx hb dL_line_2 (by decide) ?_
  refine lv_aload_n hx hb dL_line_3 rfl (lv_at hl 0 rfl) ?_
  refine lv_iload_n hx hb dL_line_4 rfl (lv_at hl 1 rfl) ?_
  refine lv_iload_n hx hb dL_line_5 rfl (lv_at hl 2 rfl) ?_
  refine lv_iload_n hx hb dL_line_6 rfl (lv_at hl 3 rfl) ?_
  refine vx_calli (vx_runV (As := [.int p0, .int p1, .int p2]) (rest := [.int 0, .ref (ad 70)]) ⟨hx, hb, hml, hown, hts⟩ hM (cwV 3 hts gL_line_X7_line rfl rfl rfl (by decide +kernel) ⟨(Nat.le_of_ble_eq_true rfl), (Nat.le_of_ble_eq_true rfl)⟩) ⟨WdM_blind, Wd_recv hK hP (ci := 9) rfl hX0 eX0, WdM_at hP hK hN hD hS hb0 hT⟩ rfl rfl hl.1 rfl (lv_room (Nat.le_of_ble_eq_true rfl)) dL_line_7 ⟨(Nat.le_of_ble_eq_true rfl), (Nat.le_of_ble_eq_true rfl)⟩) hS (fun _ _ h => h) (fun _ h => h) (fun _ _ h => h) (fun E9 ce9 q9 k9 t9 H9 locs9 ht9 hvm9 hp9 hB9 hz9 hk9 hS9 hce9 hcv9 hcl9 => ?_) (fun v u t H locs ht hvm hw hB hz1 hk1 hS => ?_)
  · obtain ⟨rfl, hP9⟩ := hB9
    rw [ht9] at hP9
    rcases hpx k9 hp9 with rfl | rfl
    · refine cx_catch (h := 19) hce9 hcv9 hcl9 (fun pl hpl k hk => by rw [htab]; exact cx_pass (args := ([.ref (ad 0), .int p0, .int p1, .int p2, .ref (ad 70)] : List Value).toArray) (own := RL) (nm := exN 2) hown hpl hk rfl (by decide) (hts (.classLink RL 25 (exN 2)) (by decide +kernel)) (hNc (exN 0, exN 2) (by decide +kernel)) (cx_take (args := ([.ref (ad 0), .int p0, .int p1, .int p2, .ref (ad 70)] : List Value).toArray) (own := RL) (nm := exN 0) hown hpl hk rfl (by decide) (hts (.classLink RL 13 (exN 0)) (by decide +kernel)) (va_Nw.use rfl (hT.2.2.1 (.castable (exN 0) (exN 0)) (by decide +kernel))) rfl)) ?_
      refine lv_astore (lv' := [(5, .ref q9), (0, .ref (ad 0)), (1, .int p0), (2, .int p1), (3, .int p2), (4, .ref (ad 70))]) hx hb dL_line_19 hl (by decide) rfl (fun ls hl => ?_)
      refine lv_iconst (v := 2) hx hb dL_line_21 (by decide) ?_
      refine W.widen (k := 2) (n := 12) (Nat.le_of_ble_eq_true rfl) (Nat.le_of_ble_eq_true rfl) ?_
      exact W.iret (v := 2) hx hb hr (fun t ht hW => ⟨⟨2, wl Ls ad G, rfl, Or.inr (Or.inr (⟨hp9, rfl, rfl⟩)), by rw [ht]; exact hP9, hD⟩, hS9.F ht⟩) hS9.2.2 dL_line_22
    · refine cx_catch (h := 15) hce9 hcv9 hcl9 (fun pl hpl k hk => by rw [htab]; exact cx_take (args := ([.ref (ad 0), .int p0, .int p1, .int p2, .ref (ad 70)] : List Value).toArray) (own := RL) (nm := exN 2) hown hpl hk rfl (by decide) (hts (.classLink RL 25 (exN 2)) (by decide +kernel)) (va_Nw.use rfl (hT.2.2.1 (.castable (exN 2) (exN 2)) (by decide +kernel))) rfl) ?_
      refine lv_astore (lv' := [(5, .ref q9), (0, .ref (ad 0)), (1, .int p0), (2, .int p1), (3, .int p2), (4, .ref (ad 70))]) hx hb dL_line_15 hl (by decide) rfl (fun ls hl => ?_)
      refine lv_iconst (v := 1) hx hb dL_line_17 (by decide) ?_
      refine W.widen (k := 2) (n := 12) (Nat.le_of_ble_eq_true rfl) (Nat.le_of_ble_eq_true rfl) ?_
      exact W.iret (v := 1) hx hb hr (fun t ht hW => ⟨⟨1, wl Ls ad G, rfl, Or.inr (Or.inl ⟨hp9, rfl, rfl⟩), by rw [ht]; exact hP9, hD⟩, hS9.F ht⟩) hS9.2.2 dL_line_18
  · obtain ⟨hP, hD⟩ := hB
    rw [ht] at hP
    obtain ⟨Ls2, ad2, G2, rfl, h70, ea70, eG70, hw2⟩ := hpost v u hw
    refine lv_i2l hx hb dL_line_10 rfl ?_
    rw [← ea70]
    refine pv_last hx hb hK hP hD hS h70 4 (eG70.trans hOut.2) rfl (k := 0) rfl (by decide) (by decide) dL_line_11 (fun H locs hP hD hS => ?_)
    refine lv_goto (tgt := 23) hx hb dL_line_12 (by decide) ?_
    refine lv_iconst (v := 0) hx hb dL_line_23 (by decide) ?_
    refine W.widen (k := 2) (n := 12) (Nat.le_of_ble_eq_true rfl) (Nat.le_of_ble_eq_true rfl) ?_
    exact W.iret (v := 0) hx hb hr (fun t ht hW => ⟨⟨0, wl Ls2 ad2 (outG y G2 lo v.toInt64), rfl, Or.inl ⟨rfl, v, Ls2, ad2, G2, hw2, h70, ea70, rfl⟩, by rw [ht]; exact hP, hD⟩, hS.F ht⟩) hS.2.2 dL_line_24

set_option maxHeartbeats 4000000 in
set_option maxRecDepth 100000 in
theorem c_L_billed (l : Launch) (D : va_G) (y : Nat → ClassId) (b0 df mi : Nat) (Ls : List Nat) (ad : Nat → Nat) (G : Nat → va_E) (lo : Nat → Int64) (hOut : OutAt y Ls G lo) {fs : List Value} (hX0 : 0 ∈ Ls) (eX0 : G 0 = .inr (9, fs)) (p0 : Int32) {post : Int32 → va_W → Prop} {px : Nat → Prop} {post2 : Int32 → List Nat → (Nat → Nat) → (Nat → va_E) → Prop}
    (hM : vx_Met l yX7_billed wsX7_billed ({ frames := 7, cells := 1, slots := 6, locals := 102 }) (va_Pc [.ref (ad 0), .int p0] (WdM D y b0 (wl Ls ad G))) (va_Qi post (WB D b0) (fun q => b0 ≤ q)) (XX D b0 (wl Ls ad G) px) 1 6 (fun q => b0 ≤ q))
    (hpost : ∀ r u, post r u → ∃ Ls2 ad2 G2, u = wl Ls2 ad2 G2 ∧ 70 ∈ Ls2 ∧ ad2 70 = ad 70 ∧ G2 70 = G 70 ∧ post2 r Ls2 ad2 G2) (hpx : ∀ k, px k → k = 0) :
    Met l yL_billed wsL_billed ({ frames := 8, cells := 1, slots := 6, locals := 123 }) (va_Pc [.ref (ad 0), .int p0, .ref (ad 70)] (WdC D y b0 df mi (wl Ls ad G))) (va_Qi (fun (r : Int32) (u : va_W) => wRet y ad lo post2 (fun v => v.toInt64) r u ∨ (px 0 ∧ r = 1 ∧ u = wl Ls ad G)) (WB D b0) (fun q => b0 ≤ q)) 1 6 (fun q => b0 ≤ q) := by
  refine va_MetW (cc := cL_billed) (maxL := 4) (ret := (some .int)) (by decide) rfl ?_
  intro p e s m args below meth c s₁ B hml hv
  obtain ⟨rfl, ⟨⟨⟨hP, hK, hN⟩, hD, hb0, hT⟩, hLs⟩, hNc⟩ := hv
  have hx := B.exec
  have hb := B.bytes
  have hr := B.returns
  have hts := atoms_spec (ws := wsL_billed) B.pre
  have hown : s.vm.findClass RL = some m.cls := findClass_of_methodNamed B.named
  have htab : c.exceptionTable.toList = tableOf [(0, 9, 12, 13)] := vx_table (x := yL_billed) B (hts (.codeWith yL_billed cL_billed 4 (some .int) [(0, 9, 12, 13)]) List.mem_cons_self)
  have hS : va_S (fun q => b0 ≤ q) s.heap s.heap [] := va_S.rf
  have hl := lv_entry ([.ref (ad 0), .int p0, .ref (ad 70)]) (n := 4) (Nat.le_of_ble_eq_true rfl)
  rw [lg_entry_eq]
  generalize (lg_sl ([.ref (ad 0), .int p0, .ref (ad 70)]) ++ List.replicate (4 - (lg_sl ([.ref (ad 0), .int p0, .ref (ad 70)])).length) Slot.unset).toArray = ls at hl ⊢
  have hl : lv_has ls 4 [(0, .ref (ad 0)), (1, .int p0), (2, .ref (ad 70))] := hl
  refine lv_aload_n hx hb dL_billed_0 rfl (lv_at hl 2 rfl) ?_
  refine lv_iconst (v := 0) hx hb dL_billed_1 (by decide) ?_
  refine lv_aload_n hx hb dL_billed_2 rfl (lv_at hl 0 rfl) ?_
  refine lv_iload_n hx hb dL_billed_3 rfl (lv_at hl 1 rfl) ?_
  refine vx_calli (vx_runV (As := [.int p0]) (rest := [.int 0, .ref (ad 70)]) ⟨hx, hb, hml, hown, hts⟩ hM (cwV 1 hts gL_billed_X7_billed rfl rfl rfl (by decide +kernel) ⟨(Nat.le_of_ble_eq_true rfl), (Nat.le_of_ble_eq_true rfl)⟩) ⟨WdM_blind, Wd_recv hK hP (ci := 9) rfl hX0 eX0, WdM_at hP hK hN hD hS hb0 hT⟩ rfl rfl hl.1 rfl (lv_room (Nat.le_of_ble_eq_true rfl)) dL_billed_4 ⟨(Nat.le_of_ble_eq_true rfl), (Nat.le_of_ble_eq_true rfl)⟩) hS (fun _ _ h => h) (fun _ h => h) (fun _ _ h => h) (fun E9 ce9 q9 k9 t9 H9 locs9 ht9 hvm9 hp9 hB9 hz9 hk9 hS9 hce9 hcv9 hcl9 => ?_) (fun v u t H locs ht hvm hw hB hz1 hk1 hS => ?_)
  · obtain ⟨rfl, hP9⟩ := hB9
    rw [ht9] at hP9
    rcases hpx k9 hp9 with rfl
    · refine cx_catch (h := 12) hce9 hcv9 hcl9 (fun pl hpl k hk => by rw [htab]; exact cx_take (args := ([.ref (ad 0), .int p0, .ref (ad 70)] : List Value).toArray) (own := RL) (nm := exN 0) hown hpl hk rfl (by decide) (hts (.classLink RL 13 (exN 0)) (by decide +kernel)) (va_Nw.use rfl (hT.2.2.1 (.castable (exN 0) (exN 0)) (by decide +kernel))) rfl) ?_
      refine lv_astore_n (lv' := [(3, .ref q9), (0, .ref (ad 0)), (1, .int p0), (2, .ref (ad 70))]) hx hb dL_billed_12 rfl hl (by decide) rfl (fun ls hl => ?_)
      refine lv_iconst (v := 1) hx hb dL_billed_13 (by decide) ?_
      refine W.widen (k := 1) (n := 6) (Nat.le_of_ble_eq_true rfl) (Nat.le_of_ble_eq_true rfl) ?_
      exact W.iret (v := 1) hx hb hr (fun t ht hW => ⟨⟨1, wl Ls ad G, rfl, Or.inr (⟨hp9, rfl, rfl⟩), by rw [ht]; exact hP9, hD⟩, hS9.F ht⟩) hS9.2.2 dL_billed_14
  · obtain ⟨hP, hD⟩ := hB
    rw [ht] at hP
    obtain ⟨Ls2, ad2, G2, rfl, h70, ea70, eG70, hw2⟩ := hpost v u hw
    refine lv_i2l hx hb dL_billed_7 rfl ?_
    rw [← ea70]
    refine pv_last hx hb hK hP hD hS h70 4 (eG70.trans hOut.2) rfl (k := 0) rfl (by decide) (by decide) dL_billed_8 (fun H locs hP hD hS => ?_)
    refine lv_goto (tgt := 15) hx hb dL_billed_9 (by decide) ?_
    refine lv_iconst (v := 0) hx hb dL_billed_15 (by decide) ?_
    refine W.widen (k := 1) (n := 6) (Nat.le_of_ble_eq_true rfl) (Nat.le_of_ble_eq_true rfl) ?_
    exact W.iret (v := 0) hx hb hr (fun t ht hW => ⟨⟨0, wl Ls2 ad2 (outG y G2 lo v.toInt64), rfl, Or.inl ⟨rfl, v, Ls2, ad2, G2, hw2, h70, ea70, rfl⟩, by rw [ht]; exact hP, hD⟩, hS.F ht⟩) hS.2.2 dL_billed_16

set_option maxHeartbeats 4000000 in
set_option maxRecDepth 100000 in
theorem c_L_compare (l : Launch) (D : va_G) (y : Nat → ClassId) (b0 df mi : Nat) (Ls : List Nat) (ad : Nat → Nat) (G : Nat → va_E) (lo : Nat → Int64) (hOut : OutAt y Ls G lo) {fs : List Value} (hX0 : 0 ∈ Ls) (eX0 : G 0 = .inr (9, fs)) (p0 p1 p2 : Int32) {post : Int32 → va_W → Prop} {px : Nat → Prop} {post2 : Int32 → List Nat → (Nat → Nat) → (Nat → va_E) → Prop}
    (hM : vx_Met l yX7_compare wsX7_compare ({ frames := 7, cells := 3, slots := 18, locals := 142 }) (va_Pc [.ref (ad 0), .int p0, .int p1, .int p2] (WdM D y b0 (wl Ls ad G))) (va_Qi post (WB D b0) (fun q => b0 ≤ q)) (XX D b0 (wl Ls ad G) px) 3 18 (fun q => b0 ≤ q))
    (hpost : ∀ r u, post r u → ∃ Ls2 ad2 G2, u = wl Ls2 ad2 G2 ∧ 70 ∈ Ls2 ∧ ad2 70 = ad 70 ∧ G2 70 = G 70 ∧ post2 r Ls2 ad2 G2) (hpx : ∀ k, px k → k = 0) :
    Met l yL_compare wsL_compare ({ frames := 8, cells := 3, slots := 18, locals := 165 }) (va_Pc [.ref (ad 0), .int p0, .int p1, .int p2, .ref (ad 70)] (WdC D y b0 df mi (wl Ls ad G))) (va_Qi (fun (r : Int32) (u : va_W) => wRet y ad lo post2 (fun v => v.toInt64) r u ∨ (px 0 ∧ r = 1 ∧ u = wl Ls ad G)) (WB D b0) (fun q => b0 ≤ q)) 3 18 (fun q => b0 ≤ q) := by
  refine va_MetW (cc := cL_compare) (maxL := 6) (ret := (some .int)) (by decide) rfl ?_
  intro p e s m args below meth c s₁ B hml hv
  obtain ⟨rfl, ⟨⟨⟨hP, hK, hN⟩, hD, hb0, hT⟩, hLs⟩, hNc⟩ := hv
  have hx := B.exec
  have hb := B.bytes
  have hr := B.returns
  have hts := atoms_spec (ws := wsL_compare) B.pre
  have hown : s.vm.findClass RL = some m.cls := findClass_of_methodNamed B.named
  have htab : c.exceptionTable.toList = tableOf [(0, 12, 15, 13)] := vx_table (x := yL_compare) B (hts (.codeWith yL_compare cL_compare 6 (some .int) [(0, 12, 15, 13)]) List.mem_cons_self)
  have hS : va_S (fun q => b0 ≤ q) s.heap s.heap [] := va_S.rf
  have hl := lv_entry ([.ref (ad 0), .int p0, .int p1, .int p2, .ref (ad 70)]) (n := 6) (Nat.le_of_ble_eq_true rfl)
  rw [lg_entry_eq]
  generalize (lg_sl ([.ref (ad 0), .int p0, .int p1, .int p2, .ref (ad 70)]) ++ List.replicate (6 - (lg_sl ([.ref (ad 0), .int p0, .int p1, .int p2, .ref (ad 70)])).length) Slot.unset).toArray = ls at hl ⊢
  have hl : lv_has ls 6 [(0, .ref (ad 0)), (1, .int p0), (2, .int p1), (3, .int p2), (4, .ref (ad 70))] := hl
  refine lv_aload hx hb dL_compare_0 (lv_at hl 4 rfl) ?_
  refine lv_iconst (v := 0) hx hb dL_compare_2 (by decide) ?_
  refine lv_aload_n hx hb dL_compare_3 rfl (lv_at hl 0 rfl) ?_
  refine lv_iload_n hx hb dL_compare_4 rfl (lv_at hl 1 rfl) ?_
  refine lv_iload_n hx hb dL_compare_5 rfl (lv_at hl 2 rfl) ?_
  refine lv_iload_n hx hb dL_compare_6 rfl (lv_at hl 3 rfl) ?_
  refine vx_calli (vx_runV (As := [.int p0, .int p1, .int p2]) (rest := [.int 0, .ref (ad 70)]) ⟨hx, hb, hml, hown, hts⟩ hM (cwV 3 hts gL_compare_X7_compare rfl rfl rfl (by decide +kernel) ⟨(Nat.le_of_ble_eq_true rfl), (Nat.le_of_ble_eq_true rfl)⟩) ⟨WdM_blind, Wd_recv hK hP (ci := 9) rfl hX0 eX0, WdM_at hP hK hN hD hS hb0 hT⟩ rfl rfl hl.1 rfl (lv_room (Nat.le_of_ble_eq_true rfl)) dL_compare_7 ⟨(Nat.le_of_ble_eq_true rfl), (Nat.le_of_ble_eq_true rfl)⟩) hS (fun _ _ h => h) (fun _ h => h) (fun _ _ h => h) (fun E9 ce9 q9 k9 t9 H9 locs9 ht9 hvm9 hp9 hB9 hz9 hk9 hS9 hce9 hcv9 hcl9 => ?_) (fun v u t H locs ht hvm hw hB hz1 hk1 hS => ?_)
  · obtain ⟨rfl, hP9⟩ := hB9
    rw [ht9] at hP9
    rcases hpx k9 hp9 with rfl
    · refine cx_catch (h := 15) hce9 hcv9 hcl9 (fun pl hpl k hk => by rw [htab]; exact cx_take (args := ([.ref (ad 0), .int p0, .int p1, .int p2, .ref (ad 70)] : List Value).toArray) (own := RL) (nm := exN 0) hown hpl hk rfl (by decide) (hts (.classLink RL 13 (exN 0)) (by decide +kernel)) (va_Nw.use rfl (hT.2.2.1 (.castable (exN 0) (exN 0)) (by decide +kernel))) rfl) ?_
      refine lv_astore (lv' := [(5, .ref q9), (0, .ref (ad 0)), (1, .int p0), (2, .int p1), (3, .int p2), (4, .ref (ad 70))]) hx hb dL_compare_15 hl (by decide) rfl (fun ls hl => ?_)
      refine lv_iconst (v := 1) hx hb dL_compare_17 (by decide) ?_
      refine W.widen (k := 3) (n := 18) (Nat.le_of_ble_eq_true rfl) (Nat.le_of_ble_eq_true rfl) ?_
      exact W.iret (v := 1) hx hb hr (fun t ht hW => ⟨⟨1, wl Ls ad G, rfl, Or.inr (⟨hp9, rfl, rfl⟩), by rw [ht]; exact hP9, hD⟩, hS9.F ht⟩) hS9.2.2 dL_compare_18
  · obtain ⟨hP, hD⟩ := hB
    rw [ht] at hP
    obtain ⟨Ls2, ad2, G2, rfl, h70, ea70, eG70, hw2⟩ := hpost v u hw
    refine lv_i2l hx hb dL_compare_10 rfl ?_
    rw [← ea70]
    refine pv_last hx hb hK hP hD hS h70 4 (eG70.trans hOut.2) rfl (k := 0) rfl (by decide) (by decide) dL_compare_11 (fun H locs hP hD hS => ?_)
    refine lv_goto (tgt := 19) hx hb dL_compare_12 (by decide) ?_
    refine lv_iconst (v := 0) hx hb dL_compare_19 (by decide) ?_
    refine W.widen (k := 3) (n := 18) (Nat.le_of_ble_eq_true rfl) (Nat.le_of_ble_eq_true rfl) ?_
    exact W.iret (v := 0) hx hb hr (fun t ht hW => ⟨⟨0, wl Ls2 ad2 (outG y G2 lo v.toInt64), rfl, Or.inl ⟨rfl, v, Ls2, ad2, G2, hw2, h70, ea70, rfl⟩, by rw [ht]; exact hP, hD⟩, hS.F ht⟩) hS.2.2 dL_compare_20

set_option maxHeartbeats 4000000 in
set_option maxRecDepth 100000 in
theorem c_L_print (l : Launch) (D : va_G) (y : Nat → ClassId) (b0 df mi : Nat) (Ls : List Nat) (ad : Nat → Nat) (G : Nat → va_E) (lo : Nat → Int64) (hOut : OutAt y Ls G lo) {fs : List Value} (hX0 : 0 ∈ Ls) (eX0 : G 0 = .inr (9, fs)) (p0 : Int32) {post : Int32 → va_W → Prop} {px : Nat → Prop} {post2 : Int32 → List Nat → (Nat → Nat) → (Nat → va_E) → Prop}
    (hM : vx_Met l yX7_print wsX7_print ({ frames := 7, cells := 1, slots := 6, locals := 102 }) (va_Pc [.ref (ad 0), .int p0] (WdM D y b0 (wl Ls ad G))) (va_Qi post (WB D b0) (fun q => b0 ≤ q)) (XX D b0 (wl Ls ad G) px) 1 6 (fun q => b0 ≤ q))
    (hpost : ∀ r u, post r u → ∃ Ls2 ad2 G2, u = wl Ls2 ad2 G2 ∧ 70 ∈ Ls2 ∧ ad2 70 = ad 70 ∧ G2 70 = G 70 ∧ post2 r Ls2 ad2 G2) (hpx : ∀ k, px k → k = 0) :
    Met l yL_print wsL_print ({ frames := 8, cells := 1, slots := 6, locals := 125 }) (va_Pc [.ref (ad 0), .int p0, .ref (ad 70)] (WdC D y b0 df mi (wl Ls ad G))) (va_Qi (fun (r : Int32) (u : va_W) => wRet y ad lo post2 (fun v => v.toInt64) r u ∨ (px 0 ∧ r = 1 ∧ u = wl Ls ad G)) (WB D b0) (fun q => b0 ≤ q)) 1 6 (fun q => b0 ≤ q) := by
  refine va_MetW (cc := cL_print) (maxL := 4) (ret := (some .int)) (by decide) rfl ?_
  intro p e s m args below meth c s₁ B hml hv
  obtain ⟨rfl, ⟨⟨⟨hP, hK, hN⟩, hD, hb0, hT⟩, hLs⟩, hNc⟩ := hv
  have hx := B.exec
  have hb := B.bytes
  have hr := B.returns
  have hts := atoms_spec (ws := wsL_print) B.pre
  have hown : s.vm.findClass RL = some m.cls := findClass_of_methodNamed B.named
  have htab : c.exceptionTable.toList = tableOf [(0, 9, 12, 13)] := vx_table (x := yL_print) B (hts (.codeWith yL_print cL_print 4 (some .int) [(0, 9, 12, 13)]) List.mem_cons_self)
  have hS : va_S (fun q => b0 ≤ q) s.heap s.heap [] := va_S.rf
  have hl := lv_entry ([.ref (ad 0), .int p0, .ref (ad 70)]) (n := 4) (Nat.le_of_ble_eq_true rfl)
  rw [lg_entry_eq]
  generalize (lg_sl ([.ref (ad 0), .int p0, .ref (ad 70)]) ++ List.replicate (4 - (lg_sl ([.ref (ad 0), .int p0, .ref (ad 70)])).length) Slot.unset).toArray = ls at hl ⊢
  have hl : lv_has ls 4 [(0, .ref (ad 0)), (1, .int p0), (2, .ref (ad 70))] := hl
  refine lv_aload_n hx hb dL_print_0 rfl (lv_at hl 2 rfl) ?_
  refine lv_iconst (v := 0) hx hb dL_print_1 (by decide) ?_
  refine lv_aload_n hx hb dL_print_2 rfl (lv_at hl 0 rfl) ?_
  refine lv_iload_n hx hb dL_print_3 rfl (lv_at hl 1 rfl) ?_
  refine vx_calli (vx_runV (As := [.int p0]) (rest := [.int 0, .ref (ad 70)]) ⟨hx, hb, hml, hown, hts⟩ hM (cwV 1 hts gL_print_X7_print rfl rfl rfl (by decide +kernel) ⟨(Nat.le_of_ble_eq_true rfl), (Nat.le_of_ble_eq_true rfl)⟩) ⟨WdM_blind, Wd_recv hK hP (ci := 9) rfl hX0 eX0, WdM_at hP hK hN hD hS hb0 hT⟩ rfl rfl hl.1 rfl (lv_room (Nat.le_of_ble_eq_true rfl)) dL_print_4 ⟨(Nat.le_of_ble_eq_true rfl), (Nat.le_of_ble_eq_true rfl)⟩) hS (fun _ _ h => h) (fun _ h => h) (fun _ _ h => h) (fun E9 ce9 q9 k9 t9 H9 locs9 ht9 hvm9 hp9 hB9 hz9 hk9 hS9 hce9 hcv9 hcl9 => ?_) (fun v u t H locs ht hvm hw hB hz1 hk1 hS => ?_)
  · obtain ⟨rfl, hP9⟩ := hB9
    rw [ht9] at hP9
    rcases hpx k9 hp9 with rfl
    · refine cx_catch (h := 12) hce9 hcv9 hcl9 (fun pl hpl k hk => by rw [htab]; exact cx_take (args := ([.ref (ad 0), .int p0, .ref (ad 70)] : List Value).toArray) (own := RL) (nm := exN 0) hown hpl hk rfl (by decide) (hts (.classLink RL 13 (exN 0)) (by decide +kernel)) (va_Nw.use rfl (hT.2.2.1 (.castable (exN 0) (exN 0)) (by decide +kernel))) rfl) ?_
      refine lv_astore_n (lv' := [(3, .ref q9), (0, .ref (ad 0)), (1, .int p0), (2, .ref (ad 70))]) hx hb dL_print_12 rfl hl (by decide) rfl (fun ls hl => ?_)
      refine lv_iconst (v := 1) hx hb dL_print_13 (by decide) ?_
      refine W.widen (k := 1) (n := 6) (Nat.le_of_ble_eq_true rfl) (Nat.le_of_ble_eq_true rfl) ?_
      exact W.iret (v := 1) hx hb hr (fun t ht hW => ⟨⟨1, wl Ls ad G, rfl, Or.inr (⟨hp9, rfl, rfl⟩), by rw [ht]; exact hP9, hD⟩, hS9.F ht⟩) hS9.2.2 dL_print_14
  · obtain ⟨hP, hD⟩ := hB
    rw [ht] at hP
    obtain ⟨Ls2, ad2, G2, rfl, h70, ea70, eG70, hw2⟩ := hpost v u hw
    refine lv_i2l hx hb dL_print_7 rfl ?_
    rw [← ea70]
    refine pv_last hx hb hK hP hD hS h70 4 (eG70.trans hOut.2) rfl (k := 0) rfl (by decide) (by decide) dL_print_8 (fun H locs hP hD hS => ?_)
    refine lv_goto (tgt := 15) hx hb dL_print_9 (by decide) ?_
    refine lv_iconst (v := 0) hx hb dL_print_15 (by decide) ?_
    refine W.widen (k := 1) (n := 6) (Nat.le_of_ble_eq_true rfl) (Nat.le_of_ble_eq_true rfl) ?_
    exact W.iret (v := 0) hx hb hr (fun t ht hW => ⟨⟨0, wl Ls2 ad2 (outG y G2 lo v.toInt64), rfl, Or.inl ⟨rfl, v, Ls2, ad2, G2, hw2, h70, ea70, rfl⟩, by rw [ht]; exact hP, hD⟩, hS.F ht⟩) hS.2.2 dL_print_16

def wsL_at9 : List Cond := wsL_at ++ (.classLink RL 69 (exN 5) :: (vx_atS RX7 228 (exN 5) N3).filter goodWord)
theorem gL_at9_X7_at : GoodIn wsL_at9 (wsV RL 66 RX7 yX7_at wsX7_at9) := goodIn_app (fun w h => ⟨List.mem_append_left _ (gL_at_X7_at w (List.mem_append_left _ h)).1, (gL_at_X7_at w (List.mem_append_left _ h)).2⟩) (goodIn_app (fun w h => ⟨List.mem_append_left _ (ggL_at_X7_at w h).1, (ggL_at_X7_at w h).2⟩) (goodIn_sub (fun w h => List.mem_append_right _ (List.mem_cons_of_mem _ h)) (by decide +kernel)))

set_option maxHeartbeats 4000000 in
set_option maxRecDepth 100000 in
theorem c_L_at (l : Launch) (D : va_G) (y : Nat → ClassId) (b0 df mi : Nat) (Ls : List Nat) (ad : Nat → Nat) (G : Nat → va_E) (lo : Nat → Int64) (hOut : OutAt y Ls G lo) {fs : List Value} (hX0 : 0 ∈ Ls) (eX0 : G 0 = .inr (9, fs)) (p0 : Int32) {post : Int32 → va_W → Prop} {px : Nat → Prop} {post2 : Int32 → List Nat → (Nat → Nat) → (Nat → va_E) → Prop}
    (hM : vx_Met l yX7_at wsX7_at9 ({ frames := 7, cells := 1, slots := 6, locals := 95 }) (va_Pc [.ref (ad 0), .int p0] (WdM D y b0 (wl Ls ad G))) (va_Qi post (WB D b0) (fun q => b0 ≤ q)) (XX D b0 (wl Ls ad G) px) 1 6 (fun q => b0 ≤ q))
    (hpost : ∀ r u, post r u → ∃ Ls2 ad2 G2, u = wl Ls2 ad2 G2 ∧ 70 ∈ Ls2 ∧ ad2 70 = ad 70 ∧ G2 70 = G 70 ∧ post2 r Ls2 ad2 G2) (hpx : ∀ k, px k → k = 5) :
    Met l yL_at wsL_at9 ({ frames := 8, cells := 1, slots := 6, locals := 116 }) (va_Pc [.ref (ad 0), .int p0, .ref (ad 70)] (WdC D y b0 df mi (wl Ls ad G))) (va_Qi (fun (r : Int32) (u : va_W) => wRet y ad lo post2 (fun v => v.toInt64) r u ∨ (px 5 ∧ r = 1 ∧ u = wl Ls ad G)) (WB D b0) (fun q => b0 ≤ q)) 1 6 (fun q => b0 ≤ q) := by
  refine va_MetW (cc := cL_at) (maxL := 4) (ret := (some .int)) (by decide) rfl ?_
  intro p e s m args below meth c s₁ B hml hv
  obtain ⟨rfl, ⟨⟨⟨hP, hK, hN⟩, hD, hb0, hT⟩, hLs⟩, hNc⟩ := hv
  have hx := B.exec
  have hb := B.bytes
  have hr := B.returns
  have hts := atoms_spec (ws := wsL_at9) B.pre
  have hown : s.vm.findClass RL = some m.cls := findClass_of_methodNamed B.named
  have htab : c.exceptionTable.toList = tableOf [(0, 9, 12, 69)] := vx_table (x := yL_at) B (hts (.codeWith yL_at cL_at 4 (some .int) [(0, 9, 12, 69)]) (List.mem_append_left _ List.mem_cons_self))
  have hS : va_S (fun q => b0 ≤ q) s.heap s.heap [] := va_S.rf
  have hl := lv_entry ([.ref (ad 0), .int p0, .ref (ad 70)]) (n := 4) (Nat.le_of_ble_eq_true rfl)
  rw [lg_entry_eq]
  generalize (lg_sl ([.ref (ad 0), .int p0, .ref (ad 70)]) ++ List.replicate (4 - (lg_sl ([.ref (ad 0), .int p0, .ref (ad 70)])).length) Slot.unset).toArray = ls at hl ⊢
  have hl : lv_has ls 4 [(0, .ref (ad 0)), (1, .int p0), (2, .ref (ad 70))] := hl
  refine lv_aload_n hx hb dL_at_0 rfl (lv_at hl 2 rfl) ?_
  refine lv_iconst (v := 0) hx hb dL_at_1 (by decide) ?_
  refine lv_aload_n hx hb dL_at_2 rfl (lv_at hl 0 rfl) ?_
  refine lv_iload_n hx hb dL_at_3 rfl (lv_at hl 1 rfl) ?_
  refine vx_calli (vx_runV (As := [.int p0]) (rest := [.int 0, .ref (ad 70)]) ⟨hx, hb, hml, hown, hts⟩ hM (cwV 1 hts gL_at9_X7_at rfl rfl rfl (by decide +kernel) ⟨(Nat.le_of_ble_eq_true rfl), (Nat.le_of_ble_eq_true rfl)⟩) ⟨WdM_blind, Wd_recv hK hP (ci := 9) rfl hX0 eX0, WdM_at hP hK hN hD hS hb0 hT⟩ rfl rfl hl.1 rfl (lv_room (Nat.le_of_ble_eq_true rfl)) dL_at_4 ⟨(Nat.le_of_ble_eq_true rfl), (Nat.le_of_ble_eq_true rfl)⟩) hS (fun _ _ h => h) (fun _ h => h) (fun _ _ h => h) (fun E9 ce9 q9 k9 t9 H9 locs9 ht9 hvm9 hp9 hB9 hz9 hk9 hS9 hce9 hcv9 hcl9 => ?_) (fun v u t H locs ht hvm hw hB hz1 hk1 hS => ?_)
  · obtain ⟨rfl, hP9⟩ := hB9
    rw [ht9] at hP9
    rcases hpx k9 hp9 with rfl
    · refine cx_catch (h := 12) hce9 hcv9 hcl9 (fun pl hpl k hk => by rw [htab]; exact cx_take (args := ([.ref (ad 0), .int p0, .ref (ad 70)] : List Value).toArray) (own := RL) (nm := exN 5) hown hpl hk rfl (by decide) (hts (.classLink RL 69 (exN 5)) (by decide +kernel)) (va_Nw.use rfl (hT.2.2.1 (.castable (exN 5) (exN 5)) (by decide +kernel))) rfl) ?_
      refine lv_astore_n (lv' := [(3, .ref q9), (0, .ref (ad 0)), (1, .int p0), (2, .ref (ad 70))]) hx hb dL_at_12 rfl hl (by decide) rfl (fun ls hl => ?_)
      refine lv_iconst (v := 1) hx hb dL_at_13 (by decide) ?_
      refine W.widen (k := 1) (n := 6) (Nat.le_of_ble_eq_true rfl) (Nat.le_of_ble_eq_true rfl) ?_
      exact W.iret (v := 1) hx hb hr (fun t ht hW => ⟨⟨1, wl Ls ad G, rfl, Or.inr (⟨hp9, rfl, rfl⟩), by rw [ht]; exact hP9, hD⟩, hS9.F ht⟩) hS9.2.2 dL_at_14
  · obtain ⟨hP, hD⟩ := hB
    rw [ht] at hP
    obtain ⟨Ls2, ad2, G2, rfl, h70, ea70, eG70, hw2⟩ := hpost v u hw
    refine lv_i2l hx hb dL_at_7 rfl ?_
    rw [← ea70]
    refine pv_last hx hb hK hP hD hS h70 4 (eG70.trans hOut.2) rfl (k := 0) rfl (by decide) (by decide) dL_at_8 (fun H locs hP hD hS => ?_)
    refine lv_goto (tgt := 15) hx hb dL_at_9 (by decide) ?_
    refine lv_iconst (v := 0) hx hb dL_at_15 (by decide) ?_
    refine W.widen (k := 1) (n := 6) (Nat.le_of_ble_eq_true rfl) (Nat.le_of_ble_eq_true rfl) ?_
    exact W.iret (v := 0) hx hb hr (fun t ht hW => ⟨⟨0, wl Ls2 ad2 (outG y G2 lo v.toInt64), rfl, Or.inl ⟨rfl, v, Ls2, ad2, G2, hw2, h70, ea70, rfl⟩, by rw [ht]; exact hP, hD⟩, hS.F ht⟩) hS.2.2 dL_at_16
