/-! the world by labels: Ls the labels in use, ad where each lies, G what each holds -/
def wl (Ls : List Nat) (ad : Nat → Nat) (G : Nat → va_E) : va_W := Ls.map (fun j => (ad j, G j))
theorem wl_get {Ls : List Nat} {ad : Nat → Nat} {G : Nat → va_E} {j : Nat} (h : j ∈ Ls) : ∃ k : Nat, Ls[k]? = some j ∧ (wl Ls ad G)[k]? = some (ad j, G j) := by
  obtain ⟨k, hk⟩ := List.getElem?_of_mem h
  exact ⟨k, hk, by rw [wl, List.getElem?_map, hk]; rfl⟩
theorem wl_lab {Ls : List Nat} {ad : Nat → Nat} {G : Nat → va_E} {k : Nat} {q : Nat × va_E} (h : (wl Ls ad G)[k]? = some q) : ∃ j : Nat, Ls[k]? = some j ∧ q = (ad j, G j) := by
  rw [wl, List.getElem?_map] at h
  cases hj : Ls[k]? with
  | none => rw [hj] at h; cases h
  | some j => rw [hj] at h; exact ⟨j, rfl, (Option.some.inj h).symm⟩
theorem wl_inj {A : Nat → Prop} {Ls : List Nat} {ad : Nat → Nat} {G : Nat → va_E} (hD : va_D A (wl Ls ad G)) {i j : Nat} (hi : i ∈ Ls) (hj : j ∈ Ls) (h : ad i = ad j) : i = j := by
  obtain ⟨a, ha, ga⟩ := wl_get (ad := ad) (G := G) hi
  obtain ⟨b, hb, gb⟩ := wl_get (ad := ad) (G := G) hj
  have e := hD.1 a b _ _ ga gb h
  subst e
  rw [ha] at hb
  exact Option.some.inj hb
theorem wl_set {A : Nat → Prop} {Ls : List Nat} {ad : Nat → Nat} {G : Nat → va_E} {j k : Nat} {e : va_E} (hD : va_D A (wl Ls ad G)) (hk : Ls[k]? = some j) : (wl Ls ad G).set k (ad j, e) = wl Ls ad (va_up G j e) := by
  have hl : k < Ls.length := (List.getElem?_eq_some_iff.mp hk).1
  have hl2 : k < (wl Ls ad G).length := by rw [wl, List.length_map]; exact hl
  refine List.ext_getElem? fun i => ?_
  by_cases hik : i = k
  · subst hik
    rw [List.getElem?_set_self hl2, wl, List.getElem?_map, hk]
    simp [va_up]
  · rw [List.getElem?_set_ne (Ne.symm hik)]
    cases hi : Ls[i]? with
    | none => rw [wl, wl, List.getElem?_map, List.getElem?_map, hi]; rfl
    | some x =>
      have hx : x ≠ j := by
        intro h
        subst h
        have g1 : (wl Ls ad G)[i]? = some (ad x, G x) := by rw [wl, List.getElem?_map, hi]; rfl
        have g2 : (wl Ls ad G)[k]? = some (ad x, G x) := by rw [wl, List.getElem?_map, hk]; rfl
        exact hik (hD.1 i k _ _ g1 g2 rfl)
      rw [wl, wl, List.getElem?_map, List.getElem?_map, hi]
      simp [va_up, hx]
theorem wl_push {Ls : List Nat} {ad : Nat → Nat} {G : Nat → va_E} {j q : Nat} {e : va_E} (hj : j ∉ Ls) : wl Ls ad G ++ [(q, e)] = wl (Ls ++ [j]) (va_up ad j q) (va_up G j e) := by
  rw [wl, wl, List.map_append, List.map_singleton, va_up_self, va_up_self]
  refine congrArg (fun z => z ++ [(q, e)]) (List.map_congr_left fun a ha => ?_)
  have hn : a ≠ j := fun h => hj (h ▸ ha)
  rw [va_up_ne _ _ hn, va_up_ne _ _ hn]
/-- the array types of the world: their classes are y 0 .. y 4 -/
abbrev TY (y : Nat → ClassId) : List (ClassId × FieldType) := [(y 0, .int), (y 1, .char), (y 2, .boolean), (y 3, .object "java/lang/Object"), (y 4, .long)]
/-- the words among nest mates -/
def nestW : List Cond := [.methodLinkNest "StorageCharge" 9 ⟨"StorageCharge$Text", "<init>", "()V"⟩ "StorageCharge", .fieldLinkNest "StorageCharge" 74 "StorageCharge$Text" "length" "I" "StorageCharge", .fieldLinkNest "StorageCharge" 264 "StorageCharge$Text" "place" "I" "StorageCharge", .fieldLinkNest "StorageCharge" 233 "StorageCharge$Charges" "lines" "I" "StorageCharge", .fieldLinkNest "StorageCharge" 238 "StorageCharge$Charges" "owners" "I" "StorageCharge", .methodLinkNest "StorageCharge" 38 ⟨"StorageCharge$Bills", "<init>", "()V"⟩ "StorageCharge", .fieldLinkNest "StorageCharge" 214 "StorageCharge$Bills" "lines" "Ljava/util/ArrayList;" "StorageCharge", .methodLinkNest "StorageCharge" 45 ⟨"StorageCharge$Paper", "<init>", "()V"⟩ "StorageCharge", .fieldLinkNest "StorageCharge" 229 "StorageCharge$Paper" "signs" "[C" "StorageCharge", .fieldLinkNest "StorageCharge" 223 "StorageCharge$Paper" "length" "I" "StorageCharge", .methodLinkNest "StorageCharge" 78 ⟨"StorageCharge$Charges", "clear", "()V"⟩ "StorageCharge", .methodLinkNest "StorageCharge$Text" 26 ⟨"StorageCharge", "isWithin", "(III)Z"⟩ "StorageCharge", .methodLinkNest "StorageCharge$Charges" 49 ⟨"StorageCharge", "isWithin", "(III)Z"⟩ "StorageCharge", .fieldLinkNest "StorageCharge" 291 "StorageCharge$Unit" "owner" "I" "StorageCharge", .fieldLinkNest "StorageCharge" 302 "StorageCharge$Unit" "firstDay" "I" "StorageCharge", .fieldLinkNest "StorageCharge" 308 "StorageCharge$Unit" "lastDay" "I" "StorageCharge", .fieldLinkNest "StorageCharge" 251 "StorageCharge$Unit" "isGone" "Z" "StorageCharge", .fieldLinkNest "StorageCharge" 279 "StorageCharge$Move" "owner" "I" "StorageCharge", .fieldLinkNest "StorageCharge" 326 "StorageCharge$Move" "kind" "I" "StorageCharge", .fieldLinkNest "StorageCharge" 320 "StorageCharge$Move" "day" "I" "StorageCharge", .fieldLinkNest "StorageCharge" 323 "StorageCharge$Move" "pieces" "I" "StorageCharge", .fieldLinkNest "StorageCharge$Bills" 32 "StorageCharge$BillLine" "owner" "I" "StorageCharge", .fieldLinkNest "StorageCharge" 217 "StorageCharge$BillLine" "owner" "I" "StorageCharge", .fieldLinkNest "StorageCharge$Paper" 29 "StorageCharge$BillLine" "month" "I" "StorageCharge", .fieldLinkNest "StorageCharge$Bills" 36 "StorageCharge$BillLine" "month" "I" "StorageCharge", .fieldLinkNest "StorageCharge" 198 "StorageCharge$BillLine" "month" "I" "StorageCharge", .fieldLinkNest "StorageCharge$Paper" 35 "StorageCharge$BillLine" "cents" "I" "StorageCharge", .fieldLinkNest "StorageCharge$Bills" 39 "StorageCharge$BillLine" "cents" "I" "StorageCharge", .fieldLinkNest "StorageCharge" 201 "StorageCharge$BillLine" "cents" "I" "StorageCharge", .fieldLinkNest "StorageCharge$Paper" 19 "StorageCharge$BillLine" "isCorrection" "Z" "StorageCharge", .fieldLinkNest "StorageCharge" 204 "StorageCharge$BillLine" "isCorrection" "Z" "StorageCharge"]
theorem nestW_warm {s U : State} (hW : s.WarmedH U.vm) (h : ∀ w ∈ nestW, va_Nw w s) : ∀ w ∈ nestW, va_Nw w U := by
  intro w hw
  have hs := h w hw
  simp only [nestW, List.mem_cons, List.not_mem_nil, or_false] at hw
  rcases hw with rfl | rfl | rfl | rfl | rfl | rfl | rfl | rfl | rfl | rfl | rfl | rfl | rfl | rfl | rfl | rfl | rfl | rfl | rfl | rfl | rfl | rfl | rfl | rfl | rfl | rfl | rfl | rfl | rfl | rfl | rfl <;> first | exact va_Nw.warmF hW hs | exact va_Nw.warmM hW hs
theorem nestW_same {u U : State} (hv : u.vm = U.vm) (h : ∀ w ∈ nestW, va_Nw w u) : ∀ w ∈ nestW, va_Nw w U := by
  intro w hw
  have hs := h w hw
  have ht : w.onTables = true := (by decide +kernel : ∀ w ∈ nestW, w.onTables = true) w hw
  exact va_Nw.same ht hv hs
/-- what a method that only reads is told: the world, the tables, the nest words -/
def Wd (D : va_G) (y : Nat → ClassId) (ws : va_W) (U : State) : Prop := va_P D vwCl ws U.heap ∧ va_K D vwCl (TY y) U ∧ ∀ w ∈ nestW, va_Nw w U
theorem Wd_blind {D : va_G} {y : Nat → ClassId} {ws : va_W} {av : List Value} : FrameBlind (va_Pc av (Wd D y ws)) := fun a U g mk q => ⟨q.1, q.2.1, va_K.moved (u := U) (U := U.calling g mk a) (Vm.Alike.refl U.vm) q.2.2.1, nestW_same (u := U) (U := U.calling g mk a) rfl q.2.2.2⟩
theorem Wd_at {D : va_G} {y : Nat → ClassId} {ws : va_W} {s : State} {H : Heap} {av : List Value} (hP : va_P D vwCl ws H) (hK : va_K D vwCl (TY y) s) (hN : ∀ w ∈ nestW, va_Nw w s) : ∀ U : State, U.heap = H → s.WarmedH U.vm → va_Pc av (Wd D y ws) av.toArray U := fun U hU hW => ⟨rfl, by rw [hU]; exact hP, va_K.moved hW.alike hK, nestW_warm hW hN⟩
theorem Wd_recv {s : State} {H : Heap} {D : va_G} {ci : Nat} {q : vw_C} {fs : List Value} {Ls : List Nat} {ad : Nat → Nat} {G : Nat → va_E} {j : Nat} {tys : List (ClassId × FieldType)} (hK : va_K D vwCl tys s) (hP : va_P D vwCl (wl Ls ad G) H) (hc : vwCl[ci]? = some q) (hj : j ∈ Ls) (he : G j = .inr (ci, fs)) : ∃ cell : Cell, H[ad j]? = some cell ∧ cell.vm.isStatics = false ∧ s.vm.findClass q.1 = some cell.cls := by
  obtain ⟨k, -, hk⟩ := wl_get (ad := ad) (G := G) hj
  exact va_recv hK hP hc (by rw [hk, he])
section PV
variable {p : Program} {l : Launch} {e : Env} {R : Room} {s : State} {m : MethodId} {args : Array Value} {below : List Frame} {meth : Method} {c : Code} {H : Heap} {locs : List Loc} {cells slots : Nat} {Q : State → Prop}
variable {cc : ByteArray} {pc : Nat} {ls : Array Slot} {rest : List Value} {D : va_G} {cl : List vw_C} {A : Nat → Prop} {tys : List (ClassId × FieldType)} {Ls : List Nat} {ad : Nat → Nat} {G : Nat → va_E} {H0 : Heap} {j : Nat}
theorem pv_get (hexec : p.tables.exec = Jvm.exec) (hb : c.code = cc) {own ref C : String} {T : u_T} {N ci index : Nat} {Ts : List Cond} (hts : ∀ w ∈ Ts, w.before args s = true) (hin : ∀ w ∈ u_ws C T N, w ∈ Ts) (hown : s.vm.findClass own = some m.cls) (hK : va_K D cl tys s) (hP : va_P D cl (wl Ls ad G) H) (hj : j ∈ Ls) {fs : List Value} (he : G j = .inr (ci, fs)) (hc : cl[ci]? = some (C, T, N)) (k : Nat) (hk : k < N) (hlink : (Cond.fieldLink own index ref (T k).2.1 (T k).2.2.1).before args s = true) (hsame : ∀ x, s.fieldFound? (T k).1 (T k).2.1 (T k).2.2.1 = some x → s.fieldFound? ref (T k).2.1 (T k).2.2.1 = some x) {v : Value} (hv : fs[k]? = some v) (hdg : decode cc pc = .ok (.getfield index, 3))
    (kk : W p l e R s m args below meth c H locs cells slots Q (F0 m (pc + 3) ls (v :: rest))) : W p l e R s m args below meth c H locs cells slots Q (F0 m pc ls (.ref (ad j) :: rest)) := by
  obtain ⟨q0, -, hq⟩ := wl_get (ad := ad) (G := G) hj
  exact va_get hexec hb hts hin hown hK hP q0 (by rw [hq, he]) hc k hk hlink hsame hv hdg kk
theorem pv_getN (hexec : p.tables.exec = Jvm.exec) (hb : c.code = cc) {own ref C host : String} {T : u_T} {N ci index : Nat} {Ts : List Cond} (hts : ∀ w ∈ Ts, w.before args s = true) (hin : ∀ w ∈ u_ws C T N, w ∈ Ts) (hown : s.vm.findClass own = some m.cls) (hK : va_K D cl tys s) (hP : va_P D cl (wl Ls ad G) H) (hj : j ∈ Ls) {fs : List Value} (he : G j = .inr (ci, fs)) (hc : cl[ci]? = some (C, T, N)) (k : Nat) (hk : k < N) (hN : ∀ w ∈ nestW, va_Nw w s) (hlink : Cond.fieldLinkNest own index ref (T k).2.1 (T k).2.2.1 host ∈ nestW) (hsame : ∀ x, s.fieldFound? (T k).1 (T k).2.1 (T k).2.2.1 = some x → s.fieldFound? ref (T k).2.1 (T k).2.2.1 = some x) {v : Value} (hv : fs[k]? = some v) (hdg : decode cc pc = .ok (.getfield index, 3))
    (kk : W p l e R s m args below meth c H locs cells slots Q (F0 m (pc + 3) ls (v :: rest))) : W p l e R s m args below meth c H locs cells slots Q (F0 m pc ls (.ref (ad j) :: rest)) := by
  obtain ⟨q0, -, hq⟩ := wl_get (ad := ad) (G := G) hj
  exact va_getN hexec hb hts hin hown hK hP q0 (by rw [hq, he]) hc k hk (va_Nw.use rfl (hN _ hlink)) hsame hv hdg kk
theorem pv_iald (hexec : p.tables.exec = Jvm.exec) (hb : c.code = cc) (hK : va_K D cl tys s) (hP : va_P D cl (wl Ls ad G) H) (hj : j ∈ Ls) (t0 : Nat) {cA : ClassId} {n : Nat} {f : Nat → Int32} (ha : G j = .inl (cA, n, .inl f)) (ht : tys[t0]? = some (cA, .int)) {i : Int32} {k : Nat} (hi : i = nI k) (hk : k < n) (hn : n < 2 ^ 31) (hdg : decode cc pc = .ok (.iaload, 1))
    (kk : W p l e R s m args below meth c H locs cells slots Q (F0 m (pc + 1) ls (.int (f k) :: rest))) : W p l e R s m args below meth c H locs cells slots Q (F0 m pc ls (.int i :: .ref (ad j) :: rest)) := by
  obtain ⟨q0, -, hq⟩ := wl_get (ad := ad) (G := G) hj
  subst hi
  exact va_iald hexec hb hK hP q0 t0 (by rw [hq, ha]) ht (vp_in_nI hk hn) hdg (by rw [nI_clamp (by omega)]; exact kk)
theorem pv_cald (hexec : p.tables.exec = Jvm.exec) (hb : c.code = cc) (hK : va_K D cl tys s) (hP : va_P D cl (wl Ls ad G) H) (hj : j ∈ Ls) (t0 : Nat) {cA : ClassId} {n : Nat} {f : Nat → Int32} (ha : G j = .inl (cA, n, .inl f)) (ht : tys[t0]? = some (cA, .char)) {i : Int32} {k : Nat} (hi : i = nI k) (hk : k < n) (hn : n < 2 ^ 31) (hdg : decode cc pc = .ok (.caload, 1))
    (kk : W p l e R s m args below meth c H locs cells slots Q (F0 m (pc + 1) ls (.int (f k) :: rest))) : W p l e R s m args below meth c H locs cells slots Q (F0 m pc ls (.int i :: .ref (ad j) :: rest)) := by
  obtain ⟨q0, -, hq⟩ := wl_get (ad := ad) (G := G) hj
  subst hi
  exact va_cald hexec hb hK hP q0 t0 (by rw [hq, ha]) ht (vp_in_nI hk hn) hdg (by rw [nI_clamp (by omega)]; exact kk)
theorem pv_zald (hexec : p.tables.exec = Jvm.exec) (hb : c.code = cc) (hK : va_K D cl tys s) (hP : va_P D cl (wl Ls ad G) H) (hj : j ∈ Ls) (t0 : Nat) {cA : ClassId} {n : Nat} {f : Nat → Int32} (ha : G j = .inl (cA, n, .inl f)) (ht : tys[t0]? = some (cA, .boolean)) {i : Int32} {k : Nat} (hi : i = nI k) (hk : k < n) (hn : n < 2 ^ 31) (hdg : decode cc pc = .ok (.baload, 1))
    (kk : W p l e R s m args below meth c H locs cells slots Q (F0 m (pc + 1) ls (.int (f k) :: rest))) : W p l e R s m args below meth c H locs cells slots Q (F0 m pc ls (.int i :: .ref (ad j) :: rest)) := by
  obtain ⟨q0, -, hq⟩ := wl_get (ad := ad) (G := G) hj
  subst hi
  exact va_zald hexec hb hK hP q0 t0 (by rw [hq, ha]) ht (vp_in_nI hk hn) hdg (by rw [nI_clamp (by omega)]; exact kk)
theorem pv_aald (hexec : p.tables.exec = Jvm.exec) (hb : c.code = cc) (hK : va_K D cl tys s) (hP : va_P D cl (wl Ls ad G) H) (hj : j ∈ Ls) (t0 : Nat) {cA : ClassId} {C : String} {n : Nat} {f : Nat → Option Nat} (ha : G j = .inl (cA, n, .inr (.inr (.inr (.inr f))))) (ht : tys[t0]? = some (cA, .object C)) {i : Int32} {k : Nat} (hi : i = nI k) (hk : k < n) (hn : n < 2 ^ 31) (hdg : decode cc pc = .ok (.aaload, 1)) {a : Nat} (hf : f k = some a)
    (kk : W p l e R s m args below meth c H locs cells slots Q (F0 m (pc + 1) ls (.ref a :: rest))) : W p l e R s m args below meth c H locs cells slots Q (F0 m pc ls (.int i :: .ref (ad j) :: rest)) := by
  obtain ⟨q0, -, hq⟩ := wl_get (ad := ad) (G := G) hj
  subst hi
  exact va_aldq hexec hb hK hP q0 t0 (by rw [hq, ha]) ht (vp_in_nI hk hn) hdg (by rw [nI_clamp (by omega), hf]; exact kk)
theorem pv_alen (hexec : p.tables.exec = Jvm.exec) (hb : c.code = cc) (hK : va_K D cl tys s) (hP : va_P D cl (wl Ls ad G) H) (hj : j ∈ Ls) (t0 : Nat) {cA : ClassId} {x : vp_A} (ha : G j = .inl (cA, x)) {ty : FieldType} (ht : tys[t0]? = some (cA, ty)) {n : Nat} (hn : x.1 = n) (hdg : decode cc pc = .ok (.arraylength, 1))
    (kk : W p l e R s m args below meth c H locs cells slots Q (F0 m (pc + 1) ls (.int (nI n) :: rest))) : W p l e R s m args below meth c H locs cells slots Q (F0 m pc ls (.ref (ad j) :: rest)) := by
  obtain ⟨q0, -, hq⟩ := wl_get (ad := ad) (G := G) hj
  subst hn
  exact va_alen hexec hb hK hP q0 t0 (by rw [hq, ha]) ht rfl hdg kk
theorem pv_put (hexec : p.tables.exec = Jvm.exec) (hb : c.code = cc) {own ref C : String} {T : u_T} {N ci index : Nat} {Ts : List Cond} (hts : ∀ w ∈ Ts, w.before args s = true) (hin : ∀ w ∈ u_ws C T N, w ∈ Ts) (ty0 : Nat → FieldType) (hty : ∀ k, k < N → parseFieldDescriptor (T k).2.2.1 = some (ty0 k)) (hnm : ∀ a, a < N → ∀ b, b < N → a ≠ b → (T a).2.1 ≠ (T b).2.1) (hown : s.vm.findClass own = some m.cls) (hK : va_K D cl tys s) (hP : va_P D cl (wl Ls ad G) H) (hD : va_D A (wl Ls ad G)) (hS0 : va_S A H0 H locs) (hj : j ∈ Ls) {fs : List Value} (he : G j = .inr (ci, fs)) (hc : cl[ci]? = some (C, T, N)) (k : Nat) (hk : k < N) (hlink : (Cond.fieldLink own index ref (T k).2.1 (T k).2.2.1).before args s = true) (hsame : ∀ x, s.fieldFound? (T k).1 (T k).2.1 (T k).2.2.1 = some x → s.fieldFound? ref (T k).2.1 (T k).2.2.1 = some x) (hfin : (T k).2.2.2 = false) {ty : FieldType} {v : Value} (hd : parseFieldDescriptor (T k).2.2.1 = some ty) (hn : narrow ty v = v) (hfit : fits ty v = true) (hl : k < fs.length)
    (hdg : decode cc pc = .ok (.putfield index, 3)) (kk : ∀ (H1 : Heap) (locs1 : List Loc), va_P D cl (wl Ls ad (va_up G j (.inr (ci, fs.set k v)))) H1 → va_D A (wl Ls ad (va_up G j (.inr (ci, fs.set k v)))) → va_S A H0 H1 locs1 → W p l e R s m args below meth c H1 locs1 cells slots Q (F0 m (pc + 3) ls rest)) : W p l e R s m args below meth c H locs cells slots Q (F0 m pc ls (v :: .ref (ad j) :: rest)) := by
  obtain ⟨q0, hq0, hq⟩ := wl_get (ad := ad) (G := G) hj
  refine va_put hexec hb hts hin ty0 hty hnm hown hK hP hD hS0 q0 (by rw [hq, he]) hc k hk hlink hsame hfin hd hn hfit hl hdg fun H1 locs1 h1 h2 h3 => ?_
  rw [wl_set hD hq0] at h1 h2
  exact kk H1 locs1 h1 h2 h3
theorem pv_putF (hexec : p.tables.exec = Jvm.exec) (hb : c.code = cc) {own ref C : String} {T : u_T} {N ci index : Nat} {Ts : List Cond} (hts : ∀ w ∈ Ts, w.before args s = true) (hin : ∀ w ∈ u_ws C T N, w ∈ Ts) (ty0 : Nat → FieldType) (hty : ∀ k, k < N → parseFieldDescriptor (T k).2.2.1 = some (ty0 k)) (hnm : ∀ a, a < N → ∀ b, b < N → a ≠ b → (T a).2.1 ≠ (T b).2.1) (hown : s.vm.findClass own = some m.cls) (hK : va_K D cl tys s) (hP : va_P D cl (wl Ls ad G) H) (hD : va_D A (wl Ls ad G)) (hS0 : va_S A H0 H locs) (hj : j ∈ Ls) {fs : List Value} (he : G j = .inr (ci, fs)) (hc : cl[ci]? = some (C, T, N)) (k : Nat) (hk : k < N) (hlink : (Cond.fieldLink own index ref (T k).2.1 (T k).2.2.1).before args s = true) (hsame : ∀ x, s.fieldFound? (T k).1 (T k).2.1 (T k).2.2.1 = some x → s.fieldFound? ref (T k).2.1 (T k).2.2.1 = some x) (hfin : (T k).2.2.2 = true) (hin2 : meth.name = "<init>") (hdecl : (T k).1 = own) {ty : FieldType} {v : Value} (hd : parseFieldDescriptor (T k).2.2.1 = some ty) (hn : narrow ty v = v) (hfit : fits ty v = true) (hl : k < fs.length)
    (hdg : decode cc pc = .ok (.putfield index, 3)) (kk : ∀ (H1 : Heap) (locs1 : List Loc), va_P D cl (wl Ls ad (va_up G j (.inr (ci, fs.set k v)))) H1 → va_D A (wl Ls ad (va_up G j (.inr (ci, fs.set k v)))) → va_S A H0 H1 locs1 → W p l e R s m args below meth c H1 locs1 cells slots Q (F0 m (pc + 3) ls rest)) : W p l e R s m args below meth c H locs cells slots Q (F0 m pc ls (v :: .ref (ad j) :: rest)) := by
  obtain ⟨q0, hq0, hq⟩ := wl_get (ad := ad) (G := G) hj
  refine va_putF hexec hb hts hin ty0 hty hnm hown hK hP hD hS0 q0 (by rw [hq, he]) hc k hk hlink hsame hfin hin2 hdecl hd hn hfit hl hdg fun H1 locs1 h1 h2 h3 => ?_
  rw [wl_set hD hq0] at h1 h2
  exact kk H1 locs1 h1 h2 h3
theorem pv_iast (hexec : p.tables.exec = Jvm.exec) (hb : c.code = cc) (hK : va_K D cl tys s) (hP : va_P D cl (wl Ls ad G) H) (hD : va_D A (wl Ls ad G)) (hS : va_S A H0 H locs) (hj : j ∈ Ls) (t0 : Nat) {cA : ClassId} {n : Nat} {f : Nat → Int32} (ha : G j = .inl (cA, n, .inl f)) (ht : tys[t0]? = some (cA, .int)) {i x : Int32} {k : Nat} (hi : i = nI k) (hk : k < n) (hn : n < 2 ^ 31) (hdg : decode cc pc = .ok (.iastore, 1))
    (kk : ∀ (H1 : Heap) (locs1 : List Loc), va_P D cl (wl Ls ad (va_up G j (.inl (cA, n, .inl (upd f k x))))) H1 → va_D A (wl Ls ad (va_up G j (.inl (cA, n, .inl (upd f k x))))) → va_S A H0 H1 locs1 → W p l e R s m args below meth c H1 locs1 cells slots Q (F0 m (pc + 1) ls rest)) : W p l e R s m args below meth c H locs cells slots Q (F0 m pc ls (.int x :: .int i :: .ref (ad j) :: rest)) := by
  obtain ⟨q0, hq0, hq⟩ := wl_get (ad := ad) (G := G) hj
  subst hi
  refine va_iast hexec hb hK hP hD hS q0 t0 (by rw [hq, ha]) ht (vp_in_nI hk hn) hdg fun H1 locs1 h1 h2 h3 => ?_
  rw [wl_set hD hq0, nI_clamp (by omega)] at h1 h2
  exact kk H1 locs1 h1 h2 h3
theorem pv_cast (hexec : p.tables.exec = Jvm.exec) (hb : c.code = cc) (hK : va_K D cl tys s) (hP : va_P D cl (wl Ls ad G) H) (hD : va_D A (wl Ls ad G)) (hS : va_S A H0 H locs) (hj : j ∈ Ls) (t0 : Nat) {cA : ClassId} {n : Nat} {f : Nat → Int32} (ha : G j = .inl (cA, n, .inl f)) (ht : tys[t0]? = some (cA, .char)) {i x : Int32} {k : Nat} (hi : i = nI k) (hk : k < n) (hn : n < 2 ^ 31) (hdg : decode cc pc = .ok (.castore, 1))
    (kk : ∀ (H1 : Heap) (locs1 : List Loc), va_P D cl (wl Ls ad (va_up G j (.inl (cA, n, .inl (upd f k (vp_nar .char x)))))) H1 → va_D A (wl Ls ad (va_up G j (.inl (cA, n, .inl (upd f k (vp_nar .char x)))))) → va_S A H0 H1 locs1 → W p l e R s m args below meth c H1 locs1 cells slots Q (F0 m (pc + 1) ls rest)) : W p l e R s m args below meth c H locs cells slots Q (F0 m pc ls (.int x :: .int i :: .ref (ad j) :: rest)) := by
  obtain ⟨q0, hq0, hq⟩ := wl_get (ad := ad) (G := G) hj
  subst hi
  refine va_cast hexec hb hK hP hD hS q0 t0 (by rw [hq, ha]) ht (vp_in_nI hk hn) hdg fun H1 locs1 h1 h2 h3 => ?_
  rw [wl_set hD hq0, nI_clamp (by omega)] at h1 h2
  exact kk H1 locs1 h1 h2 h3
theorem pv_zast (hexec : p.tables.exec = Jvm.exec) (hb : c.code = cc) (hK : va_K D cl tys s) (hP : va_P D cl (wl Ls ad G) H) (hD : va_D A (wl Ls ad G)) (hS : va_S A H0 H locs) (hj : j ∈ Ls) (t0 : Nat) {cA : ClassId} {n : Nat} {f : Nat → Int32} (ha : G j = .inl (cA, n, .inl f)) (ht : tys[t0]? = some (cA, .boolean)) {i x : Int32} {k : Nat} (hi : i = nI k) (hk : k < n) (hn : n < 2 ^ 31) (hdg : decode cc pc = .ok (.bastore, 1))
    (kk : ∀ (H1 : Heap) (locs1 : List Loc), va_P D cl (wl Ls ad (va_up G j (.inl (cA, n, .inl (upd f k (vp_nar .boolean x)))))) H1 → va_D A (wl Ls ad (va_up G j (.inl (cA, n, .inl (upd f k (vp_nar .boolean x)))))) → va_S A H0 H1 locs1 → W p l e R s m args below meth c H1 locs1 cells slots Q (F0 m (pc + 1) ls rest)) : W p l e R s m args below meth c H locs cells slots Q (F0 m pc ls (.int x :: .int i :: .ref (ad j) :: rest)) := by
  obtain ⟨q0, hq0, hq⟩ := wl_get (ad := ad) (G := G) hj
  subst hi
  refine va_zast hexec hb hK hP hD hS q0 t0 (by rw [hq, ha]) ht (vp_in_nI hk hn) hdg fun H1 locs1 h1 h2 h3 => ?_
  rw [wl_set hD hq0, nI_clamp (by omega)] at h1 h2
  exact kk H1 locs1 h1 h2 h3
end PV
