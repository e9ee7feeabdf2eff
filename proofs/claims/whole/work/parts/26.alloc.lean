/-! worlds with a tail of cells that have no label yet -/
theorem va_Pl {D : va_G} {cl : List vw_C} {a b : va_W} {H : Heap} (h : va_P D cl (a ++ b) H) : va_P D cl a H := fun k q hk => h k q (by rw [List.getElem?_append_left (List.getElem?_eq_some_iff.mp hk).1]; exact hk)
theorem va_Pr {D : va_G} {cl : List vw_C} {a b : va_W} {H : Heap} (h : va_P D cl (a ++ b) H) : va_P D cl b H := fun k q hk => h (a.length + k) q (by rw [List.getElem?_append_right (by omega), Nat.add_sub_cancel_left]; exact hk)
theorem wx_at {a b : va_W} {i : Nat} {q : Nat × va_E} (h : b[i]? = some q) : (a ++ b)[a.length + i]? = some q := by rw [List.getElem?_append_right (by omega), Nat.add_sub_cancel_left]; exact h
theorem wx_set (a b : va_W) (i : Nat) (q : Nat × va_E) : (a ++ b).set (a.length + i) q = a ++ b.set i q := by rw [List.set_append_right _ _ (by omega), Nat.add_sub_cancel_left]
theorem wx_lset {A : Nat → Prop} {Ls : List Nat} {ad : Nat → Nat} {G : Nat → va_E} {X : va_W} {j k : Nat} {e : va_E} (hD : va_D A (wl Ls ad G ++ X)) (hk : Ls[k]? = some j) : (wl Ls ad G ++ X).set k (ad j, e) = wl Ls ad (va_up G j e) ++ X := by
  have hl : k < (wl Ls ad G).length := by rw [wl, List.length_map]; exact (List.getElem?_eq_some_iff.mp hk).1
  have hD1 : va_D A (wl Ls ad G) := by
    refine ⟨fun i j p q hi hj e => ?_, fun i q hi => ?_⟩
    · exact hD.1 i j p q (by rw [List.getElem?_append_left (List.getElem?_eq_some_iff.mp hi).1]; exact hi) (by rw [List.getElem?_append_left (List.getElem?_eq_some_iff.mp hj).1]; exact hj) e
    · exact hD.2 i q (by rw [List.getElem?_append_left (List.getElem?_eq_some_iff.mp hi).1]; exact hi)
  rw [List.set_append_left _ _ hl, wl_set hD1 hk]
theorem wl_getx {Ls : List Nat} {ad : Nat → Nat} {G : Nat → va_E} {X : va_W} {j : Nat} (h : j ∈ Ls) : ∃ k : Nat, Ls[k]? = some j ∧ (wl Ls ad G ++ X)[k]? = some (ad j, G j) := by
  obtain ⟨k, h1, h2⟩ := wl_get (ad := ad) (G := G) h
  exact ⟨k, h1, by rw [List.getElem?_append_left (List.getElem?_eq_some_iff.mp h2).1]; exact h2⟩
/-- the class of an array type is one -/
theorem TY_int {D : va_G} {cl : List vw_C} {y : Nat → ClassId} {cA : ClassId} {s : State} (h : va_K D cl (TY y ++ [(cA, .int)]) s) : cA = y 0 := by
  have h1 : s.vm.findClass ("[" ++ FieldType.int.toString) = some cA := (h.2 5 _ rfl).2
  have h2 : s.vm.findClass ("[" ++ FieldType.int.toString) = some (y 0) := (h.2 0 _ rfl).2
  exact Option.some.inj (h1.symm.trans h2)
theorem TY_char {D : va_G} {cl : List vw_C} {y : Nat → ClassId} {cA : ClassId} {s : State} (h : va_K D cl (TY y ++ [(cA, .char)]) s) : cA = y 1 := by
  have h1 : s.vm.findClass ("[" ++ FieldType.char.toString) = some cA := (h.2 5 _ rfl).2
  have h2 : s.vm.findClass ("[" ++ FieldType.char.toString) = some (y 1) := (h.2 1 _ rfl).2
  exact Option.some.inj (h1.symm.trans h2)
theorem TY_bool {D : va_G} {cl : List vw_C} {y : Nat → ClassId} {cA : ClassId} {s : State} (h : va_K D cl (TY y ++ [(cA, .boolean)]) s) : cA = y 2 := by
  have h1 : s.vm.findClass ("[" ++ FieldType.boolean.toString) = some cA := (h.2 5 _ rfl).2
  have h2 : s.vm.findClass ("[" ++ FieldType.boolean.toString) = some (y 2) := (h.2 2 _ rfl).2
  exact Option.some.inj (h1.symm.trans h2)
theorem TY_obj {D : va_G} {cl : List vw_C} {y : Nat → ClassId} {cA : ClassId} {s : State} (h : va_K D cl (TY y ++ [(cA, .object "java/lang/Object")]) s) : cA = y 3 := Option.some.inj ((va_nmO (h.2 5 _ rfl).2 rfl).symm.trans (va_nmO (h.2 3 _ rfl).2 rfl))
section PX
variable {p : Program} {l : Launch} {e : Env} {R : Room} {s : State} {m : MethodId} {args : Array Value} {below : List Frame} {meth : Method} {c : Code} {H : Heap} {locs : List Loc} {cells slots : Nat} {Q : State → Prop}
variable {cc : ByteArray} {pc : Nat} {ls : Array Slot} {rest : List Value} {D : va_G} {cl : List vw_C} {A : Nat → Prop} {tys : List (ClassId × FieldType)} {Ls : List Nat} {ad : Nat → Nat} {G : Nat → va_E} {H0 : Heap} {j : Nat} {w0 X : va_W} {y : Nat → ClassId}
theorem px_put (hexec : p.tables.exec = Jvm.exec) (hb : c.code = cc) {own ref C : String} {T : u_T} {N ci index : Nat} {Ts : List Cond} (hts : ∀ w ∈ Ts, w.before args s = true) (hin : ∀ w ∈ u_ws C T N, w ∈ Ts) (ty0 : Nat → FieldType) (hty : ∀ k, k < N → parseFieldDescriptor (T k).2.2.1 = some (ty0 k)) (hnm : ∀ a, a < N → ∀ b, b < N → a ≠ b → (T a).2.1 ≠ (T b).2.1) (hown : s.vm.findClass own = some m.cls) (hK : va_K D cl tys s) (hP : va_P D cl (wl Ls ad G ++ X) H) (hD : va_D A (wl Ls ad G ++ X)) (hS0 : va_S A H0 H locs) (hj : j ∈ Ls) {fs : List Value} (he : G j = .inr (ci, fs)) (hc : cl[ci]? = some (C, T, N)) (k : Nat) (hk : k < N) (hlink : (Cond.fieldLink own index ref (T k).2.1 (T k).2.2.1).before args s = true) (hsame : ∀ x, s.fieldFound? (T k).1 (T k).2.1 (T k).2.2.1 = some x → s.fieldFound? ref (T k).2.1 (T k).2.2.1 = some x) (hfin : (T k).2.2.2 = false) {ty : FieldType} {v : Value} (hd : parseFieldDescriptor (T k).2.2.1 = some ty) (hn : narrow ty v = v) (hfit : fits ty v = true) (hl : k < fs.length)
    (hdg : decode cc pc = .ok (.putfield index, 3)) (kk : ∀ (H1 : Heap) (locs1 : List Loc), va_P D cl (wl Ls ad (va_up G j (.inr (ci, fs.set k v))) ++ X) H1 → va_D A (wl Ls ad (va_up G j (.inr (ci, fs.set k v))) ++ X) → va_S A H0 H1 locs1 → W p l e R s m args below meth c H1 locs1 cells slots Q (F0 m (pc + 3) ls rest)) : W p l e R s m args below meth c H locs cells slots Q (F0 m pc ls (v :: .ref (ad j) :: rest)) := by
  obtain ⟨q0, hq0, hq⟩ := wl_getx (ad := ad) (G := G) (X := X) hj
  refine va_put hexec hb hts hin ty0 hty hnm hown hK hP hD hS0 q0 (by rw [hq, he]) hc k hk hlink hsame hfin hd hn hfit hl hdg fun H1 locs1 h1 h2 h3 => ?_
  rw [wx_lset hD hq0] at h1 h2
  exact kk H1 locs1 h1 h2 h3
theorem sx_put (hexec : p.tables.exec = Jvm.exec) (hb : c.code = cc) {own ref C : String} {T : u_T} {N ci index : Nat} {Ts : List Cond} (hts : ∀ w ∈ Ts, w.before args s = true) (hin : ∀ w ∈ u_ws C T N, w ∈ Ts) (ty0 : Nat → FieldType) (hty : ∀ k, k < N → parseFieldDescriptor (T k).2.2.1 = some (ty0 k)) (hnm : ∀ a, a < N → ∀ b, b < N → a ≠ b → (T a).2.1 ≠ (T b).2.1) (hown : s.vm.findClass own = some m.cls) (hK : va_K D cl tys s) (hP : va_P D cl (w0 ++ X) H) (hD : va_D A (w0 ++ X)) (hS0 : va_S A H0 H locs) (i : Nat) {a : Nat} {fs : List Value} (he : X[i]? = some (a, .inr (ci, fs))) (hc : cl[ci]? = some (C, T, N)) (k : Nat) (hk : k < N) (hlink : (Cond.fieldLink own index ref (T k).2.1 (T k).2.2.1).before args s = true) (hsame : ∀ x, s.fieldFound? (T k).1 (T k).2.1 (T k).2.2.1 = some x → s.fieldFound? ref (T k).2.1 (T k).2.2.1 = some x) (hfin : (T k).2.2.2 = false) {ty : FieldType} {v : Value} (hd : parseFieldDescriptor (T k).2.2.1 = some ty) (hn : narrow ty v = v) (hfit : fits ty v = true) (hl : k < fs.length)
    (hdg : decode cc pc = .ok (.putfield index, 3)) (kk : ∀ (H1 : Heap) (locs1 : List Loc), va_P D cl (w0 ++ X.set i (a, .inr (ci, fs.set k v))) H1 → va_D A (w0 ++ X.set i (a, .inr (ci, fs.set k v))) → va_S A H0 H1 locs1 → W p l e R s m args below meth c H1 locs1 cells slots Q (F0 m (pc + 3) ls rest)) : W p l e R s m args below meth c H locs cells slots Q (F0 m pc ls (v :: .ref (a) :: rest)) := by
  refine va_put hexec hb hts hin ty0 hty hnm hown hK hP hD hS0 (w0.length + i) (wx_at he) hc k hk hlink hsame hfin hd hn hfit hl hdg fun H1 locs1 h1 h2 h3 => ?_
  rw [wx_set] at h1 h2
  exact kk H1 locs1 h1 h2 h3
theorem sx_putF (hexec : p.tables.exec = Jvm.exec) (hb : c.code = cc) {own ref C : String} {T : u_T} {N ci index : Nat} {Ts : List Cond} (hts : ∀ w ∈ Ts, w.before args s = true) (hin : ∀ w ∈ u_ws C T N, w ∈ Ts) (ty0 : Nat → FieldType) (hty : ∀ k, k < N → parseFieldDescriptor (T k).2.2.1 = some (ty0 k)) (hnm : ∀ a, a < N → ∀ b, b < N → a ≠ b → (T a).2.1 ≠ (T b).2.1) (hown : s.vm.findClass own = some m.cls) (hK : va_K D cl tys s) (hP : va_P D cl (w0 ++ X) H) (hD : va_D A (w0 ++ X)) (hS0 : va_S A H0 H locs) (i : Nat) {a : Nat} {fs : List Value} (he : X[i]? = some (a, .inr (ci, fs))) (hc : cl[ci]? = some (C, T, N)) (k : Nat) (hk : k < N) (hlink : (Cond.fieldLink own index ref (T k).2.1 (T k).2.2.1).before args s = true) (hsame : ∀ x, s.fieldFound? (T k).1 (T k).2.1 (T k).2.2.1 = some x → s.fieldFound? ref (T k).2.1 (T k).2.2.1 = some x) (hfin : (T k).2.2.2 = true) (hin2 : meth.name = "<init>") (hdecl : (T k).1 = own) {ty : FieldType} {v : Value} (hd : parseFieldDescriptor (T k).2.2.1 = some ty) (hn : narrow ty v = v) (hfit : fits ty v = true) (hl : k < fs.length)
    (hdg : decode cc pc = .ok (.putfield index, 3)) (kk : ∀ (H1 : Heap) (locs1 : List Loc), va_P D cl (w0 ++ X.set i (a, .inr (ci, fs.set k v))) H1 → va_D A (w0 ++ X.set i (a, .inr (ci, fs.set k v))) → va_S A H0 H1 locs1 → W p l e R s m args below meth c H1 locs1 cells slots Q (F0 m (pc + 3) ls rest)) : W p l e R s m args below meth c H locs cells slots Q (F0 m pc ls (v :: .ref (a) :: rest)) := by
  refine va_putF hexec hb hts hin ty0 hty hnm hown hK hP hD hS0 (w0.length + i) (wx_at he) hc k hk hlink hsame hfin hin2 hdecl hd hn hfit hl hdg fun H1 locs1 h1 h2 h3 => ?_
  rw [wx_set] at h1 h2
  exact kk H1 locs1 h1 h2 h3
theorem sx_iast (hexec : p.tables.exec = Jvm.exec) (hb : c.code = cc) (hK : va_K D cl tys s) (hP : va_P D cl (w0 ++ X) H) (hD : va_D A (w0 ++ X)) (hS : va_S A H0 H locs) (i9 : Nat) {a : Nat} (t0 : Nat) {cA : ClassId} {n : Nat} {f : Nat → Int32} (ha : X[i9]? = some (a, .inl (cA, n, .inl f))) (ht : tys[t0]? = some (cA, .int)) {i x : Int32} {k : Nat} (hi : i = nI k) (hk : k < n) (hn : n < 2 ^ 31) (hdg : decode cc pc = .ok (.iastore, 1))
    (kk : ∀ (H1 : Heap) (locs1 : List Loc), va_P D cl (w0 ++ X.set i9 (a, .inl (cA, n, .inl (upd f k x)))) H1 → va_D A (w0 ++ X.set i9 (a, .inl (cA, n, .inl (upd f k x)))) → va_S A H0 H1 locs1 → W p l e R s m args below meth c H1 locs1 cells slots Q (F0 m (pc + 1) ls rest)) : W p l e R s m args below meth c H locs cells slots Q (F0 m pc ls (.int x :: .int i :: .ref a :: rest)) := by
  subst hi
  refine va_iast hexec hb hK hP hD hS (w0.length + i9) t0 (wx_at ha) ht (vp_in_nI hk hn) hdg fun H1 locs1 h1 h2 h3 => ?_
  rw [wx_set, nI_clamp (by omega)] at h1 h2
  exact kk H1 locs1 h1 h2 h3
theorem sx_newi (hexec : p.tables.exec = Jvm.exec) (hb : c.code = cc) (harr : (Cond.arrayClass .int).before args s = true) (hK : va_K D cl (TY y) s) (hP : va_P D cl (w0 ++ X) H) (hD : va_D A (w0 ++ X)) (hS : va_S A H0 H locs) (hA : ∀ q, H0.size ≤ q → A q) {n : Int32} (N' : Nat) (hn : ¬ n < 0) (hN : n.toNatClampNeg = N') (hbytes : N' * componentBytes .int ≤ 536870912) (hcells : cells + 1 ≤ R.cells) (hslots : slots + N' ≤ R.slots) (hdg : decode cc pc = .ok (.newarray .int, 2))
    (kk : ∀ (q : Nat) (H1 : Heap), va_P D cl (w0 ++ (X ++ [(q, .inl (y 0, N', .inl (fun _ => 0)))])) H1 → va_D A (w0 ++ (X ++ [(q, .inl (y 0, N', .inl (fun _ => 0)))])) → va_S A H0 H1 locs → W p l e R s m args below meth c H1 locs (cells + 1) (slots + N') Q (F0 m (pc + 2) ls (.ref q :: rest))) : W p l e R s m args below meth c H locs cells slots Q (F0 m pc ls (.int n :: rest)) := by
  refine va_newa (atype := .int) (ty := .int) (a0 := (N', .inl (fun _ => 0))) hexec hb harr rfl hK hP hD hS hA (fun _ => rfl) hn hN hbytes hcells hslots hdg fun q cA H1 k1 h1 h2 h3 => ?_
  obtain rfl := TY_int k1
  rw [List.append_assoc] at h1 h2
  exact kk q H1 h1 h2 h3
theorem sx_newc (hexec : p.tables.exec = Jvm.exec) (hb : c.code = cc) (harr : (Cond.arrayClass .char).before args s = true) (hK : va_K D cl (TY y) s) (hP : va_P D cl (w0 ++ X) H) (hD : va_D A (w0 ++ X)) (hS : va_S A H0 H locs) (hA : ∀ q, H0.size ≤ q → A q) {n : Int32} (N' : Nat) (hn : ¬ n < 0) (hN : n.toNatClampNeg = N') (hbytes : N' * componentBytes .char ≤ 536870912) (hcells : cells + 1 ≤ R.cells) (hslots : slots + N' ≤ R.slots) (hdg : decode cc pc = .ok (.newarray .char, 2))
    (kk : ∀ (q : Nat) (H1 : Heap), va_P D cl (w0 ++ (X ++ [(q, .inl (y 1, N', .inl (fun _ => 0)))])) H1 → va_D A (w0 ++ (X ++ [(q, .inl (y 1, N', .inl (fun _ => 0)))])) → va_S A H0 H1 locs → W p l e R s m args below meth c H1 locs (cells + 1) (slots + N') Q (F0 m (pc + 2) ls (.ref q :: rest))) : W p l e R s m args below meth c H locs cells slots Q (F0 m pc ls (.int n :: rest)) := by
  refine va_newa (atype := .char) (ty := .char) (a0 := (N', .inl (fun _ => 0))) hexec hb harr rfl hK hP hD hS hA (fun _ => rfl) hn hN hbytes hcells hslots hdg fun q cA H1 k1 h1 h2 h3 => ?_
  obtain rfl := TY_char k1
  rw [List.append_assoc] at h1 h2
  exact kk q H1 h1 h2 h3
theorem sx_newz (hexec : p.tables.exec = Jvm.exec) (hb : c.code = cc) (harr : (Cond.arrayClass .boolean).before args s = true) (hK : va_K D cl (TY y) s) (hP : va_P D cl (w0 ++ X) H) (hD : va_D A (w0 ++ X)) (hS : va_S A H0 H locs) (hA : ∀ q, H0.size ≤ q → A q) {n : Int32} (N' : Nat) (hn : ¬ n < 0) (hN : n.toNatClampNeg = N') (hbytes : N' * componentBytes .boolean ≤ 536870912) (hcells : cells + 1 ≤ R.cells) (hslots : slots + N' ≤ R.slots) (hdg : decode cc pc = .ok (.newarray .boolean, 2))
    (kk : ∀ (q : Nat) (H1 : Heap), va_P D cl (w0 ++ (X ++ [(q, .inl (y 2, N', .inl (fun _ => 0)))])) H1 → va_D A (w0 ++ (X ++ [(q, .inl (y 2, N', .inl (fun _ => 0)))])) → va_S A H0 H1 locs → W p l e R s m args below meth c H1 locs (cells + 1) (slots + N') Q (F0 m (pc + 2) ls (.ref q :: rest))) : W p l e R s m args below meth c H locs cells slots Q (F0 m pc ls (.int n :: rest)) := by
  refine va_newa (atype := .boolean) (ty := .boolean) (a0 := (N', .inl (fun _ => 0))) hexec hb harr rfl hK hP hD hS hA (fun _ => rfl) hn hN hbytes hcells hslots hdg fun q cA H1 k1 h1 h2 h3 => ?_
  obtain rfl := TY_bool k1
  rw [List.append_assoc] at h1 h2
  exact kk q H1 h1 h2 h3
theorem sx_newo (hexec : p.tables.exec = Jvm.exec) (hb : c.code = cc) {own : String} {index : Nat} (hown : s.vm.findClass own = some m.cls) (hclink : (Cond.classLink own index "java/lang/Object").before args s = true) (hover : va_AO "java/lang/Object" s) (hK : va_K D cl (TY y) s) (hP : va_P D cl (w0 ++ X) H) (hD : va_D A (w0 ++ X)) (hS : va_S A H0 H locs) (hA : ∀ q, H0.size ≤ q → A q) {n : Int32} (N' : Nat) (hn : ¬ n < 0) (hN : n.toNatClampNeg = N') (hbytes : N' * 4 ≤ 536870912) (hcells : cells + 1 ≤ R.cells) (hslots : slots + N' ≤ R.slots) (hdg : decode cc pc = .ok (.anewarray index, 3))
    (kk : ∀ (q : Nat) (H1 : Heap), va_P D cl (w0 ++ (X ++ [(q, .inl (y 3, N', .inr (.inr (.inr (.inr (fun _ => none))))))])) H1 → va_D A (w0 ++ (X ++ [(q, .inl (y 3, N', .inr (.inr (.inr (.inr (fun _ => none))))))])) → va_S A H0 H1 locs → W p l e R s m args below meth c H1 locs (cells + 1) (slots + N') Q (F0 m (pc + 3) ls (.ref q :: rest))) : W p l e R s m args below meth c H locs cells slots Q (F0 m pc ls (.int n :: rest)) := by
  refine va_newq hexec hb hown hclink hover hK hP hD hS hA hn hN hbytes hcells hslots hdg fun q cA H1 k1 h1 h2 h3 => ?_
  obtain rfl := TY_obj k1
  rw [List.append_assoc] at h1 h2
  exact kk q H1 h1 h2 h3
theorem sx_new (hexec : p.tables.exec = Jvm.exec) (hb : c.code = cc) {own C : String} {T : u_T} {N ci index : Nat} {Ts : List Cond} (hts : ∀ w ∈ Ts, w.before args s = true) (hin : ∀ w ∈ u_ws C T N, w ∈ Ts) (ty : Nat → FieldType) (hty : ∀ k, k < N → parseFieldDescriptor (T k).2.2.1 = some (ty k)) (hown : s.vm.findClass own = some m.cls) (hcl : (Cond.classLink own index C).before args s = true) (hinst : (Cond.instantiable C N).before args s = true) (hini : (Cond.initialized C).before args s = true)
    (hK : va_K D cl tys s) (hP : va_P D cl (w0 ++ X) H) (hD : va_D A (w0 ++ X)) (hS : va_S A H0 H locs) (hA : ∀ q, H0.size ≤ q → A q) (hc : cl[ci]? = some (C, T, N)) {fs : List Value} (hfs : ∀ j, j < N → defaultValue (ty j) = vp_V fs j) (hcells : cells + 1 ≤ R.cells) (hslots : slots + N ≤ R.slots) (hdg : decode cc pc = .ok (.new index, 3))
    (kk : ∀ (q : Nat) (H1 : Heap), va_P D cl (w0 ++ (X ++ [(q, .inr (ci, fs))])) H1 → va_D A (w0 ++ (X ++ [(q, .inr (ci, fs))])) → va_S A H0 H1 locs → W p l e R s m args below meth c H1 locs (cells + 1) (slots + N) Q (F0 m (pc + 3) ls (.ref q :: rest))) : W p l e R s m args below meth c H locs cells slots Q (F0 m pc ls rest) := by
  refine va_new hexec hb hts hin ty hty hown hcl hinst hini hK hP hD hS hA hc hfs hcells hslots hdg fun q H1 h1 h2 h3 => ?_
  rw [List.append_assoc] at h1 h2
  exact kk q H1 h1 h2 h3
theorem arr_recv {s : State} {H : Heap} {a q0 : Nat} {x : vp_A} {ws : va_W} (hK : va_K D cl (TY y) s) (hP : va_P D cl ws H) (he : ws[q0]? = some (a, .inl (y 3, x))) : ∃ cell : Cell, H[a]? = some cell ∧ cell.vm.isStatics = false ∧ s.vm.findClass "[Ljava/lang/Object;" = some cell.cls := by
  refine ⟨_, hP q0 _ he, ?_, ?_⟩
  · obtain ⟨n, f | f | f | f | f⟩ := x <;> rfl
  · refine (va_nmO (nm := "[Ljava/lang/Object;") (hK.2 3 _ rfl).2 (by decide +kernel)).trans ?_
    obtain ⟨n, f | f | f | f | f⟩ := x <;> rfl
theorem sx_copy (hexec : p.tables.exec = Jvm.exec) (hb : c.code = cc) (hml : c.maxLocals = ls.size) {own : String} {index : Nat} (hown : s.vm.findClass own = some m.cls) (hlink : (Cond.methodLink own index arraycopyName).before args s = true) (hnat : (Cond.native arraycopyName).before args s = true) (hstat : (Cond.static arraycopyName).before args s = true) (hini : (Cond.initialized "java/lang/System").before args s = true)
    (hK : va_K D vwCl (TY y) s) (hP : va_P D vwCl (wl Ls ad G ++ X) H) (hD : va_D A (wl Ls ad G ++ X)) (hS : va_S A H0 H locs) {r n0 n1 k i9 a ci : Nat} {f g : Nat → Option Nat} {rc : vw_C} (hr : r ∈ Ls) (er : G r = .inl (y 3, n0, .inr (.inr (.inr (.inr f))))) (ha1 : X[i9]? = some (a, .inl (y 3, n1, .inr (.inr (.inr (.inr g)))))) (hk0 : k ≤ n0) (hk1 : k ≤ n1) (hkb : k < 2 ^ 31)
    (hel : ∀ i, i < n0 → ∀ a, f i = some a → ∃ k fs, k ∈ Ls ∧ a = ad k ∧ G k = .inr (ci, fs)) (hci : vwCl[ci]? = some rc) (hca : va_Nw (.castable rc.1 "java/lang/Object") s)
    (hframes : 1 ≤ R.frames) (hlocals : (rest.map fun v => v.category).sum + (nativeFrameWords "java/lang/System" "arraycopy" 5 + 11) ≤ R.locals) (hdg : decode cc pc = .ok (.invokestatic index, 3))
    (kk : ∀ (H1 : Heap) (locs1 : List Loc), va_P D vwCl (wl Ls ad G ++ X.set i9 (a, .inl (y 3, n1, .inr (.inr (.inr (.inr (va_cpy f g 0 0 k))))))) H1 → va_D A (wl Ls ad G ++ X.set i9 (a, .inl (y 3, n1, .inr (.inr (.inr (.inr (va_cpy f g 0 0 k))))))) → va_S A H0 H1 locs1 → W p l e R s m args below meth c H1 locs1 cells slots Q (F0 m (pc + 3) ls rest)) : W p l e R s m args below meth c H locs cells slots Q (F0 m pc ls (.int (nI k) :: .int 0 :: .ref a :: .int 0 :: .ref (ad r) :: rest)) := by
  obtain ⟨q0, hq0, hq⟩ := wl_getx (ad := ad) (G := G) (X := X) hr
  have hc0 : (0 : Int32).toNatClampNeg = 0 := sb_cl0
  refine va_copyq (C := rc.1) hexec hb hml hown hlink hnat hstat hini hK hP hD hS q0 ((wl Ls ad G).length + i9) 3 3 (by rw [hq, er]) (wx_at ha1) rfl rfl (by decide) (by decide) (nI_pos hkb) (by rw [hc0, nI_clamp hkb]; omega) (by rw [hc0, nI_clamp hkb]; omega) ?_ ?_ hframes hlocals hdg fun H1 locs1 h1 h2 h3 => ?_
  · intro i hi y9 hy
    rw [nI_clamp hkb] at hi
    rw [hc0, Nat.zero_add] at hy
    obtain ⟨k2, fs, m1, rfl, m2⟩ := hel i (by omega) y9 hy
    obtain ⟨q3, -, hq3⟩ := wl_getx (ad := ad) (G := G) (X := X) m1
    exact va_recv hK hP hci (by rw [hq3, m2])
  · intro comp c0 e1 e2
    obtain ⟨c1, t1, f1, f2, f3⟩ := Cond.castable_spec (va_Nw.use (A := args) rfl hca)
    cases Option.some.inj (f1.symm.trans e2)
    cases Option.some.inj (f2.symm.trans e1)
    exact f3
  · rw [wx_set, hc0, nI_clamp hkb] at h1 h2
    exact kk H1 locs1 h1 h2 h3
theorem sx_aast (hexec : p.tables.exec = Jvm.exec) (hb : c.code = cc) (hK : va_K D vwCl (TY y) s) (hP : va_P D vwCl (w0 ++ X) H) (hD : va_D A (w0 ++ X)) (hS : va_S A H0 H locs) (i9 : Nat) {a n v k ix ci : Nat} {f : Nat → Option Nat} {rc : vw_C} {fs : List Value} (ha : X[i9]? = some (a, .inl (y 3, n, .inr (.inr (.inr (.inr f)))))) (hx9 : X[ix]? = some (v, .inr (ci, fs))) (hci : vwCl[ci]? = some rc) (hca : va_Nw (.castable rc.1 "java/lang/Object") s) {i : Int32} (hi : i = nI k) (hk : k < n) (hn : n < 2 ^ 31) (hdg : decode cc pc = .ok (.aastore, 1))
    (kk : ∀ (H1 : Heap) (locs1 : List Loc), va_P D vwCl (w0 ++ X.set i9 (a, .inl (y 3, n, .inr (.inr (.inr (.inr (va_up f k (some v)))))))) H1 → va_D A (w0 ++ X.set i9 (a, .inl (y 3, n, .inr (.inr (.inr (.inr (va_up f k (some v)))))))) → va_S A H0 H1 locs1 → W p l e R s m args below meth c H1 locs1 cells slots Q (F0 m (pc + 1) ls rest)) : W p l e R s m args below meth c H locs cells slots Q (F0 m pc ls (.ref v :: .int i :: .ref a :: rest)) := by
  subst hi
  refine va_astqO hexec hb hK hP hD hS (w0.length + i9) 3 (w0.length + ix) ci (wx_at ha) rfl hca (wx_at hx9) hci (vp_in_nI hk hn) hdg fun H1 locs1 h1 h2 h3 => ?_
  rw [wx_set, nI_clamp (by omega)] at h1 h2
  exact kk H1 locs1 h1 h2 h3
theorem px_aast (hexec : p.tables.exec = Jvm.exec) (hb : c.code = cc) (hK : va_K D vwCl (TY y) s) (hP : va_P D vwCl (wl Ls ad G ++ X) H) (hD : va_D A (wl Ls ad G ++ X)) (hS : va_S A H0 H locs) {r n v k ix ci : Nat} {f : Nat → Option Nat} {rc : vw_C} {fs : List Value} (hr : r ∈ Ls) (er : G r = .inl (y 3, n, .inr (.inr (.inr (.inr f))))) (hx9 : X[ix]? = some (v, .inr (ci, fs))) (hci : vwCl[ci]? = some rc) (hca : va_Nw (.castable rc.1 "java/lang/Object") s) {i : Int32} (hi : i = nI k) (hk : k < n) (hn : n < 2 ^ 31) (hdg : decode cc pc = .ok (.aastore, 1))
    (kk : ∀ (H1 : Heap) (locs1 : List Loc), va_P D vwCl (wl Ls ad (va_up G r (.inl (y 3, n, .inr (.inr (.inr (.inr (va_up f k (some v)))))))) ++ X) H1 → va_D A (wl Ls ad (va_up G r (.inl (y 3, n, .inr (.inr (.inr (.inr (va_up f k (some v)))))))) ++ X) → va_S A H0 H1 locs1 → W p l e R s m args below meth c H1 locs1 cells slots Q (F0 m (pc + 1) ls rest)) : W p l e R s m args below meth c H locs cells slots Q (F0 m pc ls (.ref v :: .int i :: .ref (ad r) :: rest)) := by
  obtain ⟨q0, hq0, hq⟩ := wl_getx (ad := ad) (G := G) (X := X) hr
  subst hi
  refine va_astqO hexec hb hK hP hD hS q0 3 ((wl Ls ad G).length + ix) ci (by rw [hq, er]) rfl hca (wx_at hx9) hci (vp_in_nI hk hn) hdg fun H1 locs1 h1 h2 h3 => ?_
  rw [wx_lset hD hq0, nI_clamp (by omega)] at h1 h2
  exact kk H1 locs1 h1 h2 h3
end PX
/-- what growing lists need: ArrayList's empty row at df, and words of the tables -/
def castO : List Cond := [.castable RX0 "java/lang/Object", .castable RX3 "java/lang/Object", .castable RX6 "java/lang/Object"]
def LsP (b0 df mi : Nat) (U : State) : Prop := va_Z "java/util/ArrayList" "DEFAULTCAPACITY_EMPTY_ELEMENTDATA" "[Ljava/lang/Object;" (.ref df) (fun q => b0 ≤ q) U U.heap ∧ va_T (.object "java/lang/Object") df 0 (fun _ => .null) (fun q => b0 ≤ q) U U.heap ∧ va_AO "java/lang/Object" U ∧ va_Dc U ∧ va_Mi "[Ljava/lang/Object;" mi U ∧ ∀ w ∈ castO, va_Nw w U
theorem LsP_at {b0 df mi : Nat} {s U : State} {H : Heap} {locs : List Loc} (h : LsP b0 df mi s) (hS : va_S (fun q => b0 ≤ q) s.heap H locs) (hU : U.heap = H) (hW : s.WarmedH U.vm) : LsP b0 df mi U := by
  obtain ⟨h1, h2, h3, h4, h5, h6⟩ := h
  subst hU
  refine ⟨(h1.kept hS.2.1).moved hW.alike, (h2.kept hS.2.1).moved hW.alike, h3.moved hW.alike, h4.moved hW.alike, h5.moved hW.alike, fun w hw => ?_⟩
  have hs := h6 w hw
  simp only [castO, List.mem_cons, List.not_mem_nil, or_false] at hw
  rcases hw with rfl | rfl | rfl <;> exact va_Nw.warmC hW hs
theorem LsP_call {b0 df mi : Nat} {U : State} {g : JFrame} {mk : MethodId} {a : Array Value} (h : LsP b0 df mi U) : LsP b0 df mi (U.calling g mk a) := by
  obtain ⟨h1, h2, h3, h4, h5, h6⟩ := h
  exact ⟨va_Z.moved (u := U) (U := U.calling g mk a) (Vm.Alike.refl U.vm) h1, va_T.moved (u := U) (U := U.calling g mk a) (Vm.Alike.refl U.vm) h2, va_AO.moved (u := U) (U := U.calling g mk a) (Vm.Alike.refl U.vm) h3, va_Dc.moved (u := U) (U := U.calling g mk a) (Vm.Alike.refl U.vm) h4, va_Mi.moved (u := U) (U := U.calling g mk a) (Vm.Alike.refl U.vm) h5, fun w hw => va_Nw.same (u := U) (U := U.calling g mk a) ((by decide +kernel : ∀ w ∈ castO, w.onTables = true) w hw) rfl (h6 w hw)⟩
def WdL (D : va_G) (y : Nat → ClassId) (b0 df mi : Nat) (ws : va_W) (U : State) : Prop := WdM D y b0 ws U ∧ LsP b0 df mi U
theorem WdL_blind {D : va_G} {y : Nat → ClassId} {b0 df mi : Nat} {ws : va_W} {av : List Value} : FrameBlind (va_Pc av (WdL D y b0 df mi ws)) := fun a U g mk q => ⟨q.1, (WdM_blind (av := av) a U g mk ⟨q.1, q.2.1⟩).2, LsP_call q.2.2⟩
theorem WdL_at {D : va_G} {y : Nat → ClassId} {b0 df mi : Nat} {ws : va_W} {s : State} {H : Heap} {locs : List Loc} {av : List Value} (hP : va_P D vwCl ws H) (hK : va_K D vwCl (TY y) s) (hN : ∀ w ∈ nestW, va_Nw w s) (hD : va_D (fun q => b0 ≤ q) ws) (hS : va_S (fun q => b0 ≤ q) s.heap H locs) (hb0 : b0 ≤ s.heap.size) (hT : ThP b0 s) (hL : LsP b0 df mi s) : ∀ U : State, U.heap = H → s.WarmedH U.vm → va_Pc av (WdL D y b0 df mi ws) av.toArray U := fun U hU hW => ⟨rfl, (WdM_at (av := av) hP hK hN hD hS hb0 hT U hU hW).2, LsP_at hL hS hU hW⟩
