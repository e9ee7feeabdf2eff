/-! methods that write or throw: what they are told, what they leave -/
def exN : Nat → String
  | 0 => "java/lang/IllegalArgumentException"
  | 1 => "java/lang/UnsupportedOperationException"
  | 2 => "java/util/NoSuchElementException"
  | 3 => "java/lang/IllegalStateException"
  | 4 => "java/lang/ArithmeticException"
  | _ => "java/lang/ArrayIndexOutOfBoundsException"
def castW : List Cond := [.castable "java/lang/IllegalArgumentException" "java/lang/IllegalArgumentException", .castable "java/lang/UnsupportedOperationException" "java/lang/UnsupportedOperationException", .castable "java/util/NoSuchElementException" "java/util/NoSuchElementException", .castable "java/lang/IllegalStateException" "java/lang/IllegalStateException", .castable "java/lang/ArithmeticException" "java/lang/ArithmeticException", .castable "java/lang/ArrayIndexOutOfBoundsException" "java/lang/ArrayIndexOutOfBoundsException", .declares ⟨"java/lang/RuntimeException", "<init>", "(Ljava/lang/String;)V"⟩, .declares ⟨"java/lang/Exception", "<init>", "(Ljava/lang/String;)V"⟩, .declares ⟨"java/lang/Throwable", "<init>", "(Ljava/lang/String;)V"⟩, .declares ⟨"java/lang/IndexOutOfBoundsException", "<init>", "(Ljava/lang/String;)V"⟩]
def strT : List (Nat × String) := [(56, "no such sign"), (67, "the text is full"), (98, "no room for a unit"), (120, "no room for a change"), (136, "no such number of pieces"), (138, "no room for a move"), (161, "no unit-days"), (173, "the month is billed"), (184, "the month is not billed"), (195, "no such line"), (208, "a line has no such number"), (226, "no such sign was printed"), (241, "no such owner"), (243, "no such class or kind"), (245, "no such day"), (247, "no such month"), (249, "no such unit"), (254, "the unit is gone"), (259, "the day is before the last one told")]
abbrev N3 : List String := ["java/lang/IndexOutOfBoundsException", "java/lang/RuntimeException", "java/lang/Exception"]
abbrev N2 : List String := ["java/lang/RuntimeException", "java/lang/Exception"]
/-- what a throw needs: two statics that lie below b0, the casts, the texts -/
def ThP (b0 : Nat) (U : State) : Prop := vx_Zq Bundle.tN "UNASSIGNED_STACK" Bundle.steD (fun q => b0 ≤ q) U U.heap ∧ vx_Zq Bundle.tN "SUPPRESSED_SENTINEL" Bundle.listD (fun q => b0 ≤ q) U U.heap ∧ (∀ w ∈ castW, va_Nw w U) ∧ ∀ t ∈ strT, ∃ sa : Nat, vk_R RX7 t.1 t.2 sa U
theorem castW_warm {s U : State} (hW : s.WarmedH U.vm) (h : ∀ w ∈ castW, va_Nw w s) : ∀ w ∈ castW, va_Nw w U := by
  intro w hw
  have hs := h w hw
  simp only [castW, List.mem_cons, List.not_mem_nil, or_false] at hw
  rcases hw with rfl | rfl | rfl | rfl | rfl | rfl | rfl | rfl | rfl | rfl <;> first | exact va_Nw.warmC hW hs | exact va_Nw.warmD hW hs
theorem castW_same {u U : State} (hv : u.vm = U.vm) (h : ∀ w ∈ castW, va_Nw w u) : ∀ w ∈ castW, va_Nw w U := fun w hw => va_Nw.same ((by decide +kernel : ∀ w ∈ castW, w.onTables = true) w hw) hv (h w hw)
theorem ThP_at {b0 : Nat} {s U : State} {H : Heap} {locs : List Loc} (h : ThP b0 s) (hS : va_S (fun q => b0 ≤ q) s.heap H locs) (hU : U.heap = H) (hW : s.WarmedH U.vm) : ThP b0 U := by
  obtain ⟨h1, h2, h3, h4⟩ := h
  subst hU
  exact ⟨(h1.kept hS.2.1).moved hW.alike, (h2.kept hS.2.1).moved hW.alike, castW_warm hW h3, fun t ht => by obtain ⟨sa, hsa⟩ := h4 t ht; exact ⟨sa, vk_R.warm hW hsa⟩⟩
theorem ThP_call {b0 : Nat} {U : State} {g : JFrame} {mk : MethodId} {a : Array Value} (h : ThP b0 U) : ThP b0 (U.calling g mk a) := by
  obtain ⟨h1, h2, h3, h4⟩ := h
  exact ⟨vx_Zq.moved (u := U) (U := U.calling g mk a) (Vm.Alike.refl U.vm) h1, vx_Zq.moved (u := U) (U := U.calling g mk a) (Vm.Alike.refl U.vm) h2, castW_same (u := U) (U := U.calling g mk a) rfl h3, fun t ht => by obtain ⟨sa, hsa⟩ := h4 t ht; exact ⟨sa, vk_R.same (u := U) (U := U.calling g mk a) rfl hsa⟩⟩
/-- what a method that writes or throws is told -/
def WdM (D : va_G) (y : Nat → ClassId) (b0 : Nat) (ws : va_W) (U : State) : Prop := Wd D y ws U ∧ va_D (fun q => b0 ≤ q) ws ∧ b0 ≤ U.heap.size ∧ ThP b0 U
theorem WdM_blind {D : va_G} {y : Nat → ClassId} {b0 : Nat} {ws : va_W} {av : List Value} : FrameBlind (va_Pc av (WdM D y b0 ws)) := fun a U g mk q => ⟨q.1, (Wd_blind (av := av) a U g mk ⟨q.1, q.2.1⟩).2, q.2.2.1, q.2.2.2.1, ThP_call q.2.2.2.2⟩
theorem WdM_at {D : va_G} {y : Nat → ClassId} {b0 : Nat} {ws : va_W} {s : State} {H : Heap} {locs : List Loc} {av : List Value} (hP : va_P D vwCl ws H) (hK : va_K D vwCl (TY y) s) (hN : ∀ w ∈ nestW, va_Nw w s) (hD : va_D (fun q => b0 ≤ q) ws) (hS : va_S (fun q => b0 ≤ q) s.heap H locs) (hb0 : b0 ≤ s.heap.size) (hT : ThP b0 s) : ∀ U : State, U.heap = H → s.WarmedH U.vm → va_Pc av (WdM D y b0 ws) av.toArray U := fun U hU hW => ⟨rfl, (Wd_at (av := av) hP hK hN U hU hW).2, hD, by rw [hU]; exact Nat.le_trans hb0 hS.1, ThP_at hT hS hU hW⟩
/-- what is left behind it -/
def WB (D : va_G) (b0 : Nat) (u : va_W) (t : State) : Prop := va_P D vwCl u t.heap ∧ va_D (fun q => b0 ≤ q) u
/-- what is left behind a throw: which, why; the world as it was -/
abbrev XX (D : va_G) (b0 : Nat) (ws : va_W) (px : Nat → Prop) : String → State → State → Prop := vx_X px (fun E k t => E = exN k ∧ va_P D vwCl ws t.heap) (fun q => b0 ≤ q)
theorem wl_D {A : Nat → Prop} {Ls : List Nat} {ad : Nat → Nat} {G G' : Nat → va_E} (h : va_D A (wl Ls ad G)) : va_D A (wl Ls ad G') := by
  refine ⟨fun i j p q hi hj e => ?_, fun k q hk => ?_⟩
  · obtain ⟨a, ha, rfl⟩ := wl_lab hi
    obtain ⟨b, hb, rfl⟩ := wl_lab hj
    exact h.1 i j (ad a, G a) (ad b, G b) (by rw [wl, List.getElem?_map, ha]; rfl) (by rw [wl, List.getElem?_map, hb]; rfl) e
  · obtain ⟨a, ha, rfl⟩ := wl_lab hk
    exact h.2 k (ad a, G a) (by rw [wl, List.getElem?_map, ha]; rfl)
section PT
variable {p : Program} {l : Launch} {e : Env} {R : Room} {s : State} {m : MethodId} {args : Array Value} {below : List Frame} {meth : Method} {c : Code} {H : Heap} {locs : List Loc} {cells slots : Nat}
variable {cc : ByteArray} {pc : Nat} {ls : Array Slot} {rest : List Value} {D : va_G} {ws : va_W} {Qc : Array Value → State → Outcome → State → Prop}
theorem XX_of {b0 k : Nat} {px : Nat → Prop} (hpx : px k) (hP : va_P D vwCl ws H) (hS : va_S (fun q => b0 ≤ q) s.heap H locs) : ∀ t : State, s.vm.Alike t.vm → H.size ≤ t.heap.size → (∀ q : Nat, q < H.size → t.heap[q]? = H[q]?) → XX D b0 ws px (exN k) s t := fun t _ hz hh => ⟨k, hpx, ⟨rfl, hP.kept fun i q hi => hh q.1 (hP i q hi).lt⟩, Nat.le_trans hS.1 hz, fun q h1 h2 => (hh q (Nat.lt_of_lt_of_le h1 hS.1)).trans (hS.2.1 q h1 h2)⟩
theorem pv_thr (hexec : p.tables.exec = Jvm.exec) (hb : c.code = cc) (hl : l.stackTraces = false) {ik is ic mc ms b0 : Nat} {text : String} {Ts : List Cond} {px : Nat → Prop} (k : Nat) (hpx : px k) (hts : ∀ w ∈ Ts, w.before args s = true) (hown : s.vm.findClass RX7 = some m.cls)
    (hcls : Bundle.fit (exN k) = true) (hk : Cond.classLink RX7 ik (exN k) ∈ Ts) (hini : Cond.initialized (exN k) ∈ Ts) (hstr : (is, text) ∈ strT) (hsub : ∀ w ∈ (vx_atS RX7 ic (exN k) N2).filter goodWord, w ∈ Ts) (hsb : ∀ w ∈ (vx_atS RX7 ic (exN k) N2).filter (fun w => !goodWord w), w ∈ castW)
    (hgood : ∀ w ∈ Cond.classLink RX7 ik (exN k) :: Cond.initialized (exN k) :: vx_atS RX7 ic (exN k) N2, vx_ot w = true)
    (hT : ThP b0 s) (hP : va_P D vwCl ws H) (hS : va_S (fun q => b0 ≤ q) s.heap H locs) (hsize : ls.size = c.maxLocals)
    (d0 : decode cc pc = .ok (.new ik, 3)) (d3 : decode cc (pc + 3) = .ok (.dup, 1)) (d4 : decode cc (pc + 4) = .ok (.ldc is, 2)) (d6 : decode cc (pc + 6) = .ok (.invokespecial ic, 3)) (d9 : decode cc (pc + 9) = .ok (.athrow, 1))
    (hno : ∀ x ∈ c.exceptionTable.toList, False) (hRf : 5 < R.frames) (hRl : (rest.map fun v => v.category).sum + 82 ≤ R.locals) (hRc : cells + 1 ≤ R.cells) (hRs : slots + 6 ≤ R.slots) (hlocks : meth.locks = false) (hc : cells + 1 ≤ mc) (hs : slots + 6 ≤ ms) :
    W p l e R s m args below meth c H locs cells slots (vx_MQ below Qc (XX D b0 ws px) args s mc ms (fun q => b0 ≤ q)) (F0 m pc ls rest) := by
  obtain ⟨sa, hsa⟩ := hT.2.2.2 _ hstr
  exact vx_throwS (names := N2) hexec hb hl hown hcls (by decide +kernel) (hts _ hk) (hts _ hini) hsa (vx_hat (fun w h => hts w (hsub w h)) hsb (fun w h => va_Nw.use ((by decide +kernel : ∀ w ∈ castW, w.onTables = true) w h) (hT.2.2.1 w h))) hgood hT.1 hT.2.1 hS hsize d0 d3 d4 d6 d9 (fun x hx => (hno x hx).elim) hRf hRl hRc hRs hlocks (XX_of hpx hP hS) hS.2.2 hc hs
theorem pv_thrN (hexec : p.tables.exec = Jvm.exec) (hb : c.code = cc) (hl : l.stackTraces = false) {ik is mc ms b0 : Nat} {text : String} {Ts : List Cond} {px : Nat → Prop} (_k : Nat) (hpx : px 2) (hts : ∀ w ∈ Ts, w.before args s = true) (hown : s.vm.findClass RX7 = some m.cls)
    (_hcls : Bundle.fit (exN 2) = true) (hk : Cond.classLink RX7 ik (exN 2) ∈ Ts) (hini : Cond.initialized (exN 2) ∈ Ts) (hstr : (is, text) ∈ strT) (hsub : ∀ w ∈ nxA.filter goodWord, w ∈ Ts) (hsb : ∀ w ∈ nxA.filter (fun w => !goodWord w), w ∈ castW)
    (hgood : ∀ w ∈ Cond.classLink RX7 ik (exN 2) :: Cond.initialized (exN 2) :: nxA, vx_ot w = true)
    (hT : ThP b0 s) (hP : va_P D vwCl ws H) (hS : va_S (fun q => b0 ≤ q) s.heap H locs) (hsize : ls.size = c.maxLocals)
    (d0 : decode cc pc = .ok (.new ik, 3)) (d3 : decode cc (pc + 3) = .ok (.dup, 1)) (d4 : decode cc (pc + 4) = .ok (.ldc is, 2)) (d6 : decode cc (pc + 6) = .ok (.invokespecial 197, 3)) (d9 : decode cc (pc + 9) = .ok (.athrow, 1))
    (hno : ∀ x ∈ c.exceptionTable.toList, False) (hRf : 5 < R.frames) (hRl : (rest.map fun v => v.category).sum + 82 ≤ R.locals) (hRc : cells + 1 ≤ R.cells) (hRs : slots + 6 ≤ R.slots) (hlocks : meth.locks = false) (hc : cells + 1 ≤ mc) (hs : slots + 6 ≤ ms) :
    W p l e R s m args below meth c H locs cells slots (vx_MQ below Qc (XX D b0 ws px) args s mc ms (fun q => b0 ≤ q)) (F0 m pc ls rest) := by
  obtain ⟨sa, hsa⟩ := hT.2.2.2 _ hstr
  exact nx_throw hexec hb hl hown (hts _ hk) (hts _ hini) hsa (vx_hat (fun w h => hts w (hsub w h)) hsb (fun w h => va_Nw.use ((by decide +kernel : ∀ w ∈ castW, w.onTables = true) w h) (hT.2.2.1 w h))) hgood hT.1 hT.2.1 hS hsize d0 d3 d4 d6 d9 (fun x hx => (hno x hx).elim) hRf hRl hRc hRs hlocks (XX_of (k := 2) hpx hP hS) hS.2.2 hc hs
theorem pv_thr3 (hexec : p.tables.exec = Jvm.exec) (hb : c.code = cc) (hl : l.stackTraces = false) {ik is ic mc ms b0 : Nat} {text : String} {Ts : List Cond} {px : Nat → Prop} (k : Nat) (hpx : px k) (hts : ∀ w ∈ Ts, w.before args s = true) (hown : s.vm.findClass RX7 = some m.cls)
    (hcls : Bundle.fit (exN k) = true) (hk : Cond.classLink RX7 ik (exN k) ∈ Ts) (hini : Cond.initialized (exN k) ∈ Ts) (hstr : (is, text) ∈ strT) (hsub : ∀ w ∈ (vx_atS RX7 ic (exN k) N3).filter goodWord, w ∈ Ts) (hsb : ∀ w ∈ (vx_atS RX7 ic (exN k) N3).filter (fun w => !goodWord w), w ∈ castW)
    (hgood : ∀ w ∈ Cond.classLink RX7 ik (exN k) :: Cond.initialized (exN k) :: vx_atS RX7 ic (exN k) N3, vx_ot w = true)
    (hT : ThP b0 s) (hP : va_P D vwCl ws H) (hS : va_S (fun q => b0 ≤ q) s.heap H locs) (hsize : ls.size = c.maxLocals)
    (d0 : decode cc pc = .ok (.new ik, 3)) (d3 : decode cc (pc + 3) = .ok (.dup, 1)) (d4 : decode cc (pc + 4) = .ok (.ldc is, 2)) (d6 : decode cc (pc + 6) = .ok (.invokespecial ic, 3)) (d9 : decode cc (pc + 9) = .ok (.athrow, 1))
    (hno : ∀ x ∈ c.exceptionTable.toList, False) (hRf : 6 < R.frames) (hRl : (rest.map fun v => v.category).sum + 95 ≤ R.locals) (hRc : cells + 1 ≤ R.cells) (hRs : slots + 6 ≤ R.slots) (hlocks : meth.locks = false) (hc : cells + 1 ≤ mc) (hs : slots + 6 ≤ ms) :
    W p l e R s m args below meth c H locs cells slots (vx_MQ below Qc (XX D b0 ws px) args s mc ms (fun q => b0 ≤ q)) (F0 m pc ls rest) := by
  obtain ⟨sa, hsa⟩ := hT.2.2.2 _ hstr
  exact vx_throwS (names := N3) hexec hb hl hown hcls (by decide +kernel) (hts _ hk) (hts _ hini) hsa (vx_hat (fun w h => hts w (hsub w h)) hsb (fun w h => va_Nw.use ((by decide +kernel : ∀ w ∈ castW, w.onTables = true) w h) (hT.2.2.1 w h))) hgood hT.1 hT.2.1 hS hsize d0 d3 d4 d6 d9 (fun x hx => (hno x hx).elim) hRf hRl hRc hRs hlocks (XX_of hpx hP hS) hS.2.2 hc hs
theorem pv_thrW (hexec : p.tables.exec = Jvm.exec) (hb : c.code = cc) (hl : l.stackTraces = false) {ik is ic mc ms b0 : Nat} {text : String} {Ts : List Cond} {px : Nat → Prop} (k : Nat) (hpx : px k) (hts : ∀ w ∈ Ts, w.before args s = true) (hown : s.vm.findClass RX7 = some m.cls)
    (hcls : Bundle.fit (exN k) = true) (hk : Cond.classLink RX7 ik (exN k) ∈ Ts) (hini : Cond.initialized (exN k) ∈ Ts) (hstr : (is, text) ∈ strT) (hsub : ∀ w ∈ (vx_atS RX7 ic (exN k) N2).filter goodWord, w ∈ Ts) (hsb : ∀ w ∈ (vx_atS RX7 ic (exN k) N2).filter (fun w => !goodWord w), w ∈ castW)
    (hgood : ∀ w ∈ Cond.classLink RX7 ik (exN k) :: Cond.initialized (exN k) :: vx_atS RX7 ic (exN k) N2, vx_ot w = true)
    (hT : ThP b0 s) (hP : va_P D vwCl ws H) (hS : va_S (fun q => b0 ≤ q) s.heap H locs) (hsize : ls.size = c.maxLocals)
    (d0 : decode cc pc = .ok (.new ik, 3)) (d3 : decode cc (pc + 3) = .ok (.dup, 1)) (d4 : decode cc (pc + 4) = .ok (.ldc_w is, 3)) (d7 : decode cc (pc + 7) = .ok (.invokespecial ic, 3)) (d10 : decode cc (pc + 10) = .ok (.athrow, 1))
    (hno : ∀ x ∈ c.exceptionTable.toList, False) (hRf : 5 < R.frames) (hRl : (rest.map fun v => v.category).sum + 82 ≤ R.locals) (hRc : cells + 1 ≤ R.cells) (hRs : slots + 6 ≤ R.slots) (hlocks : meth.locks = false) (hc : cells + 1 ≤ mc) (hs : slots + 6 ≤ ms) :
    W p l e R s m args below meth c H locs cells slots (vx_MQ below Qc (XX D b0 ws px) args s mc ms (fun q => b0 ≤ q)) (F0 m pc ls rest) := by
  obtain ⟨sa, hsa⟩ := hT.2.2.2 _ hstr
  exact vx_throwSW (names := N2) hexec hb hl hown hcls (by decide +kernel) (hts _ hk) (hts _ hini) hsa (vx_hat (fun w h => hts w (hsub w h)) hsb (fun w h => va_Nw.use ((by decide +kernel : ∀ w ∈ castW, w.onTables = true) w h) (hT.2.2.1 w h))) hgood hT.1 hT.2.1 hS hsize d0 d3 d4 d7 d10 (fun x hx => (hno x hx).elim) hRf hRl hRc hRs hlocks (XX_of hpx hP hS) hS.2.2 hc hs
/-- a callee has thrown: it goes on to our caller -/
theorem pv_out {b0 k mc ms : Nat} {px : Nat → Prop} {E : String} {ce : Cell} {q : Addr} {t : State} (hpx : px k) (hB : E = exN k ∧ va_P D vwCl ws t.heap) (ht : t.heap = H) (hS : va_S (fun q => b0 ≤ q) s.heap H locs) (hno : ∀ x ∈ c.exceptionTable.toList, False) (hlocks : meth.locks = false) (hcell : H[q]? = some ce) (hv : ce.vm = .none) (hcl : s.vm.findClass E = some ce.cls) (hc : cells ≤ mc) (hs : slots ≤ ms) :
    vx_W p l e R s m args below meth c H locs cells slots (vx_MQ below Qc (XX D b0 ws px) args s mc ms (fun q => b0 ≤ q)) (F0 m pc ls rest) q :=
  vx_out (fun x hx => (hno x hx).elim) hlocks hcell hv hcl (fun t' ht' _ => ⟨k, hpx, ⟨hB.1, by rw [ht', ← ht]; exact hB.2⟩, hS.F ht'⟩) hS.2.2 hc hs
end PT
theorem thr_b2 : ∀ w ∈ nxA.filter (fun w => !goodWord w), w ∈ castW := by decide +kernel
theorem thr_b0 : ∀ w ∈ (vx_atS RX7 58 (exN 0) N2).filter (fun w => !goodWord w), w ∈ castW := by decide +kernel
theorem thr_b1 : ∀ w ∈ (vx_atS RX7 69 (exN 1) N2).filter (fun w => !goodWord w), w ∈ castW := by decide +kernel
theorem thr_b3 : ∀ w ∈ (vx_atS RX7 175 (exN 3) N2).filter (fun w => !goodWord w), w ∈ castW := by decide +kernel
theorem thr_b4 : ∀ w ∈ (vx_atS RX7 163 (exN 4) N2).filter (fun w => !goodWord w), w ∈ castW := by decide +kernel
theorem thr_b5 : ∀ w ∈ (vx_atS RX7 228 (exN 5) N3).filter (fun w => !goodWord w), w ∈ castW := by decide +kernel
