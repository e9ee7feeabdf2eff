/-! a throw that this method's own table takes: rows ahead that name another kind are passed -/
/-- the search for a thing of the class k at pc ends at the handler h -/
def cxT (pl : Platform) (s : State) (d : ClassId) (pc : Nat) (k : ClassId) (h : Nat) : List ExceptionTableEntry → Prop
  | [] => False
  | x :: t => (covers x pc = false ∧ cxT pl s d pc k h t) ∨ (covers x pc = true ∧ x.catchType ≠ 0 ∧ ∃ c, s.vm.ClassLinks pl d x.catchType c ∧ ((s.vm.assignable k c = true ∧ x.handlerPc = h) ∨ (s.vm.assignable k c = false ∧ cxT pl s d pc k h t)))
theorem cx_row {e : Env} {S : State} {f : JFrame} {a : Addr} {x : ExceptionTableEntry} {t : List ExceptionTableEntry} {c : ClassId} {ce : Cell} (hx : covers x f.pc = true) (h0 : x.catchType ≠ 0) (hl : S.vm.ClassLinks e.platform f.method.cls x.catchType c) (hce : S.heap[a]? = some ce) (hv : ∀ k, ce.vm ≠ .statics k) (hk : ∃ k, S.vm.classes[ce.cls]? = some k) (hc : ∃ k, S.vm.classes[c]? = some k) (Q : Handler → Pre) (E : CtlPost) (d : Bool) (acts : List Action) :
    wp (findHandler.go f a (x :: t)) Q E e d acts S ↔ if S.vm.assignable ce.cls c = true then Q (.found x.handlerPc) d acts (S.setVm (S.vm.noted f.method.cls x.catchType (.cls c))) else wp (findHandler.go f a t) Q E e d acts (S.setVm (S.vm.noted f.method.cls x.catchType (.cls c))) := by
  simp only [covers] at hx
  obtain ⟨h1, h2⟩ := (resolveClass_links e.toSetting hl).op (op := VmOp.resolveClass f.method.cls x.catchType) rfl
  have hal : S.vm.Alike (S.vm.noted f.method.cls x.catchType (.cls c)) := (Vm.Alike.refl S.vm).noted _ _ _
  obtain ⟨k1, e1⟩ := hk
  obtain ⟨k2, e2⟩ := hc
  obtain ⟨k3, e3, -⟩ := hal.2.2 _ _ e1
  obtain ⟨k4, e4, -⟩ := hal.2.2 _ _ e2
  have has : (S.vm.noted f.method.cls x.catchType (.cls c)).assignable ce.cls c = S.vm.assignable ce.cls c := by rw [hal.assignable]
  cases hfit : S.vm.assignable ce.cls c <;> rw [hfit] at has <;> simp [findHandler.go, hx, h0, h1, h2, hce, hv, e3, e4, has, VmOp.dirties, VmOp.acts]
theorem cx_go {e : Env} {s : State} {f : JFrame} {a : Addr} {ce : Cell} {h : Nat} (hv : ∀ k, ce.vm ≠ .statics k) (hk : ∃ k, s.vm.classes[ce.cls]? = some k) : ∀ (tb : List ExceptionTableEntry) (S : State), s.WarmedH S.vm → S.heap[a]? = some ce → cxT e.platform s f.method.cls f.pc ce.cls h tb →
    ∃ vm', s.WarmedH vm' ∧ ∀ (Q : Handler → Pre) (E : CtlPost) (d : Bool) (acts : List Action), wp (findHandler.go f a tb) Q E e d acts S ↔ Q (.found h) d acts (S.setVm vm')
  | [], _, _, _, hT => absurd hT id
  | x :: t, S, hW, hce, hT => by
    obtain ⟨k1, e1⟩ := hk
    obtain ⟨k3, e3, -⟩ := hW.alike.2.2 _ _ e1
    rcases hT with ⟨hx, hT⟩ | ⟨hx, h0, c, hl, hT⟩
    · obtain ⟨vm', h1, h2⟩ := cx_go hv ⟨k1, e1⟩ t S hW hce hT
      exact ⟨vm', h1, fun Q E d acts => (W.findHandler_go_skip hx).trans (h2 Q E d acts)⟩
    · obtain ⟨dk, _, _, kt, hd, _, _, _, _, hkt, _, hop⟩ := hl.here
      obtain ⟨k4, e4, -⟩ := hW.alike.2.2 _ _ hkt
      have hW2 := hW.noted hd hop (State.rightAt_cls hl)
      have hr := fun Q E d acts => cx_row (e := e) (a := a) (t := t) hx h0 (hW.classLinks hl) hce hv ⟨k3, e3⟩ ⟨k4, e4⟩ Q E d acts
      rw [hW.alike.assignable] at hr
      rcases hT with ⟨ha, rfl⟩ | ⟨ha, hT⟩
      · exact ⟨_, hW2, fun Q E d acts => (hr Q E d acts).trans (by rw [if_pos ha])⟩
      · obtain ⟨vm', h1, h2⟩ := cx_go hv ⟨k1, e1⟩ t (S.setVm (S.vm.noted f.method.cls x.catchType (.cls c))) hW2 hce hT
        exact ⟨vm', h1, fun Q E d acts => (hr Q E d acts).trans (by rw [if_neg (by rw [ha]; decide)]; exact h2 Q E d acts)⟩
section
variable {p : Program} {l : Launch} {e : Env} {R : Room} {s : State} {m : MethodId} {args : Array Value} {below : List Frame} {meth : Method} {c : Code} {H : Heap} {locs : List Loc} {cells slots : Nat} {Q : State → Prop} {T : State}
theorem cx_step (X : Stand p l e R s m args below meth c T locs cells slots) {a : Addr} {g : JFrame} (hg : g.method = m) {h : Nat} {vm' : Vm}
    (hf : ∀ (Q : Handler → Pre) (E : CtlPost) (d : Bool) (acts : List Action), wp (findHandler g a) Q E e d acts ((T.setTop g).pushFrame (.throwing a)) ↔ Q (.found h) d acts (((T.setTop g).pushFrame (.throwing a)).setVm vm')) {t : State}
    (hr : Steps p.tables e below ((T.setVm vm').setTop { g with pc := h, stack := [.ref a] }) t) : Steps p.tables e below ((T.setTop g).pushFrame (.throwing a)) t := by
  subst hg
  have hA := X.here
  obtain ⟨h1, h2⟩ := hA.throwing a
  refine Steps.head h1 h2 ?_
  have hs : ∀ r, (stepThrowing e ((T.setTop g).pushFrame (.throwing a)) a (.java g :: r)).1 = (((T.setTop g).pushFrame (.throwing a)).setVm vm').setFrames (.java { g with pc := h, stack := [.ref a] } :: r) := fun r => by
    simp only [stepThrowing, searchFrame, vmDo]
    generalize hgo : Sem.go _ e false [] ((T.setTop g).pushFrame (.throwing a)) = res
    obtain ⟨as, rfl, -⟩ := Sem.eq_ok_of hgo (a := Handler.found h) (s' := ((T.setTop g).pushFrame (.throwing a)).setVm vm') (acts' := []) (by simp [hf _ _ _ _])
    rfl
  rw [stepThread_throwing (frames_entered hA.top _), hs]
  obtain ⟨g0, hg0⟩ := Option.isSome_iff_exists.mp hA.top
  obtain ⟨r, hr0⟩ := State.topJava?_eq_some.mp hg0
  have hr1 : (T.setVm vm').frames = .java g0 :: r := hr0
  rw [State.setTop_of_frames _ hr1] at hr
  have hq : ∀ (u : State) (F G : List Frame), ((u.setFrames F).setVm vm').setFrames G = (u.setVm vm').setFrames G := fun u F G => by
    rw [show (u.setFrames F).setVm vm' = (u.setVm vm').setFrames F from rfl, State.setFrames_setFrames]
  rw [hr0, List.tail_cons, State.pushFrame, hq, State.setTop_of_frames _ hr0, hq]
  exact hr
/-- caught at the handler h -/
theorem cx_catch {E : String} {ce : Cell} {q : Addr} {pc h : Nat} {ls : Array Slot} {rest : List Value} (hcell : H[q]? = some ce) (hv : ce.vm = .none) (hcl : s.vm.findClass E = some ce.cls) (hT : ∀ pl : Platform, pl.magicAccessors = ({} : Platform).magicAccessors → ∀ k, s.vm.findClass E = some k → cxT pl s m.cls pc k h c.exceptionTable.toList)
    (kk : W p l e R s m args below meth c H locs cells slots Q (F0 m h ls [.ref q])) : vx_W p l e R s m args below meth c H locs cells slots Q (F0 m pc ls rest) q := by
  intro T hH X
  have hpl : e.platform.magicAccessors = ({} : Platform).magicAccessors := by rw [X.admits.platform]
  obtain ⟨vm', hW, hf⟩ := cx_go (e := e) (s := s) (f := F0 m pc ls rest) (a := q) (ce := ce) (h := h) (VmData.ne_statics_of (by rw [hv]; rfl)) (by obtain ⟨k9, h9, -⟩ := Vm.findClass_spec hcl; exact ⟨k9, h9⟩) c.exceptionTable.toList ((T.setTop (F0 m pc ls rest)).pushFrame (.throwing q)) X.warmed (by rw [← hH] at hcell; exact hcell) (hT _ hpl _ hcl)
  obtain ⟨t, a1, b1⟩ := kk (T.setVm vm') hH (X.noted hW)
  exact ⟨t, cx_step X rfl (fun Q E d acts => by rw [W.findHandler_eq X.method' X.code]; exact hf Q E d acts) a1, b1⟩
end
section
variable {s : State} {args : Array Value} {own nm E : String} {d : ClassId} {pc h : Nat} {x : ExceptionTableEntry} {t : List ExceptionTableEntry} {pl : Platform} {k : ClassId}
theorem cx_take (hown : s.vm.findClass own = some d) (hpl : pl.magicAccessors = ({} : Platform).magicAccessors) (hk : s.vm.findClass E = some k) (hx : covers x pc = true) (h0 : x.catchType ≠ 0) (hl : (Cond.classLink own x.catchType nm).before args s = true) (hc : (Cond.castable E nm).before args s = true) (hh : x.handlerPc = h) : cxT pl s d pc k h (x :: t) := by
  obtain ⟨c3, c4, h3, h4, h5⟩ := Cond.castable_spec hc
  cases Option.some.inj (h3.symm.trans hk)
  obtain ⟨c5, h6, h7⟩ := Cond.classLink_spec hown hl pl hpl
  cases Option.some.inj (h4.symm.trans h6)
  exact Or.inr ⟨hx, h0, _, h7, Or.inl ⟨h5, hh⟩⟩
theorem cx_pass (hown : s.vm.findClass own = some d) (hpl : pl.magicAccessors = ({} : Platform).magicAccessors) (hk : s.vm.findClass E = some k) (hx : covers x pc = true) (h0 : x.catchType ≠ 0) (hl : (Cond.classLink own x.catchType nm).before args s = true) (hc : va_Nc E nm s) (ht : cxT pl s d pc k h t) : cxT pl s d pc k h (x :: t) := by
  obtain ⟨c3, c4, h3, h4, h5⟩ := hc
  cases Option.some.inj (h3.symm.trans hk)
  obtain ⟨c5, h6, h7⟩ := Cond.classLink_spec hown hl pl hpl
  cases Option.some.inj (h4.symm.trans h6)
  exact Or.inr ⟨hx, h0, _, h7, Or.inr ⟨h5, ht⟩⟩
theorem cx_skip (hx : covers x pc = false) (ht : cxT pl s d pc k h t) : cxT pl s d pc k h (x :: t) := Or.inl ⟨hx, ht⟩
end
