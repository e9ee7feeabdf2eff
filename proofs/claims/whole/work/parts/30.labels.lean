/-! new cells get their labels -/
def Ext (Ls : List Nat) (ad : Nat → Nat) (G : Nat → va_E) (Ls2 : List Nat) (ad2 : Nat → Nat) (G2 : Nat → va_E) (P : Nat → Prop) : Prop := (∀ k, k ∈ Ls → k ∈ Ls2) ∧ (∀ k, k ∈ Ls2 → k ∈ Ls ∨ P k) ∧ ∀ k, ¬ P k → ad2 k = ad k ∧ G2 k = G k
theorem Ext.rf {Ls : List Nat} {ad : Nat → Nat} {G : Nat → va_E} {P : Nat → Prop} : Ext Ls ad G Ls ad G P := ⟨fun _ h => h, fun _ h => Or.inl h, fun _ _ => ⟨rfl, rfl⟩⟩
theorem Ext.tr {Ls : List Nat} {ad : Nat → Nat} {G : Nat → va_E} {Ls2 : List Nat} {ad2 : Nat → Nat} {G2 : Nat → va_E} {Ls3 : List Nat} {ad3 : Nat → Nat} {G3 : Nat → va_E} {P Q R : Nat → Prop} (h1 : Ext Ls ad G Ls2 ad2 G2 P) (h2 : Ext Ls2 ad2 G2 Ls3 ad3 G3 Q) (hP : ∀ k, P k → R k) (hQ : ∀ k, Q k → R k) : Ext Ls ad G Ls3 ad3 G3 R :=
  ⟨fun k h => h2.1 k (h1.1 k h), fun k h => (h2.2.1 k h).elim (fun h => (h1.2.1 k h).elim Or.inl (fun h => Or.inr (hP k h))) (fun h => Or.inr (hQ k h)), fun k h => ⟨((h2.2.2 k (fun q => h (hQ k q))).1).trans (h1.2.2 k (fun q => h (hP k q))).1, ((h2.2.2 k (fun q => h (hQ k q))).2).trans (h1.2.2 k (fun q => h (hP k q))).2⟩⟩
theorem rel_push {Ls : List Nat} {ad : Nat → Nat} {G : Nat → va_E} {x q : Nat} {e : va_E} {X : va_W} (hx : x ∉ Ls) : wl Ls ad G ++ ((q, e) :: X) = wl (Ls ++ [x]) (va_up ad x q) (va_up G x e) ++ X := by
  rw [show (q, e) :: X = [(q, e)] ++ X from rfl, ← List.append_assoc, wl_push hx]
theorem Ext.push {Ls : List Nat} {ad : Nat → Nat} {G : Nat → va_E} {x q : Nat} {e : va_E} : Ext Ls ad G (Ls ++ [x]) (va_up ad x q) (va_up G x e) (fun k => k = x) :=
  ⟨fun k h => List.mem_append_left _ h, fun k h => (List.mem_append.mp h).elim Or.inl (fun h => Or.inr (List.mem_singleton.mp h)), fun k h => ⟨va_up_ne _ _ h, va_up_ne _ _ h⟩⟩
/-- a list's new row takes the label of its old one -/
theorem rel_row {A : Nat → Prop} {D : va_G} {cl : List vw_C} {H : Heap} {Ls : List Nat} {ad : Nat → Nat} {G : Nat → va_E} {q : Nat} {e : va_E} (x : Nat) (hP : va_P D cl (wl Ls ad G ++ [(q, e)]) H) (hD : va_D A (wl Ls ad G ++ [(q, e)])) :
    ∃ (Ls2 : List Nat) (ad2 : Nat → Nat) (G2 : Nat → va_E), va_P D cl (wl Ls2 ad2 G2) H ∧ va_D A (wl Ls2 ad2 G2) ∧ Ext Ls ad G Ls2 ad2 G2 (fun k => k = x) ∧ x ∈ Ls2 ∧ ad2 x = q ∧ G2 x = e := by
  by_cases hx : x ∈ Ls
  · have hlen : (wl Ls ad G).length = Ls.length := by rw [wl, List.length_map]
    have hrow : (wl Ls ad G ++ [(q, e)])[Ls.length]? = some (q, e) := by rw [← hlen, List.getElem?_append_right (Nat.le_refl _), Nat.sub_self]; rfl
    have old : ∀ {i a : Nat}, Ls[i]? = some a → (wl Ls ad G ++ [(q, e)])[i]? = some (ad a, G a) := fun {i a} h => by
      have h1 : (wl Ls ad G)[i]? = some (ad a, G a) := by rw [wl, List.getElem?_map, h]; rfl
      rw [List.getElem?_append_left (List.getElem?_eq_some_iff.mp h1).1]; exact h1
    refine ⟨Ls, va_up ad x q, va_up G x e, fun k p hk => ?_, ⟨fun i j p r hi hj hpr => ?_, fun k p hk => ?_⟩, ⟨fun _ h => h, fun _ h => Or.inl h, fun k h => ⟨va_up_ne _ _ h, va_up_ne _ _ h⟩⟩, hx, va_up_self _ _ _, va_up_self _ _ _⟩
    · obtain ⟨a, ha, rfl⟩ := wl_lab hk
      by_cases hax : a = x
      · subst hax; rw [va_up_self, va_up_self]; exact hP _ _ hrow
      · rw [va_up_ne _ _ hax, va_up_ne _ _ hax]; exact hP _ _ (old ha)
    · obtain ⟨a, ha, rfl⟩ := wl_lab hi
      obtain ⟨b, hb, rfl⟩ := wl_lab hj
      have li : i < Ls.length := (List.getElem?_eq_some_iff.mp ha).1
      have lj : j < Ls.length := (List.getElem?_eq_some_iff.mp hb).1
      by_cases hax : a = x
      · by_cases hbx : b = x
        · subst hax; subst hbx
          exact hD.1 i j _ _ (old ha) (old hb) rfl
        · subst hax
          have h9 : q = ad b := by
            have := hpr
            rw [va_up_self, va_up_ne _ _ hbx] at this
            exact this
          have := hD.1 Ls.length j _ _ hrow (old hb) h9
          omega
      · by_cases hbx : b = x
        · subst hbx
          have h9 : ad a = q := by
            have := hpr
            rw [va_up_self, va_up_ne _ _ hax] at this
            exact this
          have := hD.1 i Ls.length _ _ (old ha) hrow h9
          omega
        · have h9 : ad a = ad b := by
            have := hpr
            rw [va_up_ne _ _ hbx, va_up_ne _ _ hax] at this
            exact this
          exact hD.1 i j _ _ (old ha) (old hb) h9
    · obtain ⟨a, ha, rfl⟩ := wl_lab hk
      by_cases hax : a = x
      · subst hax; show A (va_up ad a q a); rw [va_up_self]; exact hD.2 _ _ hrow
      · show A (va_up ad x q a); rw [va_up_ne _ _ hax]; exact hD.2 _ _ (old ha)
  · rw [wl_push hx] at hP hD
    exact ⟨_, _, _, hP, hD, Ext.push, List.mem_append_right _ (List.mem_singleton.mpr rfl), va_up_self _ _ _, va_up_self _ _ _⟩
/-- behind add: the new element's cells X have got labels (Ls1, ad1, G1); the row gets its own -/
theorem rel_list {A : Nat → Prop} {D : va_G} {cl : List vw_C} {H : Heap} {y : Nat → ClassId} {Ls Ls1 : List Nat} {ad ad1 : Nat → Nat} {G1 : Nat → va_E} {X2 : va_W} {w0 : va_W} {j cap ea : Nat} {f2 : Nat → Option Nat}
    (hP : va_P D cl (w0 ++ X2) H) (hD : va_D A (w0 ++ X2)) (hin : j + 1 ∈ Ls → j + 1 ∈ Ls1) (had : j + 1 ∈ Ls → ad1 (j + 1) = ad (j + 1))
    (hor : (w0 ++ X2 = wl Ls1 ad1 G1 ∧ ea = ad (j + 1) ∧ j + 1 ∈ Ls ∧ G1 (j + 1) = .inl (y 3, cap, .inr (.inr (.inr (.inr f2))))) ∨ w0 ++ X2 = wl Ls1 ad1 G1 ++ [(ea, .inl (y 3, cap, .inr (.inr (.inr (.inr f2)))))]) :
    ∃ (Ls2 : List Nat) (ad2 : Nat → Nat) (G2 : Nat → va_E), va_P D cl (wl Ls2 ad2 G2) H ∧ va_D A (wl Ls2 ad2 G2) ∧ Ext Ls1 ad1 G1 Ls2 ad2 G2 (fun k => k = j + 1) ∧ j + 1 ∈ Ls2 ∧ ad2 (j + 1) = ea ∧ G2 (j + 1) = .inl (y 3, cap, .inr (.inr (.inr (.inr f2)))) := by
  rcases hor with ⟨h1, h2, h3, h4⟩ | h1
  · rw [h1] at hP hD
    exact ⟨Ls1, ad1, G1, hP, hD, Ext.rf, hin h3, (had h3).trans h2.symm, h4⟩
  · rw [h1] at hP hD
    exact rel_row (j + 1) hP hD
