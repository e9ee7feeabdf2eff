/-! class and model side by side -/
theorem ListAt_sm {y : Nat → ClassId} {Ls Ls2 : List Nat} {ad ad2 : Nat → Nat} {G G2 : Nat → va_E} {j n : Nat} {el el2 : Nat → Nat} (h : ∀ k, k = j ∨ k = j + 1 → (k ∈ Ls → k ∈ Ls2) ∧ ad2 k = ad k ∧ G2 k = G k) (he : ∀ i, i < n → el2 i = el i) (hL : ListAt y Ls ad G j n el) : ListAt y Ls2 ad2 G2 j n el2 := by
  obtain ⟨mc, ea, h1, h2, h3, h4⟩ := hL
  have q0 := h j (Or.inl rfl)
  have q1 := h (j + 1) (Or.inr rfl)
  refine ⟨mc, ea, q0.1 h1, q0.2.2.trans h2, h3, fun hn => ?_⟩
  obtain ⟨a1, a2, cap, f, a3, a4, a5, a6⟩ := h4 hn
  exact ⟨q1.1 a1, a2.trans q1.2.1.symm, cap, f, q1.2.2.trans a3, a4, a5, fun i hi => by rw [he i hi]; exact a6 i hi⟩
theorem UnitAt_sm {y : Nat → ClassId} {Ls Ls2 : List Nat} {ad ad2 : Nat → Nat} {G G2 : Nat → va_E} {u : Nat} {ow fd ld ig : Int32} {told : Nat} {kf df : Nat → Int32} (h : ∀ k, u ≤ k → k ≤ u + 2 → (k ∈ Ls → k ∈ Ls2) ∧ ad2 k = ad k ∧ G2 k = G k) (hU : UnitAt y Ls ad G u ow fd ld ig told kf df) : UnitAt y Ls2 ad2 G2 u ow fd ld ig told kf df := by
  obtain ⟨h1, h2, h3, h4, h5, h6, h7⟩ := hU
  have q0 := h u (by omega) (by omega)
  have q1 := h (u + 1) (by omega) (by omega)
  have q2 := h (u + 2) (by omega) (by omega)
  exact ⟨q0.1 h1, q1.1 h2, q2.1 h3, by rw [q0.2.2, h4, q1.2.1, q2.2.1], q1.2.2.trans h5, q2.2.2.trans h6, h7⟩
theorem UnitsAt_sm {y : Nat → ClassId} {Ls Ls2 : List Nat} {ad ad2 : Nat → Nat} {G G2 : Nat → va_E} {nu : Nat} {uo : Nat → Int32} {uf ul : Nat → Nat} {ug : Nat → Int32} {ut : Nat → Nat} {uk ud : Nat → Nat → Int32} (hn : nu ≤ 24) (h : ∀ k, (k = 3 ∨ k = 4 ∨ (1000 ≤ k ∧ k < 1000 + 3 * nu)) → (k ∈ Ls → k ∈ Ls2) ∧ ad2 k = ad k ∧ G2 k = G k) (hU : UnitsAt y Ls ad G nu uo uf ul ug ut uk ud) : UnitsAt y Ls2 ad2 G2 nu uo uf ul ug ut uk ud :=
  ⟨ListAt_sm (fun k hk => h k (by omega)) (fun i hi => (h (1000 + 3 * i) (by omega)).2.1) hU.1, fun i hi => ⟨UnitAt_sm (fun k h1 h2 => h k (by omega)) (hU.2 i hi).1, (hU.2 i hi).2⟩⟩
theorem MovesAt_sm {y : Nat → ClassId} {Ls Ls2 : List Nat} {ad ad2 : Nat → Nat} {G G2 : Nat → va_E} {nm : Nat} {mo mk md mp : Nat → Int32} (h : ∀ k, (k = 5 ∨ k = 6 ∨ (2000 ≤ k ∧ k < 2000 + nm)) → (k ∈ Ls → k ∈ Ls2) ∧ ad2 k = ad k ∧ G2 k = G k) (hM : MovesAt y Ls ad G nm mo mk md mp) : MovesAt y Ls2 ad2 G2 nm mo mk md mp :=
  ⟨ListAt_sm (fun k hk => h k (by omega)) (fun i hi => (h (2000 + i) (by omega)).2.1) hM.1, fun i hi => ⟨(h (2000 + i) (by omega)).1 (hM.2 i hi).1, (h (2000 + i) (by omega)).2.2.trans (hM.2 i hi).2⟩⟩
theorem BillsAt_sm {y : Nat → ClassId} {Ls Ls2 : List Nat} {ad ad2 : Nat → Nat} {G G2 : Nat → va_E} {nl : Nat} {bo bm bc bi : Nat → Int32} (h : ∀ k, (k = 7 ∨ k = 8 ∨ k = 9 ∨ (3000 ≤ k ∧ k < 3000 + nl)) → (k ∈ Ls → k ∈ Ls2) ∧ ad2 k = ad k ∧ G2 k = G k) (hB : BillsAt y Ls ad G nl bo bm bc bi) : BillsAt y Ls2 ad2 G2 nl bo bm bc bi :=
  ⟨⟨(h 7 (by omega)).1 hB.1.1, by rw [(h 7 (by omega)).2.2, hB.1.2, (h 8 (by omega)).2.1]⟩, ListAt_sm (fun k hk => h k (by omega)) (fun i hi => (h (3000 + i) (by omega)).2.1) hB.2.1, fun i hi => ⟨(h (3000 + i) (by omega)).1 (hB.2.2 i hi).1, (h (3000 + i) (by omega)).2.2.trans (hB.2.2 i hi).2⟩⟩
theorem ChargesAt_sm {y : Nat → ClassId} {Ls Ls2 : List Nat} {ad ad2 : Nat → Nat} {G G2 : Nat → va_E} {c : Nat} {st ha mi dO dD dP : Nat → Int32} {nd : Nat} {li ow : Int32} (h : ∀ k, c ≤ k → k ≤ c + 6 → (k ∈ Ls → k ∈ Ls2) ∧ ad2 k = ad k ∧ G2 k = G k) (hC : ChargesAt y Ls ad G c st ha mi dO dD dP nd li ow) : ChargesAt y Ls2 ad2 G2 c st ha mi dO dD dP nd li ow := by
  obtain ⟨⟨b0, b1, b2, b3, b4, b5, b6⟩, e0, e1, e2, e3, e4, e5, e6, hn⟩ := hC
  have q0 := h c (by omega) (by omega)
  have q1 := h (c + 1) (by omega) (by omega)
  have q2 := h (c + 2) (by omega) (by omega)
  have q3 := h (c + 3) (by omega) (by omega)
  have q4 := h (c + 4) (by omega) (by omega)
  have q5 := h (c + 5) (by omega) (by omega)
  have q6 := h (c + 6) (by omega) (by omega)
  exact ⟨⟨q0.1 b0, q1.1 b1, q2.1 b2, q3.1 b3, q4.1 b4, q5.1 b5, q6.1 b6⟩, by rw [q0.2.2, e0, q1.2.1, q2.2.1, q3.2.1, q4.2.1, q5.2.1, q6.2.1], q1.2.2.trans e1, q2.2.2.trans e2, q3.2.2.trans e3, q4.2.2.trans e4, q5.2.2.trans e5, q6.2.2.trans e6, hn⟩
theorem TextAt_sm {y : Nat → ClassId} {Ls Ls2 : List Nat} {ad ad2 : Nat → Nat} {G G2 : Nat → va_E} {f : Nat → Int32} {len pl : Nat} (h : ∀ k, k = 1 ∨ k = 2 → (k ∈ Ls → k ∈ Ls2) ∧ ad2 k = ad k ∧ G2 k = G k) (hT : TextAt y Ls ad G f len pl) : TextAt y Ls2 ad2 G2 f len pl := by
  obtain ⟨h1, h2, h3, h4, h5⟩ := hT
  have q1 := h 1 (Or.inl rfl)
  have q2 := h 2 (Or.inr rfl)
  exact ⟨q1.1 h1, q2.1 h2, by rw [q1.2.2, h3, q2.2.1], q2.2.2.trans h4, h5⟩
theorem PaperAt_sm {y : Nat → ClassId} {Ls Ls2 : List Nat} {ad ad2 : Nat → Nat} {G G2 : Nat → va_E} {pf : Nat → Int32} {pn : Nat} (h : ∀ k, k = 30 ∨ k = 31 → (k ∈ Ls → k ∈ Ls2) ∧ ad2 k = ad k ∧ G2 k = G k) (hT : PaperAt y Ls ad G pf pn) : PaperAt y Ls2 ad2 G2 pf pn := by
  obtain ⟨h1, h2, h3, h4, h5⟩ := hT
  have q1 := h 30 (Or.inl rfl)
  have q2 := h 31 (Or.inr rfl)
  exact ⟨q1.1 h1, q2.1 h2, by rw [q1.2.2, h3, q2.2.1], q2.2.2.trans h4, h5⟩
theorem asz_le {k : Nat} (h : asz k ≠ 0) : k ≤ 33 := Nat.le_of_not_lt fun h9 => h (asz_big h9)
theorem ModelAt_sm {y : Nat → ClassId} {Ls Ls2 : List Nat} {ad ad2 : Nat → Nat} {G G2 : Nat → va_E} {F : Nat → Int32} {A : Nat → Nat → Int32} (h : ∀ k, 100 ≤ k → k ≤ 134 → (k ∈ Ls → k ∈ Ls2) ∧ ad2 k = ad k ∧ G2 k = G k) (hM : ModelAt y Ls ad G F A) : ModelAt y Ls2 ad2 G2 F A := by
  have hm : mfs ad2 F = mfs ad F := by
    simp only [mfs, (h 103 (by omega) (by omega)).2.1, (h 105 (by omega) (by omega)).2.1, (h 106 (by omega) (by omega)).2.1, (h 107 (by omega) (by omega)).2.1, (h 108 (by omega) (by omega)).2.1, (h 110 (by omega) (by omega)).2.1, (h 111 (by omega) (by omega)).2.1, (h 112 (by omega) (by omega)).2.1, (h 113 (by omega) (by omega)).2.1, (h 116 (by omega) (by omega)).2.1, (h 117 (by omega) (by omega)).2.1, (h 118 (by omega) (by omega)).2.1, (h 119 (by omega) (by omega)).2.1, (h 120 (by omega) (by omega)).2.1, (h 121 (by omega) (by omega)).2.1, (h 123 (by omega) (by omega)).2.1, (h 124 (by omega) (by omega)).2.1, (h 125 (by omega) (by omega)).2.1, (h 126 (by omega) (by omega)).2.1, (h 128 (by omega) (by omega)).2.1, (h 129 (by omega) (by omega)).2.1, (h 130 (by omega) (by omega)).2.1, (h 131 (by omega) (by omega)).2.1, (h 132 (by omega) (by omega)).2.1, (h 134 (by omega) (by omega)).2.1]
  refine ⟨(h 100 (by omega) (by omega)).1 hM.1, by rw [(h 100 (by omega) (by omega)).2.2, hM.2.1, hm], fun k hk => ?_⟩
  have h33 := asz_le hk
  have q := h (101 + k) (by omega) (by omega)
  exact ⟨q.1 (hM.2.2 k hk).1, q.2.2.trans (hM.2.2 k hk).2⟩
/-- the class: its object, what it holds -/
def CR (y : Nat → ClassId) (df : Nat) (qa : Nat × Nat × Nat) (Ls : List Nat) (ad : Nat → Nat) (G : Nat → va_E) (ch dr : Nat) (st ha mi dO dD dP : Nat → Int32) (nd : Nat) (li ow : Int32) (f : Nat → Int32) (len : Nat) (nu : Nat) (uo : Nat → Int32) (uf ul : Nat → Nat) (ug : Nat → Int32) (ut : Nat → Nat) (uk ud : Nat → Nat → Int32) (nm : Nat) (mo mk md mp : Nat → Int32) (nl : Nat) (bo bm bc bi : Nat → Int32) (pf : Nat → Int32) (pn : Nat) : Prop :=
  XAt Ls ad G ch dr ∧ ((ch = 10 ∧ dr = 20) ∨ (ch = 20 ∧ dr = 10)) ∧ ChargesAt y Ls ad G ch st ha mi dO dD dP nd li ow ∧ (∃ d2, CDS y Ls ad G dr d2) ∧ TextAt y Ls ad G f len 0 ∧ UnitsAt y Ls ad G nu uo uf ul ug ut uk ud ∧ MovesAt y Ls ad G nm mo mk md mp ∧ BillsAt y Ls ad G nl bo bm bc bi ∧ PaperAt y Ls ad G pf pn ∧
  (nu = 0 → ∃ mc, G 3 = .inr (1, [.int mc, .ref df, .int (nI 0)])) ∧ (nm = 0 → ∃ mc, G 5 = .inr (1, [.int mc, .ref df, .int (nI 0)])) ∧ (nl = 0 → ∃ mc, G 8 = .inr (1, [.int mc, .ref df, .int (nI 0)])) ∧
  (∀ k, k ∈ Ls → 1000 ≤ k → k < 2000 → k < 1000 + 3 * nu) ∧ (∀ k, k ∈ Ls → 2000 ≤ k → k < 3000 → k < 2000 + nm) ∧ (∀ k, k ∈ Ls → 3000 ≤ k → k < 3000 + nl) ∧ nu ≤ 24 ∧ nm ≤ 60 ∧ ad 0 = qa.1 ∧ ad 70 = qa.2.1 ∧ ad 100 = qa.2.2
section
variable {y : Nat → ClassId} {df : Nat} {qa : Nat × Nat × Nat} {Ls : List Nat} {ad : Nat → Nat} {G G2 : Nat → va_E} {ch dr : Nat} {st ha mi dO dD dP : Nat → Int32} {nd : Nat} {li ow : Int32} {f : Nat → Int32} {len nu : Nat} {uo : Nat → Int32} {uf ul : Nat → Nat} {ug : Nat → Int32} {ut : Nat → Nat} {uk ud : Nat → Nat → Int32} {nm : Nat} {mo mk md mp : Nat → Int32} {nl : Nat} {bo bm bc bi pf : Nat → Int32} {pn : Nat}
theorem CDS_sm {Ls2 : List Nat} {ad2 : Nat → Nat} {c : Nat} {d : DS} (h : ∀ k, c ≤ k → k ≤ c + 6 → (k ∈ Ls → k ∈ Ls2) ∧ ad2 k = ad k ∧ G2 k = G k) (hC : CDS y Ls ad G c d) : CDS y Ls2 ad2 G2 c d := ChargesAt_sm h hC
/-- nothing of the class was written -/
theorem CR_fr (h : ∀ j, ¬ j = 70 → (j < 100 ∨ 134 < j) → G2 j = G j) (hC : CR y df qa Ls ad G ch dr st ha mi dO dD dP nd li ow f len nu uo uf ul ug ut uk ud nm mo mk md mp nl bo bm bc bi pf pn) : CR y df qa Ls ad G2 ch dr st ha mi dO dD dP nd li ow f len nu uo uf ul ug ut uk ud nm mo mk md mp nl bo bm bc bi pf pn := by
  obtain ⟨h1, h2, h3, ⟨d2, h4⟩, h5, h6, h7, h8, h9, a3, a5, a8, b1, b2, b3, hnu, hnm, hqa⟩ := hC
  have hs : ∀ k, ¬ k = 70 → (k < 100 ∨ 134 < k) → (k ∈ Ls → k ∈ Ls) ∧ ad k = ad k ∧ G2 k = G k := fun k q1 q2 => ⟨id, rfl, h k q1 q2⟩
  refine ⟨⟨h1.1, (h 0 (by omega) (by omega)).trans h1.2⟩, h2, ChargesAt_sm (fun k _ _ => hs k (by omega) (by omega)) h3, ⟨d2, CDS_sm (fun k _ _ => hs k (by omega) (by omega)) h4⟩, TextAt_sm (fun k _ => hs k (by omega) (by omega)) h5, UnitsAt_sm hnu (fun k _ => hs k (by omega) (by omega)) h6, MovesAt_sm (fun k _ => hs k (by omega) (by omega)) h7, BillsAt_sm (fun k _ => hs k (by omega) (by omega)) h8, PaperAt_sm (fun k _ => hs k (by omega) (by omega)) h9, ?_, ?_, ?_, b1, b2, b3, hnu, hnm, hqa⟩
  · rw [h 3 (by omega) (by omega)]; exact a3
  · rw [h 5 (by omega) (by omega)]; exact a5
  · rw [h 8 (by omega) (by omega)]; exact a8
theorem CR_text {f2 : Nat → Int32} {len2 : Nat} (hT : TextAt y Ls ad G2 f2 len2 0) (h : ∀ j, j ≠ 1 → j ≠ 2 → G2 j = G j) (hC : CR y df qa Ls ad G ch dr st ha mi dO dD dP nd li ow f len nu uo uf ul ug ut uk ud nm mo mk md mp nl bo bm bc bi pf pn) : CR y df qa Ls ad G2 ch dr st ha mi dO dD dP nd li ow f2 len2 nu uo uf ul ug ut uk ud nm mo mk md mp nl bo bm bc bi pf pn := by
  obtain ⟨h1, h2, h3, ⟨d2, h4⟩, h5, h6, h7, h8, h9, a3, a5, a8, b1, b2, b3, hnu, hnm, hqa⟩ := hC
  have hs : ∀ k, k ≠ 1 → k ≠ 2 → (k ∈ Ls → k ∈ Ls) ∧ ad k = ad k ∧ G2 k = G k := fun k q1 q2 => ⟨id, rfl, h k q1 q2⟩
  refine ⟨⟨h1.1, (h 0 (by omega) (by omega)).trans h1.2⟩, h2, ChargesAt_sm (fun k _ _ => hs k (by omega) (by omega)) h3, ⟨d2, CDS_sm (fun k _ _ => hs k (by omega) (by omega)) h4⟩, hT, UnitsAt_sm hnu (fun k _ => hs k (by omega) (by omega)) h6, MovesAt_sm (fun k _ => hs k (by omega) (by omega)) h7, BillsAt_sm (fun k _ => hs k (by omega) (by omega)) h8, PaperAt_sm (fun k _ => hs k (by omega) (by omega)) h9, ?_, ?_, ?_, b1, b2, b3, hnu, hnm, hqa⟩
  · rw [h 3 (by omega) (by omega)]; exact a3
  · rw [h 5 (by omega) (by omega)]; exact a5
  · rw [h 8 (by omega) (by omega)]; exact a8
theorem CR_paper {pf2 : Nat → Int32} {pn2 : Nat} (hT : PaperAt y Ls ad G2 pf2 pn2) (h : ∀ j, j ≠ 30 → j ≠ 31 → G2 j = G j) (hC : CR y df qa Ls ad G ch dr st ha mi dO dD dP nd li ow f len nu uo uf ul ug ut uk ud nm mo mk md mp nl bo bm bc bi pf pn) : CR y df qa Ls ad G2 ch dr st ha mi dO dD dP nd li ow f len nu uo uf ul ug ut uk ud nm mo mk md mp nl bo bm bc bi pf2 pn2 := by
  obtain ⟨h1, h2, h3, ⟨d2, h4⟩, h5, h6, h7, h8, h9, a3, a5, a8, b1, b2, b3, hnu, hnm, hqa⟩ := hC
  have hs : ∀ k, k ≠ 30 → k ≠ 31 → (k ∈ Ls → k ∈ Ls) ∧ ad k = ad k ∧ G2 k = G k := fun k q1 q2 => ⟨id, rfl, h k q1 q2⟩
  refine ⟨⟨h1.1, (h 0 (by omega) (by omega)).trans h1.2⟩, h2, ChargesAt_sm (fun k _ _ => hs k (by omega) (by omega)) h3, ⟨d2, CDS_sm (fun k _ _ => hs k (by omega) (by omega)) h4⟩, TextAt_sm (fun k _ => hs k (by omega) (by omega)) h5, UnitsAt_sm hnu (fun k _ => hs k (by omega) (by omega)) h6, MovesAt_sm (fun k _ => hs k (by omega) (by omega)) h7, BillsAt_sm (fun k _ => hs k (by omega) (by omega)) h8, hT, ?_, ?_, ?_, b1, b2, b3, hnu, hnm, hqa⟩
  · rw [h 3 (by omega) (by omega)]; exact a3
  · rw [h 5 (by omega) (by omega)]; exact a5
  · rw [h 8 (by omega) (by omega)]; exact a8
/-- one unit is another -/
def upN {α : Type} (g : Nat → α) (i : Nat) (v : α) : Nat → α := va_up g i v
theorem CR_unit1 {i : Nat} {l2 : Nat} {g2 : Int32} {t2 : Nat} {k2 d2 : Nat → Int32} (hi : i < nu) (hl : l2 < 3600) (hU : UnitAt y Ls ad G2 (1000 + 3 * i) (uo i) (nI (uf i)) (nI l2) g2 t2 k2 d2) (h : ∀ j, (j < 1000 + 3 * i ∨ 1000 + 3 * i + 2 < j) → G2 j = G j) (hC : CR y df qa Ls ad G ch dr st ha mi dO dD dP nd li ow f len nu uo uf ul ug ut uk ud nm mo mk md mp nl bo bm bc bi pf pn) : CR y df qa Ls ad G2 ch dr st ha mi dO dD dP nd li ow f len nu uo uf (va_up ul i l2) (va_up ug i g2) (va_up ut i t2) (va_up uk i k2) (va_up ud i d2) nm mo mk md mp nl bo bm bc bi pf pn := by
  obtain ⟨h1, h2, h3, ⟨d9, h4⟩, h5, h6, h7, h8, h9, a3, a5, a8, b1, b2, b3, hnu, hnm, hqa⟩ := hC
  have hs : ∀ k, (k < 1000 + 3 * i ∨ 1000 + 3 * i + 2 < k) → (k ∈ Ls → k ∈ Ls) ∧ ad k = ad k ∧ G2 k = G k := fun k q => ⟨id, rfl, h k q⟩
  refine ⟨⟨h1.1, (h 0 (by omega)).trans h1.2⟩, h2, ChargesAt_sm (fun k _ _ => hs k (by omega)) h3, ⟨d9, CDS_sm (fun k _ _ => hs k (by omega)) h4⟩, TextAt_sm (fun k _ => hs k (by omega)) h5, ⟨ListAt_sm (fun k _ => hs k (by omega)) (fun _ _ => rfl) h6.1, fun q hq => ?_⟩, MovesAt_sm (fun k _ => hs k (by omega)) h7, BillsAt_sm (fun k _ => hs k (by omega)) h8, PaperAt_sm (fun k _ => hs k (by omega)) h9, ?_, ?_, ?_, b1, b2, b3, hnu, hnm, hqa⟩
  · by_cases e : q = i
    · subst e
      rw [va_up_self, va_up_self, va_up_self, va_up_self, va_up_self]
      exact ⟨hU, (h6.2 q hq).2.1, hl⟩
    · rw [va_up_ne _ _ e, va_up_ne _ _ e, va_up_ne _ _ e, va_up_ne _ _ e, va_up_ne _ _ e]
      exact ⟨UnitAt_sm (fun k _ _ => hs k (by omega)) (h6.2 q hq).1, (h6.2 q hq).2⟩
  · rw [h 3 (by omega)]; exact a3
  · rw [h 5 (by omega)]; exact a5
  · rw [h 8 (by omega)]; exact a8
section
variable {Ls3 : List Nat} {ad3 : Nat → Nat} {G3 : Nat → va_E}
theorem Ext_sm {P : Nat → Prop} (hx : Ext Ls ad G Ls3 ad3 G3 P) {k : Nat} (h : ¬ P k) : (k ∈ Ls → k ∈ Ls3) ∧ ad3 k = ad k ∧ G3 k = G k := ⟨hx.1 k, (hx.2.2 k h).1, (hx.2.2 k h).2⟩
/-- a unit more -/
theorem CR_unit {o kd da : Int32} {d : Nat} (hd : d < 3600) (ed : da = nI d) (hn : nu < 24) (hx : Ext Ls ad G Ls3 ad3 G3 (fun k => k = 3 ∨ k = 4 ∨ (1000 + 3 * nu ≤ k ∧ k ≤ 1000 + 3 * nu + 2))) (hL : ListAt y Ls3 ad3 G3 3 (nu + 1) (fun i => ad3 (1000 + 3 * i))) (e3 : ad3 3 = ad 3) (hU : UnitAt y Ls3 ad3 G3 (1000 + 3 * nu) o da 3599 0 1 (upd (fun _ => 0) 0 kd) (upd (fun _ => 0) 0 da)) (hC : CR y df qa Ls ad G ch dr st ha mi dO dD dP nd li ow f len nu uo uf ul ug ut uk ud nm mo mk md mp nl bo bm bc bi pf pn) :
    CR y df qa Ls3 ad3 G3 ch dr st ha mi dO dD dP nd li ow f len (nu + 1) (va_up uo nu o) (va_up uf nu d) (va_up ul nu 3599) (va_up ug nu 0) (va_up ut nu 1) (va_up uk nu (upd (fun _ => 0) 0 kd)) (va_up ud nu (upd (fun _ => 0) 0 da)) nm mo mk md mp nl bo bm bc bi pf pn := by
  obtain ⟨h1, h2, h3, ⟨d9, h4⟩, h5, h6, h7, h8, h9, a3, a5, a8, b1, b2, b3, hnu, hnm, hqa⟩ := hC
  have hs : ∀ k, ¬ (k = 3 ∨ k = 4 ∨ (1000 + 3 * nu ≤ k ∧ k ≤ 1000 + 3 * nu + 2)) → (k ∈ Ls → k ∈ Ls3) ∧ ad3 k = ad k ∧ G3 k = G k := fun k q => Ext_sm hx q
  refine ⟨XAt_fr ((hs 0 (by omega)).1 h1.1) (hs 0 (by omega)).2.2 (hs 1 (by omega)).2.1 e3 (hs 5 (by omega)).2.1 (hs 7 (by omega)).2.1 (hs 30 (by omega)).2.1 (hs ch (by omega)).2.1 (hs dr (by omega)).2.1 h1, h2, ChargesAt_sm (fun k _ _ => hs k (by omega)) h3, ⟨d9, CDS_sm (fun k _ _ => hs k (by omega)) h4⟩, TextAt_sm (fun k _ => hs k (by omega)) h5, ⟨hL, fun q hq => ?_⟩, MovesAt_sm (fun k _ => hs k (by omega)) h7, BillsAt_sm (fun k _ => hs k (by omega)) h8, PaperAt_sm (fun k _ => hs k (by omega)) h9, fun h => absurd h (by omega), ?_, ?_, ?_, ?_, ?_, by omega, hnm, (hs 0 (by omega)).2.1.trans hqa.1, (hs 70 (by omega)).2.1.trans hqa.2.1, (hs 100 (by omega)).2.1.trans hqa.2.2⟩
  · by_cases e : q = nu
    · subst e
      simp only [va_up_self]
      rw [← ed]
      exact ⟨hU, hd, by decide⟩
    · simp only [va_up_ne _ _ e]
      exact ⟨UnitAt_sm (fun k _ _ => hs k (by omega)) (h6.2 q (by omega)).1, (h6.2 q (by omega)).2⟩
  · rw [(hs 5 (by omega)).2.2]; exact a5
  · rw [(hs 8 (by omega)).2.2]; exact a8
  · intro k hk q1 q2
    rcases hx.2.1 k hk with h | h
    · have := b1 k h q1 q2; omega
    · omega
  · intro k hk q1 q2
    rcases hx.2.1 k hk with h | h
    · exact b2 k h q1 q2
    · omega
  · intro k hk q1
    rcases hx.2.1 k hk with h | h
    · exact b3 k h q1
    · omega
/-- a move more -/
theorem CR_move {mo2 mk2 md2 mp2 : Nat → Int32} (hn : nm < 60) (hx : Ext Ls ad G Ls3 ad3 G3 (fun k => k = 5 ∨ k = 5 + 1 ∨ k = 2000 + nm)) (e5 : ad3 5 = ad 5) (hM : MovesAt y Ls3 ad3 G3 (nm + 1) mo2 mk2 md2 mp2) (hC : CR y df qa Ls ad G ch dr st ha mi dO dD dP nd li ow f len nu uo uf ul ug ut uk ud nm mo mk md mp nl bo bm bc bi pf pn) :
    CR y df qa Ls3 ad3 G3 ch dr st ha mi dO dD dP nd li ow f len nu uo uf ul ug ut uk ud (nm + 1) mo2 mk2 md2 mp2 nl bo bm bc bi pf pn := by
  obtain ⟨h1, h2, h3, ⟨d9, h4⟩, h5, h6, h7, h8, h9, a3, a5, a8, b1, b2, b3, hnu, hnm, hqa⟩ := hC
  have hs : ∀ k, ¬ (k = 5 ∨ k = 5 + 1 ∨ k = 2000 + nm) → (k ∈ Ls → k ∈ Ls3) ∧ ad3 k = ad k ∧ G3 k = G k := fun k q => Ext_sm hx q
  refine ⟨XAt_fr ((hs 0 (by omega)).1 h1.1) (hs 0 (by omega)).2.2 (hs 1 (by omega)).2.1 (hs 3 (by omega)).2.1 e5 (hs 7 (by omega)).2.1 (hs 30 (by omega)).2.1 (hs ch (by omega)).2.1 (hs dr (by omega)).2.1 h1, h2, ChargesAt_sm (fun k _ _ => hs k (by omega)) h3, ⟨d9, CDS_sm (fun k _ _ => hs k (by omega)) h4⟩, TextAt_sm (fun k _ => hs k (by omega)) h5, UnitsAt_sm hnu (fun k _ => hs k (by omega)) h6, hM, BillsAt_sm (fun k _ => hs k (by omega)) h8, PaperAt_sm (fun k _ => hs k (by omega)) h9, ?_, fun h => absurd h (by omega), ?_, ?_, ?_, ?_, hnu, by omega, (hs 0 (by omega)).2.1.trans hqa.1, (hs 70 (by omega)).2.1.trans hqa.2.1, (hs 100 (by omega)).2.1.trans hqa.2.2⟩
  · rw [(hs 3 (by omega)).2.2]; exact a3
  · rw [(hs 8 (by omega)).2.2]; exact a8
  · intro k hk q1 q2
    rcases hx.2.1 k hk with h | h
    · exact b1 k h q1 q2
    · omega
  · intro k hk q1 q2
    rcases hx.2.1 k hk with h | h
    · have := b2 k h q1 q2; omega
    · omega
  · intro k hk q1
    rcases hx.2.1 k hk with h | h
    · exact b3 k h q1
    · omega
/-- a line more -/
theorem CR_bill {bo2 bm2 bc2 bi2 : Nat → Int32} (hx : Ext Ls ad G Ls3 ad3 G3 (fun k => k = 8 ∨ k = 8 + 1 ∨ k = 3000 + nl)) (e8 : ad3 8 = ad 8) (hB : BillsAt y Ls3 ad3 G3 (nl + 1) bo2 bm2 bc2 bi2) (hC : CR y df qa Ls ad G ch dr st ha mi dO dD dP nd li ow f len nu uo uf ul ug ut uk ud nm mo mk md mp nl bo bm bc bi pf pn) :
    CR y df qa Ls3 ad3 G3 ch dr st ha mi dO dD dP nd li ow f len nu uo uf ul ug ut uk ud nm mo mk md mp (nl + 1) bo2 bm2 bc2 bi2 pf pn := by
  obtain ⟨h1, h2, h3, ⟨d9, h4⟩, h5, h6, h7, h8, h9, a3, a5, a8, b1, b2, b3, hnu, hnm, hqa⟩ := hC
  have hs : ∀ k, ¬ (k = 8 ∨ k = 8 + 1 ∨ k = 3000 + nl) → (k ∈ Ls → k ∈ Ls3) ∧ ad3 k = ad k ∧ G3 k = G k := fun k q => Ext_sm hx q
  refine ⟨XAt_fr ((hs 0 (by omega)).1 h1.1) (hs 0 (by omega)).2.2 (hs 1 (by omega)).2.1 (hs 3 (by omega)).2.1 (hs 5 (by omega)).2.1 (hs 7 (by omega)).2.1 (hs 30 (by omega)).2.1 (hs ch (by omega)).2.1 (hs dr (by omega)).2.1 h1, h2, ChargesAt_sm (fun k _ _ => hs k (by omega)) h3, ⟨d9, CDS_sm (fun k _ _ => hs k (by omega)) h4⟩, TextAt_sm (fun k _ => hs k (by omega)) h5, UnitsAt_sm hnu (fun k _ => hs k (by omega)) h6, MovesAt_sm (fun k _ => hs k (by omega)) h7, hB, PaperAt_sm (fun k _ => hs k (by omega)) h9, ?_, ?_, fun h => absurd h (by omega), ?_, ?_, ?_, hnu, hnm, (hs 0 (by omega)).2.1.trans hqa.1, (hs 70 (by omega)).2.1.trans hqa.2.1, (hs 100 (by omega)).2.1.trans hqa.2.2⟩
  · rw [(hs 3 (by omega)).2.2]; exact a3
  · rw [(hs 5 (by omega)).2.2]; exact a5
  · intro k hk q1 q2
    rcases hx.2.1 k hk with h | h
    · exact b1 k h q1 q2
    · omega
  · intro k hk q1 q2
    rcases hx.2.1 k hk with h | h
    · exact b2 k h q1 q2
    · omega
  · intro k hk q1
    rcases hx.2.1 k hk with h | h
    · have := b3 k h q1; omega
    · omega
end
/-- reading: the draft is the charges now, or not -/
theorem CR_read1 {d : DS} (hX : XAt Ls ad G2 dr ch) (hT : TextAt y Ls ad G2 f 0 0) (hD : CDS y Ls ad G2 dr d) (h : ∀ j, j ≠ 0 → j ≠ 1 → j ≠ 2 → (j < dr ∨ dr + 6 < j) → G2 j = G j) (hC : CR y df qa Ls ad G ch dr st ha mi dO dD dP nd li ow f len nu uo uf ul ug ut uk ud nm mo mk md mp nl bo bm bc bi pf pn) :
    CR y df qa Ls ad G2 dr ch d.2.1 d.2.2.1 d.2.2.2.1 d.2.2.2.2.1 d.2.2.2.2.2.1 d.2.2.2.2.2.2.1 d.2.2.2.2.2.2.2.1 d.2.2.2.2.2.2.2.2.1 d.2.2.2.2.2.2.2.2.2 f 0 nu uo uf ul ug ut uk ud nm mo mk md mp nl bo bm bc bi pf pn := by
  obtain ⟨h1, h2, h3, ⟨d9, h4⟩, h5, h6, h7, h8, h9, a3, a5, a8, b1, b2, b3, hnu, hnm, hqa⟩ := hC
  have hs : ∀ k, k ≠ 0 → k ≠ 1 → k ≠ 2 → (k < dr ∨ dr + 6 < k) → (k ∈ Ls → k ∈ Ls) ∧ ad k = ad k ∧ G2 k = G k := fun k q1 q2 q3 q4 => ⟨id, rfl, h k q1 q2 q3 q4⟩
  refine ⟨hX, by omega, hD, ⟨(0, st, ha, mi, dO, dD, dP, nd, li, ow), ChargesAt_sm (fun k _ _ => hs k (by omega) (by omega) (by omega) (by omega)) h3⟩, hT, UnitsAt_sm hnu (fun k _ => hs k (by omega) (by omega) (by omega) (by omega)) h6, MovesAt_sm (fun k _ => hs k (by omega) (by omega) (by omega) (by omega)) h7, BillsAt_sm (fun k _ => hs k (by omega) (by omega) (by omega) (by omega)) h8, PaperAt_sm (fun k _ => hs k (by omega) (by omega) (by omega) (by omega)) h9, ?_, ?_, ?_, b1, b2, b3, hnu, hnm, hqa⟩
  · rw [h 3 (by omega) (by omega) (by omega) (by omega)]; exact a3
  · rw [h 5 (by omega) (by omega) (by omega) (by omega)]; exact a5
  · rw [h 8 (by omega) (by omega) (by omega) (by omega)]; exact a8
theorem CR_read0 {d : DS} (hX : XAt Ls ad G2 ch dr) (hT : TextAt y Ls ad G2 f 0 0) (hD : CDS y Ls ad G2 dr d) (h : ∀ j, j ≠ 0 → j ≠ 1 → j ≠ 2 → (j < dr ∨ dr + 6 < j) → G2 j = G j) (hC : CR y df qa Ls ad G ch dr st ha mi dO dD dP nd li ow f len nu uo uf ul ug ut uk ud nm mo mk md mp nl bo bm bc bi pf pn) :
    CR y df qa Ls ad G2 ch dr st ha mi dO dD dP nd li ow f 0 nu uo uf ul ug ut uk ud nm mo mk md mp nl bo bm bc bi pf pn := by
  obtain ⟨h1, h2, h3, ⟨d9, h4⟩, h5, h6, h7, h8, h9, a3, a5, a8, b1, b2, b3, hnu, hnm, hqa⟩ := hC
  have hs : ∀ k, k ≠ 0 → k ≠ 1 → k ≠ 2 → (k < dr ∨ dr + 6 < k) → (k ∈ Ls → k ∈ Ls) ∧ ad k = ad k ∧ G2 k = G k := fun k q1 q2 q3 q4 => ⟨id, rfl, h k q1 q2 q3 q4⟩
  refine ⟨hX, h2, ChargesAt_sm (fun k _ _ => hs k (by omega) (by omega) (by omega) (by omega)) h3, ⟨d, hD⟩, hT, UnitsAt_sm hnu (fun k _ => hs k (by omega) (by omega) (by omega) (by omega)) h6, MovesAt_sm (fun k _ => hs k (by omega) (by omega) (by omega) (by omega)) h7, BillsAt_sm (fun k _ => hs k (by omega) (by omega) (by omega) (by omega)) h8, PaperAt_sm (fun k _ => hs k (by omega) (by omega) (by omega) (by omega)) h9, ?_, ?_, ?_, b1, b2, b3, hnu, hnm, hqa⟩
  · rw [h 3 (by omega) (by omega) (by omega) (by omega)]; exact a3
  · rw [h 5 (by omega) (by omega) (by omega) (by omega)]; exact a5
  · rw [h 8 (by omega) (by omega) (by omega) (by omega)]; exact a8
end
/-- the model beside it -/
def MR (n : Nat) (F : Nat → Int32) (A : Nat → Nat → Int32) (st ha mi dO dD dP : Nat → Int32) (nd : Nat) (li ow : Int32) (len ln nu : Nat) (uo : Nat → Int32) (uf ul : Nat → Nat) (ug : Nat → Int32) (ut : Nat → Nat) (uk ud : Nat → Nat → Int32) (nm nl pn : Nat) : Prop :=
  F 1 = nI len ∧ F 3 = nI ln ∧ F 14 = nI nu ∧ F 21 = nI nm ∧ F 26 = nI nl ∧ F 32 = nI pn ∧ ChR st ha mi dO dD dP nd li ow (A 4) (A 5) (A 6) (A 7) ln ∧ ln ≤ 60 ∧ UR A nu uo uf ul ug ut uk ud ∧ MvR nm (A 23) (A 24) (A 25) ∧ BlR nl (A 27) (A 28) (A 29) ∧ nl ≤ n ∧ (∀ o m, o < 8 → m < 120 → (A 31 (120 * o + m) = 0 ↔ ¬ hasD (A 27) (A 28) (nI o) (nI m) nl))
/-- all -/
def Rel (y : Nat → ClassId) (df : Nat) (qa : Nat × Nat × Nat) (n : Nat) (Ls : List Nat) (ad : Nat → Nat) (G : Nat → va_E) (F : Nat → Int32) (A : Nat → Nat → Int32) (lo : Nat → Int64) : Prop :=
  ∃ (ch dr : Nat) (st ha mi dO dD dP : Nat → Int32) (nd : Nat) (li ow : Int32) (len ln nu : Nat) (uo : Nat → Int32) (uf ul : Nat → Nat) (ug : Nat → Int32) (ut : Nat → Nat) (uk ud : Nat → Nat → Int32) (nm nl pn : Nat),
    CR y df qa Ls ad G ch dr st ha mi dO dD dP nd li ow (A 2) len nu uo uf ul ug ut uk ud nm (A 22) (A 23) (A 24) (A 25) nl (A 27) (A 28) (A 29) (A 30) (A 33) pn ∧ MR n F A st ha mi dO dD dP nd li ow len ln nu uo uf ul ug ut uk ud nm nl pn ∧ ModelAt y Ls ad G F A ∧ OutAt y Ls G lo
