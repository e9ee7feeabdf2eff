/-! the two new objects, and the row: the world at the loop's first head -/
def LsI : List Nat := [0, 1, 2, 10, 11, 12, 13, 14, 15, 16, 20, 21, 22, 23, 24, 25, 26, 3, 5, 7, 8, 30, 31, 100, 103, 105, 106, 107, 108, 110, 111, 112, 113, 116, 117, 118, 119, 120, 121, 123, 124, 125, 126, 128, 129, 130, 131, 132, 134, 70]
def adI (q0 q1 qo : Nat) (v w : Nat → Nat) : Nat → Nat
  | 0 => q0
  | 1 => v 0
  | 2 => v 1
  | 10 => v 2
  | 11 => v 3
  | 12 => v 4
  | 13 => v 5
  | 14 => v 6
  | 15 => v 7
  | 16 => v 8
  | 20 => v 9
  | 21 => v 10
  | 22 => v 11
  | 23 => v 12
  | 24 => v 13
  | 25 => v 14
  | 26 => v 15
  | 3 => v 16
  | 5 => v 17
  | 7 => v 18
  | 8 => v 19
  | 30 => v 20
  | 31 => v 21
  | 100 => q1
  | 103 => w 0
  | 105 => w 1
  | 106 => w 2
  | 107 => w 3
  | 108 => w 4
  | 110 => w 5
  | 111 => w 6
  | 112 => w 7
  | 113 => w 8
  | 116 => w 9
  | 117 => w 10
  | 118 => w 11
  | 119 => w 12
  | 120 => w 13
  | 121 => w 14
  | 123 => w 15
  | 124 => w 16
  | 125 => w 17
  | 126 => w 18
  | 128 => w 19
  | 129 => w 20
  | 130 => w 21
  | 131 => w 22
  | 132 => w 23
  | 134 => w 24
  | 70 => qo
  | _ => 0
def gI (y : Nat → ClassId) (df : Nat) (v w : Nat → Nat) (st1 ha1 mi1 st2 ha2 mi2 : Nat → Int32) : Nat → va_E
  | 0 => .inr (9, [.ref (v 0), .ref (v 2), .ref (v 9), .ref (v 16), .ref (v 17), .ref (v 18), .ref (v 20)])
  | 1 => .inr (7, [.ref (v 1), .int 0, .int 0])
  | 2 => .inl (y 1, 400, .inl (fun _ => 0))
  | 10 => .inr (4, [.ref (v 3), .ref (v 4), .ref (v 5), .ref (v 6), .ref (v 7), .ref (v 8), .int 0, .int 0, .int 0])
  | 11 => .inl (y 0, 40, .inl st1)
  | 12 => .inl (y 0, 40, .inl ha1)
  | 13 => .inl (y 0, 8, .inl mi1)
  | 14 => .inl (y 0, 60, .inl (fun _ => 0))
  | 15 => .inl (y 0, 60, .inl (fun _ => 0))
  | 16 => .inl (y 0, 60, .inl (fun _ => 0))
  | 20 => .inr (4, [.ref (v 10), .ref (v 11), .ref (v 12), .ref (v 13), .ref (v 14), .ref (v 15), .int 0, .int 0, .int 0])
  | 21 => .inl (y 0, 40, .inl st2)
  | 22 => .inl (y 0, 40, .inl ha2)
  | 23 => .inl (y 0, 8, .inl mi2)
  | 24 => .inl (y 0, 60, .inl (fun _ => 0))
  | 25 => .inl (y 0, 60, .inl (fun _ => 0))
  | 26 => .inl (y 0, 60, .inl (fun _ => 0))
  | 3 => .inr (1, [.int 0, .ref df, .int 0])
  | 5 => .inr (1, [.int 0, .ref df, .int 0])
  | 7 => .inr (3, [.ref (v 19)])
  | 8 => .inr (1, [.int 0, .ref df, .int 0])
  | 30 => .inr (6, [.ref (v 21), .int 0])
  | 31 => .inl (y 1, 8192, .inl (fun _ => 0))
  | 100 => .inr (10, [.int 0, .int 0, .ref (w 0), .int 0, .ref (w 1), .ref (w 2), .ref (w 3), .ref (w 4), .int 0, .ref (w 5), .ref (w 6), .ref (w 7), .ref (w 8), .int 0, .int 0, .ref (w 9), .ref (w 10), .ref (w 11), .ref (w 12), .ref (w 13), .ref (w 14), .int 0, .ref (w 15), .ref (w 16), .ref (w 17), .ref (w 18), .int 0, .ref (w 19), .ref (w 20), .ref (w 21), .ref (w 22), .ref (w 23), .int 0, .ref (w 24)])
  | 103 => .inl (y 0, 400, .inl (fun _ => 0))
  | 105 => .inl (y 0, 60, .inl (fun _ => 0))
  | 106 => .inl (y 0, 60, .inl (fun _ => 0))
  | 107 => .inl (y 0, 60, .inl (fun _ => 0))
  | 108 => .inl (y 0, 60, .inl (fun _ => 0))
  | 110 => .inl (y 0, 60, .inl (fun _ => 0))
  | 111 => .inl (y 0, 60, .inl (fun _ => 0))
  | 112 => .inl (y 0, 60, .inl (fun _ => 0))
  | 113 => .inl (y 0, 60, .inl (fun _ => 0))
  | 116 => .inl (y 0, 24, .inl (fun _ => 0))
  | 117 => .inl (y 0, 24, .inl (fun _ => 0))
  | 118 => .inl (y 0, 24, .inl (fun _ => 0))
  | 119 => .inl (y 0, 24, .inl (fun _ => 0))
  | 120 => .inl (y 0, 216, .inl (fun _ => 0))
  | 121 => .inl (y 0, 216, .inl (fun _ => 0))
  | 123 => .inl (y 0, 60, .inl (fun _ => 0))
  | 124 => .inl (y 0, 60, .inl (fun _ => 0))
  | 125 => .inl (y 0, 60, .inl (fun _ => 0))
  | 126 => .inl (y 0, 60, .inl (fun _ => 0))
  | 128 => .inl (y 0, 520, .inl (fun _ => 0))
  | 129 => .inl (y 0, 520, .inl (fun _ => 0))
  | 130 => .inl (y 0, 520, .inl (fun _ => 0))
  | 131 => .inl (y 2, 520, .inl (fun _ => 0))
  | 132 => .inl (y 2, 960, .inl (fun _ => 0))
  | 134 => .inl (y 0, 9000, .inl (fun _ => 0))
  | 70 => .inl (y 4, 1, .inr (.inl (fun _ => 0)))
  | _ => .inr (0, [])
theorem wl_I {y : Nat → ClassId} {df q0 q1 qo : Nat} {v w : Nat → Nat} {st1 ha1 mi1 st2 ha2 mi2 : Nat → Int32} : (newC y df q0 v st1 ha1 mi1 st2 ha2 mi2 ++ newM y q1 w) ++ [(qo, .inl (y 4, 1, .inr (.inl (fun _ => 0))))] = wl LsI (adI q0 q1 qo v w) (gI y df v w st1 ha1 mi1 st2 ha2 mi2) := rfl
theorem LsI_le : ∀ k ∈ LsI, k ≤ 134 := by decide
set_option maxRecDepth 20000 in
theorem Rel_I {y : Nat → ClassId} {df q0 q1 qo : Nat} {v w : Nat → Nat} {st1 ha1 mi1 st2 ha2 mi2 : Nat → Int32} (h1 : (∀ i, i < 40 → st1 i = -1) ∧ (∀ i, i < 40 → ha1 i = -1) ∧ (∀ i, i < 8 → mi1 i = -1)) : Rel y df (q0, qo, q1) 0 LsI (adI q0 q1 qo v w) (gI y df v w st1 ha1 mi1 st2 ha2 mi2) (fun _ => 0) (fun _ _ => 0) (fun _ => 0) := by
  have hle := LsI_le
  have hcd : ∀ c st ha mi, c = 10 ∧ st = st1 ∧ ha = ha1 ∧ mi = mi1 ∨ c = 20 ∧ st = st2 ∧ ha = ha2 ∧ mi = mi2 → ChargesAt y LsI (adI q0 q1 qo v w) (gI y df v w st1 ha1 mi1 st2 ha2 mi2) c st ha mi (fun _ => 0) (fun _ => 0) (fun _ => 0) 0 0 0 := by
    rintro c st ha mi (⟨rfl, rfl, rfl, rfl⟩ | ⟨rfl, rfl, rfl, rfl⟩)
    · exact ⟨⟨by decide, by decide, by decide, by decide, by decide, by decide, by decide⟩, rfl, rfl, rfl, rfl, rfl, rfl, rfl, by decide⟩
    · exact ⟨⟨by decide, by decide, by decide, by decide, by decide, by decide, by decide⟩, rfl, rfl, rfl, rfl, rfl, rfl, rfl, by decide⟩
  refine ⟨10, 20, st1, ha1, mi1, fun _ => 0, fun _ => 0, fun _ => 0, 0, 0, 0, 0, 0, 0, fun _ => 0, fun _ => 0, fun _ => 0, fun _ => 0, fun _ => 0, fun _ _ => 0, fun _ _ => 0, 0, 0, 0, ⟨⟨by decide, rfl⟩, Or.inl ⟨rfl, rfl⟩, hcd 10 st1 ha1 mi1 (Or.inl ⟨rfl, rfl, rfl, rfl⟩), ⟨(0, st2, ha2, mi2, fun _ => 0, fun _ => 0, fun _ => 0, 0, 0, 0), hcd 20 st2 ha2 mi2 (Or.inr ⟨rfl, rfl, rfl, rfl⟩)⟩, ⟨by decide, by decide, rfl, rfl, by decide, by decide, fun i hi => absurd hi (by omega)⟩, ⟨⟨0, df, by decide, rfl, by decide, fun h => absurd h (by decide)⟩, fun i hi => absurd hi (by omega)⟩, ⟨⟨0, df, by decide, rfl, by decide, fun h => absurd h (by decide)⟩, fun i hi => absurd hi (by omega)⟩, ⟨⟨by decide, rfl⟩, ⟨0, df, by decide, rfl, by decide, fun h => absurd h (by decide)⟩, fun i hi => absurd hi (by omega)⟩, ⟨by decide, by decide, rfl, rfl, by decide⟩, fun _ => ⟨0, rfl⟩, fun _ => ⟨0, rfl⟩, fun _ => ⟨0, rfl⟩, fun k hk _ _ => by have := hle k hk; omega, fun k hk _ _ => by have := hle k hk; omega, fun k hk _ => by have := hle k hk; omega, by decide, by decide, rfl, rfl, rfl⟩, ⟨rfl, rfl, rfl, rfl, rfl, rfl, ChR_0 h1.1 h1.2.1 h1.2.2, by decide, fun u hu => absurd hu (by omega), fun u hu => absurd hu (by omega), ⟨fun o m => bnd_0 _, fun i hi => absurd hi (by omega)⟩, by decide, fun o m _ _ => ⟨fun _ ⟨i, hi, _⟩ => absurd hi (by omega), fun _ => rfl⟩⟩, ⟨by decide, rfl, fun k hk => ?_⟩, by decide, rfl⟩
  have h33 := asz_le hk
  rcases (show k = 0 ∨ k = 1 ∨ k = 2 ∨ k = 3 ∨ k = 4 ∨ k = 5 ∨ k = 6 ∨ k = 7 ∨ k = 8 ∨ k = 9 ∨ k = 10 ∨ k = 11 ∨ k = 12 ∨ k = 13 ∨ k = 14 ∨ k = 15 ∨ k = 16 ∨ k = 17 ∨ k = 18 ∨ k = 19 ∨ k = 20 ∨ k = 21 ∨ k = 22 ∨ k = 23 ∨ k = 24 ∨ k = 25 ∨ k = 26 ∨ k = 27 ∨ k = 28 ∨ k = 29 ∨ k = 30 ∨ k = 31 ∨ k = 32 ∨ k = 33 by omega) with rfl | rfl | rfl | rfl | rfl | rfl | rfl | rfl | rfl | rfl | rfl | rfl | rfl | rfl | rfl | rfl | rfl | rfl | rfl | rfl | rfl | rfl | rfl | rfl | rfl | rfl | rfl | rfl | rfl | rfl | rfl | rfl | rfl | rfl
  · exact absurd rfl hk
  · exact absurd rfl hk
  · exact ⟨by decide, rfl⟩
  · exact absurd rfl hk
  · exact ⟨by decide, rfl⟩
  · exact ⟨by decide, rfl⟩
  · exact ⟨by decide, rfl⟩
  · exact ⟨by decide, rfl⟩
  · exact absurd rfl hk
  · exact ⟨by decide, rfl⟩
  · exact ⟨by decide, rfl⟩
  · exact ⟨by decide, rfl⟩
  · exact ⟨by decide, rfl⟩
  · exact absurd rfl hk
  · exact absurd rfl hk
  · exact ⟨by decide, rfl⟩
  · exact ⟨by decide, rfl⟩
  · exact ⟨by decide, rfl⟩
  · exact ⟨by decide, rfl⟩
  · exact ⟨by decide, rfl⟩
  · exact ⟨by decide, rfl⟩
  · exact absurd rfl hk
  · exact ⟨by decide, rfl⟩
  · exact ⟨by decide, rfl⟩
  · exact ⟨by decide, rfl⟩
  · exact ⟨by decide, rfl⟩
  · exact absurd rfl hk
  · exact ⟨by decide, rfl⟩
  · exact ⟨by decide, rfl⟩
  · exact ⟨by decide, rfl⟩
  · exact ⟨by decide, rfl⟩
  · exact ⟨by decide, rfl⟩
  · exact absurd rfl hk
  · exact ⟨by decide, rfl⟩
