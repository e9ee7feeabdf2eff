/-! pure: sums -/
theorem sN_c {v w : Nat → Int32} : ∀ {n : Nat}, (∀ k, k < n → v k = w k) → sN v n = sN w n
  | 0, _ => rfl
  | n + 1, h => by rw [sN, sN, sN_c (fun k hk => h k (by omega)), h n (by omega)]
theorem sumO_sN (uo : Nat → Int32) (o : Int32) (v : Nat → Int32) : ∀ n, sumO uo o v n = sN (fun u => if uo u = o then v u else 0) n
  | 0 => rfl
  | n + 1 => by
    rw [sumO, sN, sumO_sN uo o v n]
    by_cases h : uo n = o
    · rw [if_pos h, if_pos h]
    · rw [if_neg h, if_neg h, Int32.add_zero]
theorem sN_win (v : Nat → Int32) (s f g : Nat) : ∀ n, sN (fun j => if f ≤ s + j ∧ s + j ≤ g then v (s + j) else 0) n = sumD v (max s f) (min (s + n) (g + 1) - max s f)
  | 0 => by
    rw [show min (s + 0) (g + 1) - max s f = 0 by omega]; rfl
  | n + 1 => by
    rw [sN, sN_win v s f g n]
    by_cases h : f ≤ s + n ∧ s + n ≤ g
    · rw [if_pos h, show min (s + (n + 1)) (g + 1) - max s f = (min (s + n) (g + 1) - max s f) + 1 by omega, sumD, show max s f + (min (s + n) (g + 1) - max s f) = s + n by omega]
    · rw [if_neg h, Int32.add_zero, show min (s + (n + 1)) (g + 1) - max s f = min (s + n) (g + 1) - max s f by omega]
theorem sumD_one (s : Nat) : ∀ k, sumD (fun _ => 1) s k = nI k
  | 0 => rfl
  | k + 1 => by rw [sumD, sumD_one s k, nI_1]
theorem sumD_c {v w : Nat → Int32} {s : Nat} : ∀ {k : Nat}, (∀ d, s ≤ d → d < s + k → v d = w d) → sumD v s k = sumD w s k
  | 0, _ => rfl
  | k + 1, h => by rw [sumD, sumD, sumD_c (fun d h1 h2 => h d h1 (by omega)), h (s + k) (by omega) (by omega)]
theorem mxI_n {a b : Nat} (ha : a < 2 ^ 31) (hb : b < 2 ^ 31) : mxI (nI a) (nI b) = nI (max a b) := by
  rw [mxI]
  split
  · rename_i h; rw [nI_ltI ha hb] at h; rw [show max a b = b by omega]
  · rename_i h; rw [nI_ltI ha hb] at h; rw [show max a b = a by omega]
theorem mnI_n {a b : Nat} (ha : a < 2 ^ 31) (hb : b < 2 ^ 31) : mnI (nI a) (nI b) = nI (min a b) := by
  rw [mnI]
  split
  · rename_i h; rw [nI_ltI hb ha] at h; rw [show min a b = b by omega]
  · rename_i h; rw [nI_ltI hb ha] at h; rw [show min a b = a by omega]
theorem i_subp (a b : Int32) : a - b + 1 = a + 1 - b := by rw [Int32.sub_eq_add_neg, Int32.sub_eq_add_neg, Int32.add_assoc, Int32.add_comm (-b) 1, ← Int32.add_assoc]
theorem dT_n {a b : Nat} (ha : a < 2 ^ 30) (hb : b < 2 ^ 30) : mxI 0 (nI a - nI b + 1) = nI (a + 1 - b) := by
  rw [i_subp, nI_1]
  by_cases h : b ≤ a + 1
  · rw [pk_sub h]; exact (mxI_n (a := 0) (by decide) (by omega)).trans (by rw [Nat.zero_max])
  · rw [mxI, if_neg (fun h9 => ?_), show a + 1 - b = 0 by omega]
    · rfl
    · have := pk_sneg (a := a + 1) hb (by omega)
      exact absurd (Int32.lt_trans h9 this) Int32.lt_irrefl
theorem dTh_n {m f g : Nat} (hm : m < 120) (hf : f < 3600) (hg : g < 3600) : dTh (nI m) f g = nI (min (30 * m + 30) (g + 1) - max (30 * m) f) := by
  rw [dTh, show (30 : Int32) * nI m = nI (30 * m) from pk_mul 30 m, show nI (30 * m) + 30 - 1 = nI (30 * m + 29) by rw [show (30 : Int32) = nI 30 from rfl, nI_add]; exact nI_pred (30 * m + 29)]
  rw [mxI_n (by omega) (by omega), mnI_n (by omega) (by omega), dT_n (by omega) (by omega)]
  congr 1
  omega
/-- a unit, as the model has it and as the class has it -/
def UR1 (a15 a16 a17 a18 : Int32) (a19 a20 : Nat → Int32) (o : Int32) (f l : Nat) (g : Int32) (t : Nat) (kf df : Nat → Int32) : Prop :=
  a15 = o ∧ inR o 7 ∧ a16 = nI f ∧ f < 3600 ∧ l < 3600 ∧ ((g = 0 ∧ a17 = 100000 ∧ l = 3599) ∨ (g = 1 ∧ a17 = nI l)) ∧ 1 ≤ t ∧ t ≤ 9 ∧ a18 = nI t ∧ df 0 = nI f ∧ ∀ j, j < t → a19 j = df j ∧ a20 j = kf j ∧ inR (kf j) 4 ∧ inR (df j) 3599 ∧ nI f ≤ df j
theorem UR1_to {a17 g : Int32} {l d : Nat} (hl : l < 3600) (hd : d < 3600) (h : (g = 0 ∧ a17 = 100000 ∧ l = 3599) ∨ (g = 1 ∧ a17 = nI l)) : nI d ≤ a17 ↔ d ≤ l := by
  rcases h with ⟨-, h, h2⟩ | ⟨-, h⟩
  · rw [h, show (100000 : Int32) = nI 100000 from rfl, nI_leI (by omega) (by decide)]; omega
  · rw [h, nI_leI (by omega) (by omega)]
theorem mK_kOn {td tk kf df : Nat → Int32} {b : Nat} {d : Int32} : ∀ n, (∀ j, j < n + 1 → td (b + j) = df j ∧ tk (b + j) = kf j ∧ inR (kf j) 4) → df 0 ≤ d → mK td tk b d (n + 1) = kOn kf df d n
  | 0, h, h0 => by
    obtain ⟨h1, h2, h3⟩ := h 0 (by omega)
    rw [mK, mK, kOn, h1, h2]
    by_cases h4 : df 0 < d
    · rw [if_pos h4]
    · rw [if_neg h4, if_pos]
      refine ⟨Int32.le_antisymm h0 (Int32.not_lt.mp h4), Int32.lt_of_lt_of_le (by decide) h3.1⟩
  | n + 1, h, h0 => by
    obtain ⟨h1, h2, h3⟩ := h (n + 1) (by omega)
    rw [mK, mK_kOn n (fun j hj => h j (by omega)) h0, kOn, h1, h2, mxI]
    by_cases h4 : df (n + 1) < d
    · rw [if_pos h4, if_pos h4]
    · rw [if_neg h4, if_neg h4]
      by_cases h5 : df (n + 1) = d
      · rw [if_pos h5]
        by_cases h6 : kOn kf df d n < kf (n + 1)
        · rw [if_pos h6, if_pos ⟨h5, h6⟩]
        · rw [if_neg h6, if_neg (fun h => h6 h.2)]
      · rw [if_neg h5, if_neg (fun h => h5 h.1)]
theorem kOn_in {kf df : Nat → Int32} {d : Int32} {P : Int32 → Prop} : ∀ n, (∀ j, j < n + 1 → P (kf j)) → P (kOn kf df d n)
  | 0, h => h 0 (by omega)
  | n + 1, h => by
    have ih := kOn_in (df := df) (d := d) n (fun j hj => h j (by omega))
    rw [kOn, mxI]
    split
    · exact h _ (by omega)
    · split
      · split
        · exact h _ (by omega)
        · exact ih
      · exact ih
/-- all units -/
def UR (A : Nat → Nat → Int32) (nu : Nat) (uo : Nat → Int32) (uf ul : Nat → Nat) (ug : Nat → Int32) (ut : Nat → Nat) (uk ud : Nat → Nat → Int32) : Prop :=
  ∀ u, u < nu → UR1 (A 15 u) (A 16 u) (A 17 u) (A 18 u) (fun j => A 19 (9 * u + j)) (fun j => A 20 (9 * u + j)) (uo u) (uf u) (ul u) (ug u) (ut u) (uk u) (ud u)
theorem mDay_eq {A : Nat → Nat → Int32} {nu : Nat} {uo : Nat → Int32} {uf ul : Nat → Nat} {ug : Nat → Int32} {ut : Nat → Nat} {uk ud : Nat → Nat → Int32} (h : UR A nu uo uf ul ug ut uk ud) (o : Int32) {m : Nat} (hm : m < 120) : mDay (A 15) (A 16) (A 17) o m nu = sumO uo o (fun q => dTh (nI m) (uf q) (ul q)) nu := by
  rw [mDay, sumO_sN]
  refine sN_c fun u hu => ?_
  obtain ⟨h1, -, h2, h3, h4, h5, -⟩ := h u hu
  by_cases ho : uo u = o
  · rw [if_pos ho, dTh_n hm h3 h4, ← sumD_one (max (30 * m) (uf u)), ← sN_win (fun _ => 1)]
    refine sN_c fun j hj => ?_
    simp only [mIn]
    by_cases hc : uf u ≤ 30 * m + j ∧ 30 * m + j ≤ ul u
    · rw [if_pos hc, if_pos ⟨h1.trans ho, by rw [h2, nI_leI (by omega) (by omega)]; exact hc.1, (UR1_to h4 (by omega) h5).mpr hc.2⟩]
    · rw [if_neg hc, if_neg]
      rintro ⟨-, q1, q2⟩
      rw [h2, nI_leI (by omega) (by omega)] at q1
      exact hc ⟨q1, (UR1_to h4 (by omega) h5).mp q2⟩
  · rw [if_neg ho]
    refine Eq.trans (sN_c (w := fun _ => 0) fun j hj => if_neg fun h9 => ho (h1 ▸ h9.1)) ?_
    rfl
theorem mSt_eq {A : Nat → Nat → Int32} {nu : Nat} {uo : Nat → Int32} {uf ul : Nat → Nat} {ug : Nat → Int32} {ut : Nat → Nat} {uk ud : Nat → Nat → Int32} (h : UR A nu uo uf ul ug ut uk ud) (o by0 : Int32) {m : Nat} (hm : m < 120) {L O Wh Mu st : Nat → Int32} {nl : Nat} (hst : ∀ k, inR k 4 → tZ 40 st (5 * by0 + k) = mCe L O Wh Mu 83 by0 k nl) : mSt L O Wh Mu nl (A 15) (A 16) (A 17) ut (A 19) (A 20) o by0 m nu = sumO uo o (fun q => stoU st by0 m (uf q) (ul q) (ut q) (uk q) (ud q)) nu := by
  rw [mSt, sumO_sN]
  refine sN_c fun u hu => ?_
  obtain ⟨h1, -, h2, h3, h4, h5, h6, h7, -, h8, h9⟩ := h u hu
  by_cases ho : uo u = o
  · rw [if_pos ho, stoU, show min (30 * m + 29) (ul u) + 1 - max (30 * m) (uf u) = min (30 * m + 30) (ul u + 1) - max (30 * m) (uf u) by omega, ← sN_win]
    refine sN_c fun j hj => ?_
    simp only [mIn]
    by_cases hc : uf u ≤ 30 * m + j ∧ 30 * m + j ≤ ul u
    · rw [if_pos hc, if_pos ⟨h1.trans ho, by rw [h2, nI_leI (by omega) (by omega)]; exact hc.1, (UR1_to h4 (by omega) h5).mpr hc.2⟩]
      obtain ⟨t, ht⟩ : ∃ t, ut u = t + 1 := ⟨ut u - 1, by omega⟩
      rw [ht, mK_kOn (kf := uk u) (df := ud u) t (fun j hj => ⟨(h9 j (by omega)).1, (h9 j (by omega)).2.1, (h9 j (by omega)).2.2.1⟩) (by rw [h8, nI_leI (by omega) (by omega)]; exact hc.1), Nat.add_sub_cancel]
      exact (hst _ (kOn_in (P := fun k => inR k 4) t (fun j hj => (h9 j (by omega)).2.2.1))).symm
    · rw [if_neg hc, if_neg]
      rintro ⟨-, q1, q2⟩
      rw [h2, nI_leI (by omega) (by omega)] at q1
      exact hc ⟨q1, (UR1_to h4 (by omega) h5).mp q2⟩
  · rw [if_neg ho]
    refine Eq.trans (sN_c (w := fun _ => 0) fun j hj => if_neg fun h9 => ho (h1 ▸ h9.1)) ?_
    rfl

/-! pure: the charges -/
theorem mCh_c {L O Wh Mu L2 O2 Wh2 Mu2 : Nat → Int32} {l o w : Int32} : ∀ {n i : Nat}, (∀ k, i ≤ k → k < i + n → L k = L2 k ∧ O k = O2 k ∧ Wh k = Wh2 k ∧ Mu k = Mu2 k) → mCh L O Wh Mu l o w n i = mCh L2 O2 Wh2 Mu2 l o w n i
  | 0, _, _ => rfl
  | n + 1, i, h => by
    obtain ⟨h1, h2, h3, h4⟩ := h i (by omega) (by omega)
    rw [mCh, mCh, h1, h2, h3, h4, mCh_c (fun k a b => h k (by omega) (by omega))]
theorem mCh_none {L O Wh Mu : Nat → Int32} {l o w : Int32} : ∀ {n i : Nat}, (∀ k, i ≤ k → k < i + n → ¬ (L k = l ∧ O k = o ∧ Wh k = w)) → mCh L O Wh Mu l o w n i = -1
  | 0, _, _ => rfl
  | n + 1, i, h => by rw [mCh, if_neg (h i (by omega) (by omega)), mCh_none (fun k a b => h k (by omega) (by omega))]
theorem mCh_new {L O Wh Mu : Nat → Int32} {l o w : Int32} : ∀ {n i : Nat}, (∀ k, i ≤ k → k < i + n → ¬ (L k = l ∧ O k = o ∧ Wh k = w)) → (L (i + n) = l ∧ O (i + n) = o ∧ Wh (i + n) = w) → mCh L O Wh Mu l o w (n + 1) i = Mu (i + n)
  | 0, i, _, h2 => if_pos h2
  | n + 1, i, h, h2 => by
    rw [mCh, if_neg (h i (by omega) (by omega)), mCh_new (fun k a b => h k (by omega) (by omega)) (by rw [show i + 1 + n = i + (n + 1) by omega]; exact h2)]
    congr 1; omega
theorem mCh_old {L O Wh Mu : Nat → Int32} {l o w : Int32} : ∀ {n i : Nat}, ¬ (L (i + n) = l ∧ O (i + n) = o ∧ Wh (i + n) = w) → mCh L O Wh Mu l o w (n + 1) i = mCh L O Wh Mu l o w n i
  | 0, i, h => if_neg h
  | n + 1, i, h => by
    rw [mCh, mCh_old (n := n) (i := i + 1) (by rw [show i + 1 + n = i + (n + 1) by omega]; exact h)]
    rfl
theorem mCh_some {L O Wh Mu : Nat → Int32} {l o w : Int32} : ∀ {n i : Nat}, (∃ k, i ≤ k ∧ k < i + n ∧ L k = l ∧ O k = o ∧ Wh k = w) → ∃ k, i ≤ k ∧ k < i + n ∧ L k = l ∧ mCh L O Wh Mu l o w n i = Mu k
  | 0, i, ⟨k, h1, h2, _⟩ => absurd h1 (by omega)
  | n + 1, i, ⟨k, h1, h2, h3⟩ => by
    by_cases h : L i = l ∧ O i = o ∧ Wh i = w
    · exact ⟨i, by omega, by omega, h.1, by rw [mCh, if_pos h]⟩
    · have hk : k ≠ i := fun e => h (e ▸ h3)
      obtain ⟨j, a, b, c, d⟩ := mCh_some (Mu := Mu) (n := n) (i := i + 1) ⟨k, by omega, by omega, h3⟩
      exact ⟨j, by omega, by omega, c, by rw [mCh, if_neg h, d]⟩
theorem mB_c {L O Wh L2 O2 Wh2 : Nat → Int32} {o d : Int32} : ∀ {n : Nat}, (∀ k, k < n → L k = L2 k ∧ O k = O2 k ∧ Wh k = Wh2 k) → mB L O Wh o d n = mB L2 O2 Wh2 o d n
  | 0, _ => rfl
  | n + 1, h => by
    obtain ⟨h1, h2, h3⟩ := h n (by omega)
    rw [mB, mB, mB_c (fun k hk => h k (by omega)), h1, h2, h3]
    split
    · cases hb : mB L2 O2 Wh2 o d n with
      | none => rfl
      | some b => simp only []; rw [(h b (by have := mB_lt hb; omega)).2.2]
    · rfl
theorem pF_c {dO dD dP dO2 dD2 dP2 : Nat → Int32} {o d : Int32} : ∀ {n : Nat}, (∀ k, k < n → dO k = dO2 k ∧ dD k = dD2 k ∧ dP k = dP2 k) → pF dO dD dP o d n = pF dO2 dD2 dP2 o d n
  | 0, _ => rfl
  | n + 1, h => by
    obtain ⟨h1, h2, h3⟩ := h n (by omega)
    rw [pF, pF, pF_c (fun k hk => h k (by omega)), h1, h2, h3]
theorem orF_c {O O2 : Nat → Int32} {b : Int32} : ∀ {n : Nat}, (∀ k, k < n → O k = O2 k) → orF O b n = orF O2 b n
  | 0, _ => rfl
  | n + 1, h => by rw [orF, orF, orF_c (fun k hk => h k (by omega)), h n (by omega)]
theorem mHas_c {L O Wh L2 O2 Wh2 : Nat → Int32} {l o w : Int32} {n : Nat} (h : ∀ k, k < n → L k = L2 k ∧ O k = O2 k ∧ Wh k = Wh2 k) : mHas L O Wh l o w n ↔ mHas L2 O2 Wh2 l o w n := by
  constructor
  · rintro ⟨i, hi, a, b, c⟩; obtain ⟨h1, h2, h3⟩ := h i hi; exact ⟨i, hi, h1 ▸ a, h2 ▸ b, h3 ▸ c⟩
  · rintro ⟨i, hi, a, b, c⟩; obtain ⟨h1, h2, h3⟩ := h i hi; exact ⟨i, hi, h1 ▸ a, h2 ▸ b, h3 ▸ c⟩
/-- the best of both -/
def bP (Wh Mu : Nat → Int32) : Option Nat → Int32 × Int32
  | none => (0, 0)
  | some b => (Wh b, Mu b)
/-- the charges of the class, and the lines of the model -/
def ChR (st ha mi dO dD dP : Nat → Int32) (nd : Nat) (li ow : Int32) (L O Wh Mu : Nat → Int32) (n : Nat) : Prop :=
  (∀ o w, o < 8 → w < 5 → st (5 * o + w) = mCh L O Wh Mu 83 (nI o) (nI w) n 0) ∧ (∀ o w, o < 8 → w < 5 → ha (5 * o + w) = mCh L O Wh Mu 72 (nI o) (nI w) n 0) ∧ (∀ o, o < 8 → mi o = mCh L O Wh Mu 77 (nI o) 0 n 0) ∧ li = nI n ∧ ow = orF O 0 n ∧ nd ≤ n ∧ (∀ o d, hasD dO dD o d nd ↔ mHas L O Wh 86 o d n) ∧ (∀ o d, pF dO dD dP o d nd = bP Wh Mu (mB L O Wh o d n)) ∧ (∀ i, i < n → (∃ z, z ≤ 10000 ∧ Mu i = nI z) ∧ 0 ≤ Wh i ∧ (L i = 86 → ∃ z, z ≤ 100 ∧ Mu i = nI z))
theorem ChR_0 {st ha mi dO dD dP L O Wh Mu : Nat → Int32} (h1 : ∀ i, i < 40 → st i = -1) (h2 : ∀ i, i < 40 → ha i = -1) (h3 : ∀ i, i < 8 → mi i = -1) : ChR st ha mi dO dD dP 0 0 0 L O Wh Mu 0 :=
  ⟨fun o w ho hw => h1 _ (by omega), fun o w ho hw => h2 _ (by omega), fun o ho => h3 _ ho, rfl, rfl, Nat.le_refl _, fun o d => ⟨fun ⟨i, hi, _⟩ => absurd hi (by omega), fun ⟨i, hi, _⟩ => absurd hi (by omega)⟩, fun o d => rfl, fun i hi => absurd hi (by omega)⟩
theorem ChR_c {st ha mi dO dD dP L O Wh Mu L2 O2 Wh2 Mu2 : Nat → Int32} {nd n : Nat} {li ow : Int32} (h : ∀ k, k < n → L k = L2 k ∧ O k = O2 k ∧ Wh k = Wh2 k ∧ Mu k = Mu2 k) (hR : ChR st ha mi dO dD dP nd li ow L O Wh Mu n) : ChR st ha mi dO dD dP nd li ow L2 O2 Wh2 Mu2 n := by
  obtain ⟨a1, a2, a3, a4, a5, a6, a7, a8, a9⟩ := hR
  have hc : ∀ l o w, mCh L O Wh Mu l o w n 0 = mCh L2 O2 Wh2 Mu2 l o w n 0 := fun l o w => mCh_c (fun k _ hk => h k (by omega))
  have h3 : ∀ k, k < n → L k = L2 k ∧ O k = O2 k ∧ Wh k = Wh2 k := fun k hk => ⟨(h k hk).1, (h k hk).2.1, (h k hk).2.2.1⟩
  refine ⟨fun o w ho hw => by rw [a1 o w ho hw, hc], fun o w ho hw => by rw [a2 o w ho hw, hc], fun o ho => by rw [a3 o ho, hc], a4, by rw [a5, orF_c (fun k hk => (h k hk).2.1)], a6, fun o d => (a7 o d).trans (mHas_c h3), fun o d => ?_, fun i hi => ?_⟩
  · rw [a8, ← mB_c h3]
    cases hb : mB L O Wh o d n with
    | none => rfl
    | some b => have := h b (mB_lt hb); simp only [bP]; rw [this.2.2.1, this.2.2.2]
  · obtain ⟨e1, -, e3, e4⟩ := h i hi
    rw [← e1, ← e3, ← e4]; exact a9 i hi
theorem mB_86 {L O Wh : Nat → Int32} {o d : Int32} : ∀ {n b : Nat}, mB L O Wh o d n = some b → L b = 86 ∧ O b = o := by
  intro n
  induction n with
  | zero => intro b h; cases h
  | succ n ih =>
    intro b h
    rw [mB] at h
    split at h
    · rename_i hc
      split at h
      · cases h; exact ⟨hc.1, hc.2.1⟩
      · rename_i b2 hb2
        split at h
        · cases h; exact ⟨hc.1, hc.2.1⟩
        · cases h; exact ih hb2
    · exact ih h
theorem upd_c {f : Nat → Int32} {x : Int32} {k n : Nat} (h : k < n) : upd f n x k = f k := pk_un (by omega)
theorem i5 {a b : Nat} (h : a < 8) (hb : b < 5) : 5 * nI a + nI b = nI (5 * a + b) ∧ (5 * nI a + nI b).toNatClampNeg = 5 * a + b := by
  have : 5 * nI a + nI b = nI (5 * a + b) := by rw [show (5 : Int32) * nI a = nI (5 * a) from pk_mul 5 a, nI_add]
  exact ⟨this, by rw [this, nI_clamp (by omega)]⟩
theorem in_nI {x : Int32} {M : Int32} {n : Nat} (hM : M.toInt = n) (h : inR x M) : ∃ j, j ≤ n ∧ x = nI j := nI_of2 hM (Int32.not_lt.mpr h.1) h.2
theorem nI_in0 {j n : Nat} {M : Int32} (hM : M = nI n) (hn : n < 2 ^ 31) (h : j ≤ n) : inR (nI j) M := ⟨nI_pos' (by omega), by rw [hM]; exact nI_le h hn⟩
theorem ch_has {L O Wh Mu : Nat → Int32} {n : Nat} (h9 : ∀ i, i < n → ∃ z, z ≤ 10000 ∧ Mu i = nI z) {l o w : Int32} : mCh L O Wh Mu l o w n 0 = -1 ↔ ¬ mHas L O Wh l o w n := by
  constructor
  · rintro h ⟨i, hi, hm⟩
    obtain ⟨k, -, hk, -, e⟩ := mCh_some (Mu := Mu) (n := n) (i := 0) ⟨i, by omega, by omega, hm⟩
    obtain ⟨z, hz, ez⟩ := h9 k (by omega)
    rw [e, ez] at h
    have h2 : (nI z).toInt = (-1 : Int32).toInt := congrArg Int32.toInt h
    rw [nI_toInt (by omega)] at h2
    have h3 : (-1 : Int32).toInt = -1 := by decide
    omega
  · intro h
    exact mCh_none (fun k _ hk hm => h ⟨k, by omega, hm⟩)
/-- one line more -/
theorem ChR_add {st ha mi dO dD dP L O Wh Mu : Nat → Int32} {nd n a : Nat} {li ow l0 s t w m : Int32} (hR : ChR st ha mi dO dD dP nd li ow L O Wh Mu n) (ha8 : a < 8) (h77 : l0 = 77 → w = 0 ∧ m = s) (hn77 : ¬ l0 = 77 → w = s ∧ m = t) (hok : cOK l0 (nI a) s t st ha mi dO dD nd) :
    ChR (cUp 83 l0 st (5 * nI a + s).toNatClampNeg t) (cUp 72 l0 ha (5 * nI a + s).toNatClampNeg t) (cUp 77 l0 mi (nI a).toNatClampNeg s) (cUp 86 l0 dO nd (nI a)) (cUp 86 l0 dD nd s) (cUp 86 l0 dP nd t) (cNd l0 nd) (li + 1) (ow ||| ((1 : Int32) <<< (nI a &&& 31))) (upd L n l0) (upd O n (nI a)) (upd Wh n w) (upd Mu n m) (n + 1) := by
  obtain ⟨a1, a2, a3, a4, a5, a6, a7, a8, a9⟩ := hR
  have h9 : ∀ i, i < n → ∃ z, z ≤ 10000 ∧ Mu i = nI z := fun i hi => (a9 i hi).1
  have hcc : ∀ l o w', mCh (upd L n l0) (upd O n (nI a)) (upd Wh n w) (upd Mu n m) l o w' n 0 = mCh L O Wh Mu l o w' n 0 := fun l o w' => mCh_c (fun k _ hk => ⟨upd_c (by omega), upd_c (by omega), upd_c (by omega), upd_c (by omega)⟩)
  have hold : ∀ l o w', ¬ (l0 = l ∧ nI a = o ∧ w = w') → mCh (upd L n l0) (upd O n (nI a)) (upd Wh n w) (upd Mu n m) l o w' (n + 1) 0 = mCh L O Wh Mu l o w' n 0 := fun l o w' h => by
    rw [mCh_old (by rw [Nat.zero_add, pk_us, pk_us, pk_us]; exact h), hcc]
  have hnew : ¬ mHas L O Wh l0 (nI a) w n → mCh (upd L n l0) (upd O n (nI a)) (upd Wh n w) (upd Mu n m) l0 (nI a) w (n + 1) 0 = m := fun h => by
    rw [mCh_new (fun k _ hk hm => h ⟨k, by omega, by rw [upd_c (by omega), upd_c (by omega), upd_c (by omega)] at hm; exact hm⟩) (by rw [Nat.zero_add, pk_us, pk_us, pk_us]; exact ⟨rfl, rfl, rfl⟩), Nat.zero_add, pk_us]
  have h3 : ∀ k, k < n → upd L n l0 k = L k ∧ upd O n (nI a) k = O k ∧ upd Wh n w k = Wh k := fun k hk => ⟨upd_c hk, upd_c hk, upd_c hk⟩
  have hhas : ∀ l o w', mHas (upd L n l0) (upd O n (nI a)) (upd Wh n w) l o w' (n + 1) ↔ mHas L O Wh l o w' n ∨ (l0 = l ∧ nI a = o ∧ w = w') := fun l o w' => by
    constructor
    · rintro ⟨i, hi, hm⟩
      by_cases e : i = n
      · subst e; rw [pk_us, pk_us, pk_us] at hm; exact Or.inr hm
      · rw [pk_un e, pk_un e, pk_un e] at hm; exact Or.inl ⟨i, by omega, hm⟩
    · rintro (⟨i, hi, hm⟩ | hm)
      · exact ⟨i, by omega, by rw [upd_c hi, upd_c hi, upd_c hi]; exact hm⟩
      · exact ⟨n, by omega, by rw [pk_us, pk_us, pk_us]; exact hm⟩
  have hmB : ∀ o d, mB (upd L n l0) (upd O n (nI a)) (upd Wh n w) o d n = mB L O Wh o d n := fun o d => mB_c h3
  have hbP : ∀ o d, bP (upd Wh n w) (upd Mu n m) (mB L O Wh o d n) = bP Wh Mu (mB L O Wh o d n) := fun o d => by
    cases hb : mB L O Wh o d n with
    | none => rfl
    | some b => simp only [bP]; rw [upd_c (mB_lt hb), upd_c (mB_lt hb)]
  have hli : li + 1 = nI (n + 1) := by rw [a4, nI_1]
  have how : (ow ||| ((1 : Int32) <<< (nI a &&& 31))) = orF (upd O n (nI a)) 0 (n + 1) := by
    rw [orF, pk_us, orF_c (O2 := O) (fun k hk => upd_c hk), a5]
  have hlast : (∃ z, z ≤ 10000 ∧ m = nI z) → 0 ≤ w → (l0 = 86 → ∃ z, z ≤ 100 ∧ m = nI z) → ∀ i, i < n + 1 → (∃ z, z ≤ 10000 ∧ upd Mu n m i = nI z) ∧ 0 ≤ upd Wh n w i ∧ (upd L n l0 i = 86 → ∃ z, z ≤ 100 ∧ upd Mu n m i = nI z) := fun b1 b2 b3 i hi => by
    by_cases e : i = n
    · subst e; rw [pk_us, pk_us, pk_us]; exact ⟨b1, b2, b3⟩
    · rw [pk_un e, pk_un e, pk_un e]; exact a9 i (by omega)
  have hneq : ∀ {x y : Int32} {p q : Prop}, ¬ x = y → ¬ (x = y ∧ p ∧ q) := fun h h2 => h h2.1
  have h86 : ¬ l0 = 86 → (∀ o d, hasD dO dD o d nd ↔ mHas (upd L n l0) (upd O n (nI a)) (upd Wh n w) 86 o d (n + 1)) ∧ ∀ o d, pF dO dD dP o d nd = bP (upd Wh n w) (upd Mu n m) (mB (upd L n l0) (upd O n (nI a)) (upd Wh n w) o d (n + 1)) := fun h => by
    refine ⟨fun o d => ?_, fun o d => ?_⟩
    · rw [a7, hhas]; exact ⟨Or.inl, fun h2 => h2.elim id (fun h2 => absurd h2.1 h)⟩
    · rw [a8, mB, if_neg (by rw [pk_us]; exact fun h2 => h h2.1), hmB, hbP]
  rcases hok with ⟨rfl, hs, ht, k, hk, ek, hst⟩ | ⟨rfl, hs, ht, k, hk, ek, hst⟩ | ⟨rfl, hs, k, hk, ek, hst⟩ | ⟨rfl, hs, ht, hd, hnd⟩
  · obtain ⟨rfl, rfl⟩ := hn77 (by decide)
    obtain ⟨b, hb, rfl⟩ := in_nI (n := 4) rfl hs
    obtain ⟨z, hz, rfl⟩ := in_nI (n := 10000) rfl ht
    have hx := i5 ha8 (b := b) (by omega)
    obtain rfl : 5 * a + b = k := by
      rw [hx.1, nI_eq (by omega) (by omega)] at ek; exact ek
    rw [a1 a b ha8 (by omega), ch_has h9] at hst
    rw [cUp_1 rfl, cUp_0 (by decide), cUp_0 (by decide), cUp_0 (by decide), cUp_0 (by decide), cUp_0 (by decide), cNd, if_neg (by decide), hx.2]
    refine ⟨fun o w' ho hw => ?_, fun o w' ho hw => by rw [hold _ _ _ (hneq (by decide))]; exact a2 o w' ho hw, fun o ho => by rw [hold _ _ _ (hneq (by decide))]; exact a3 o ho, hli, how, by omega, (h86 (by decide)).1, (h86 (by decide)).2, hlast ⟨z, hz, rfl⟩ hs.1 (fun h => absurd h (by decide))⟩
    by_cases e : o = a ∧ w' = b
    · obtain ⟨rfl, rfl⟩ := e
      rw [pk_us, hnew hst]
    · rw [pk_un (by omega), hold, a1 o w' ho hw]
      rintro ⟨-, e1, e2⟩
      rw [nI_eq (by omega) (by omega)] at e1 e2
      exact e ⟨e1.symm, e2.symm⟩
  · obtain ⟨rfl, rfl⟩ := hn77 (by decide)
    obtain ⟨b, hb, rfl⟩ := in_nI (n := 4) rfl hs
    obtain ⟨z, hz, rfl⟩ := in_nI (n := 10000) rfl ht
    have hx := i5 ha8 (b := b) (by omega)
    obtain rfl : 5 * a + b = k := by
      rw [hx.1, nI_eq (by omega) (by omega)] at ek; exact ek
    rw [a2 a b ha8 (by omega), ch_has h9] at hst
    rw [cUp_0 (by decide), cUp_1 rfl, cUp_0 (by decide), cUp_0 (by decide), cUp_0 (by decide), cUp_0 (by decide), cNd, if_neg (by decide), hx.2]
    refine ⟨fun o w' ho hw => by rw [hold _ _ _ (hneq (by decide))]; exact a1 o w' ho hw, fun o w' ho hw => ?_, fun o ho => by rw [hold _ _ _ (hneq (by decide))]; exact a3 o ho, hli, how, by omega, (h86 (by decide)).1, (h86 (by decide)).2, hlast ⟨z, hz, rfl⟩ hs.1 (fun h => absurd h (by decide))⟩
    by_cases e : o = a ∧ w' = b
    · obtain ⟨rfl, rfl⟩ := e
      rw [pk_us, hnew hst]
    · rw [pk_un (by omega), hold, a2 o w' ho hw]
      rintro ⟨-, e1, e2⟩
      rw [nI_eq (by omega) (by omega)] at e1 e2
      exact e ⟨e1.symm, e2.symm⟩
  · obtain ⟨rfl, rfl⟩ := h77 rfl
    obtain ⟨z, hz, rfl⟩ := in_nI (n := 10000) rfl hs
    obtain rfl : a = k := (nI_eq (by omega) (by omega)).mp ek
    rw [a3 a ha8, ch_has h9] at hst
    rw [cUp_0 (by decide), cUp_0 (by decide), cUp_1 rfl, cUp_0 (by decide), cUp_0 (by decide), cUp_0 (by decide), cNd, if_neg (by decide), nI_clamp (by omega)]
    refine ⟨fun o w' ho hw => by rw [hold _ _ _ (hneq (by decide))]; exact a1 o w' ho hw, fun o w' ho hw => by rw [hold _ _ _ (hneq (by decide))]; exact a2 o w' ho hw, fun o ho => ?_, hli, how, by omega, (h86 (by decide)).1, (h86 (by decide)).2, hlast ⟨z, hz, rfl⟩ (by decide) (fun h => absurd h (by decide))⟩
    by_cases e : o = a
    · subst e
      rw [pk_us, hnew hst]
    · rw [pk_un e, hold, a3 o ho]
      rintro ⟨-, e1, -⟩
      rw [nI_eq (by omega) (by omega)] at e1
      exact e e1.symm
  · obtain ⟨rfl, rfl⟩ := hn77 (by decide)
    obtain ⟨z, hz, rfl⟩ := in_nI (n := 100) rfl ht
    have hs0 : 0 ≤ w := Int32.le_trans (by decide) hs.1
    rw [cUp_0 (by decide), cUp_0 (by decide), cUp_0 (by decide), cUp_1 rfl, cUp_1 rfl, cUp_1 rfl, cNd, if_pos rfl]
    refine ⟨fun o w' ho hw => by rw [hold _ _ _ (hneq (by decide))]; exact a1 o w' ho hw, fun o w' ho hw => by rw [hold _ _ _ (hneq (by decide))]; exact a2 o w' ho hw, fun o ho => by rw [hold _ _ _ (hneq (by decide))]; exact a3 o ho, hli, how, by omega, fun o d => ?_, fun o d => ?_, hlast ⟨z, by omega, rfl⟩ hs0 (fun h => ⟨z, hz, rfl⟩)⟩
    · rw [hhas, ← a7]
      constructor
      · rintro ⟨i, hi, hm⟩
        by_cases e : i = nd
        · subst e; rw [pk_us, pk_us] at hm; exact Or.inr ⟨rfl, hm⟩
        · rw [pk_un e, pk_un e] at hm; exact Or.inl ⟨i, by omega, hm⟩
      · rintro (⟨i, hi, hm⟩ | ⟨-, hm⟩)
        · exact ⟨i, by omega, by rw [upd_c hi, upd_c hi]; exact hm⟩
        · exact ⟨nd, by omega, by rw [pk_us, pk_us]; exact hm⟩
    · rw [pF, pF_c (dO2 := dO) (dD2 := dD) (dP2 := dP) (fun k hk => ⟨upd_c hk, upd_c hk, upd_c hk⟩), a8, pk_us, pk_us, pk_us, mB, pk_us, pk_us, pk_us, hmB]
      rw [a7] at hd
      by_cases e : nI a = o ∧ w ≤ d
      · obtain ⟨rfl, e2⟩ := e
        rw [if_pos (⟨rfl, rfl, e2⟩ : (86 : Int32) = 86 ∧ nI a = nI a ∧ w ≤ d)]
        cases hb : mB L O Wh (nI a) d n with
        | none => rw [if_pos ⟨rfl, hs0, e2⟩]; simp only [bP]; rw [pk_us, pk_us]
        | some b =>
          have hbn := mB_lt hb
          have hb8 := mB_86 hb
          simp only [bP]
          rw [upd_c hbn]
          have hne : ¬ Wh b = w := fun e => hd ⟨b, hbn, hb8.1, hb8.2, e⟩
          by_cases hlt : Wh b < w
          · rw [if_pos ⟨trivial, Int32.le_of_lt hlt, e2⟩, if_pos hlt]; simp only []; rw [pk_us, pk_us]
          · rw [if_neg hlt, if_neg (fun h => hne (Int32.le_antisymm h.2.1 (Int32.not_lt.mp hlt)))]; simp only []; rw [upd_c hbn, upd_c hbn]
      · rw [if_neg (fun h => e ⟨h.1, h.2.2⟩), if_neg (fun h => e h.2), hbP]

/-! pure: numbers and lines -/
def dg (f : Nat → Int32) (len p : Nat) : Prop := 48 ≤ nx f len p ∧ nx f len p ≤ 57
theorem dg_in {f : Nat → Int32} {len p : Nat} (h : dg f len p) : p < len ∧ nx f len p = f p := by
  have h1 : p < len := nx_in (fun e => by have := h.1; rw [e] at this; exact absurd this (by decide))
  exact ⟨h1, by rw [nx, if_pos h1]⟩
theorem i_sub0 {x c : Int32} (h : x - c = 0) : x = c := by
  have : x - c + c = 0 + c := by rw [h]
  rwa [Int32.sub_add_cancel, Int32.zero_add] at this
theorem numV_1 (f : Nat → Int32) (p : Nat) : numV f p 1 = f p - 48 := by
  rw [numV, numV]; simp
theorem lk_mlk {f : Nat → Int32} {len p : Nat} (h : ¬ nx f len p = 48) : ∀ k, lk f len p k = mlk f len p k
  | 0 => rfl
  | k + 1 => by
    rw [lk, mlk, lk_mlk h k]
    by_cases h1 : mlk f len p k = k ∧ (48 ≤ nx f len (p + k) ∧ nx f len (p + k) ≤ 57)
    · have hx : ¬ (k = 1 ∧ numV f p 1 = 0) := by
        rintro ⟨rfl, h2⟩
        have h3 := h1.1
        rw [mlk] at h3
        split at h3
        · rename_i h4
          have h5 := dg_in (f := f) (len := len) (p := p) h4.2.1
          rw [numV_1] at h2
          exact h (h5.2.trans (i_sub0 h2))
        · rw [mlk] at h3; exact absurd h3 (by decide)
      rw [if_pos h1, if_pos ⟨h1.1, h1.2, hx⟩]
    · rw [if_neg h1, if_neg (fun h2 => h1 ⟨h2.1, h2.2.1⟩)]
theorem lk_stop9 {f : Nat → Int32} {len p k : Nat} (h : lk f len p k = k) (hn : ¬ dg f len (p + k)) : ∀ j, lk f len p (k + j) = k
  | 0 => h
  | j + 1 => by
    have ih := lk_stop9 h hn j
    rw [← Nat.add_assoc, lk, if_neg, ih]
    rintro ⟨h1, h2⟩
    rw [ih] at h1
    obtain rfl : j = 0 := by omega
    exact hn h2
theorem lk_48 {f : Nat → Int32} {len p : Nat} (h : nx f len p = 48) : lk f len p 1 = 1 ∧ mlk f len p 6 = 1 := by
  have hd : dg f len p := by rw [dg, h]; exact ⟨by decide, by decide⟩
  have h0 : numV f p 1 = 0 := by rw [numV_1, ← (dg_in hd).2, h]; decide
  refine ⟨by rw [lk, if_pos ⟨rfl, hd⟩], mlk_stop (k := 1) (by rw [mlk, if_pos ⟨rfl, hd, fun h9 => absurd h9.1 (by decide)⟩]) (fun h9 => h9.2 ⟨rfl, h0⟩) 5⟩
theorem tk_good {f : Nat → Int32} {len p : Nat} (h : ¬ tkV f len p = -1) : mnV f len p = tkV f len p ∧ mnP f len p = tkP f len p := by
  rw [tkV] at h
  by_cases h1 : nx f len p = 32
  · rw [if_pos h1] at h
    rw [mnV, tkV, mnP, tkP, if_pos h1, if_pos h1, if_pos h1, if_pos h1]
    by_cases h2 : lk f len (p + 1) 6 = 1 ∨ (1 < lk f len (p + 1) 6 ∧ ¬ nx f len (p + 1) = 48)
    · rw [if_pos h2]
      have h3 : mlk f len (p + 1) 6 = lk f len (p + 1) 6 := by
        by_cases h4 : nx f len (p + 1) = 48
        · rw [(lk_48 h4).2]; rcases h2 with h2 | h2
          · exact h2.symm
          · exact absurd h4 h2.2
        · exact (lk_mlk h4 6).symm
      rw [h3, if_neg (by omega)]; exact ⟨rfl, rfl⟩
    · rw [if_neg h2] at h; exact absurd rfl h
  · rw [if_neg h1] at h; exact absurd rfl h
theorem tk_bad {f : Nat → Int32} {len p : Nat} (h : tkV f len p = -1) : mnV f len p = -1 ∨ dg f len (mnP f len p) := by
  rw [tkV] at h
  by_cases h1 : nx f len p = 32
  · rw [if_pos h1] at h
    rw [mnV, mnP, if_pos h1, if_pos h1]
    by_cases h4 : nx f len (p + 1) = 48
    · by_cases h5 : dg f len (p + 1 + 1)
      · rw [(lk_48 h4).2]; exact Or.inr h5
      · have h6 : lk f len (p + 1) 6 = 1 := lk_stop9 (lk_48 h4).1 h5 5
        rw [if_pos (Or.inl h6), h6] at h
        rw [(lk_48 h4).2, if_neg (by decide)]
        exact Or.inl h
    · rw [lk_mlk h4] at h
      by_cases h5 : mlk f len (p + 1) 6 = 0
      · rw [if_pos h5]; exact Or.inl rfl
      · rw [if_pos (by have : mlk f len (p + 1) 6 = 1 ∨ 1 < mlk f len (p + 1) 6 := by omega
                       exact this.elim Or.inl (fun h => Or.inr ⟨h, h4⟩))] at h
        rw [if_neg h5]; exact Or.inl h
  · rw [mnV, if_neg h1]; exact Or.inl rfl
theorem dg_mn {f : Nat → Int32} {len p : Nat} (h : dg f len p) : mnV f len p = -1 := by
  rw [mnV, if_neg]
  intro e; rw [dg, e] at h; exact absurd h.1 (by decide)
theorem m1neg {x : Int32} (h : 0 ≤ x) : ¬ x = -1 := fun e => by rw [e] at h; exact absurd h (by decide)
/-- the numbers of a line are the same -/
def lnE (f : Nat → Int32) (len pl : Nat) : Prop := mnV f len (pl + 1) = rlO f len pl ∧ mP4 f len pl = rlC f len pl ∧ (nx f len pl = 77 → mW f len pl = 0 ∧ mN f len pl = rlS f len pl) ∧ (¬ nx f len pl = 77 → mW f len pl = rlS f len pl ∧ mN f len pl = rlT f len pl)
theorem lnE_of {f : Nat → Int32} {len pl : Nat} (hpl : pl < len) (h1 : ¬ rlO f len pl = -1) (h2 : ¬ rlS f len pl = -1) (h3 : ¬ nx f len pl = 77 → ¬ rlT f len pl = -1) : lnE f len pl := by
  have hp : nxp len pl = pl + 1 := by rw [nxp, if_pos hpl]
  rw [rlO, hp] at h1
  obtain ⟨e1, e2⟩ := tk_good h1
  have hA : rlA f len pl = mnP f len (pl + 1) := by rw [rlA, hp, e2]
  rw [rlS] at h2
  obtain ⟨e3, e4⟩ := tk_good h2
  rw [hA] at e3 e4
  have hS : rlS f len pl = mnV f len (mnP f len (pl + 1)) := by rw [rlS, hA, e3]
  have hB : rlB f len pl = mnP f len (mnP f len (pl + 1)) := by rw [rlB, hA, e4]
  refine ⟨by rw [rlO, hp, e1], ?_, fun h => ?_, fun h => ?_⟩
  · by_cases h : nx f len pl = 77
    · rw [rlC, if_pos h, hB, mP4, mP3, if_pos h]
    · have h3 := h3 h
      rw [rlT, if_neg h, hB] at h3
      rw [rlC, if_neg h, hB, mP4, mP3, if_neg h, (tk_good h3).2]
  · rw [mW, if_pos h, mN, mP3, if_pos h, hS]; exact ⟨rfl, rfl⟩
  · have h3 := h3 h
    rw [rlT, if_neg h, hB] at h3
    rw [mW, if_neg h, mN, mP3, if_neg h, hS, rlT, if_neg h, hB, (tk_good h3).1]; exact ⟨rfl, rfl⟩
theorem lnE_m {f : Nat → Int32} {len pl : Nat} (hpl : pl < len) (h1 : inR (mnV f len (pl + 1)) 7) (h2 : nx f len (mP4 f len pl) = 10) (h3 : 0 ≤ mW f len pl) (h4 : 0 ≤ mN f len pl) : lnE f len pl := by
  have hp : nxp len pl = pl + 1 := by rw [nxp, if_pos hpl]
  have g1 : ¬ tkV f len (pl + 1) = -1 := fun e => by
    rcases tk_bad e with e | e
    · exact m1neg h1.1 e
    · by_cases h : nx f len pl = 77
      · rw [mN, mP3, if_pos h, dg_mn e] at h4; exact absurd h4 (by decide)
      · rw [mW, if_neg h, dg_mn e] at h3; exact absurd h3 (by decide)
  have hA : rlA f len pl = mnP f len (pl + 1) := by rw [rlA, hp, (tk_good g1).2]
  have hd10 : ¬ dg f len (mP4 f len pl) := fun e => by rw [dg, h2] at e; exact absurd e.1 (by decide)
  have g2 : ¬ tkV f len (mnP f len (pl + 1)) = -1 := fun e => by
    by_cases h : nx f len pl = 77
    · have q1 : mP3 f len pl = mnP f len (pl + 1) := by rw [mP3, if_pos h]
      rcases tk_bad e with e | e
      · rw [mN, q1, e] at h4; exact absurd h4 (by decide)
      · rw [mP4, q1] at hd10; exact hd10 e
    · rcases tk_bad e with e | e
      · rw [mW, if_neg h, e] at h3; exact absurd h3 (by decide)
      · rw [mN, mP3, if_neg h, dg_mn e] at h4; exact absurd h4 (by decide)
  refine lnE_of hpl (by rw [rlO, hp]; exact g1) (by rw [rlS, hA]; exact g2) (fun h => ?_)
  have hB : rlB f len pl = mnP f len (mnP f len (pl + 1)) := by rw [rlB, hA, (tk_good g2).2]
  rw [rlT, if_neg h, hB]
  intro e
  have q1 : mP3 f len pl = mnP f len (mnP f len (pl + 1)) := by rw [mP3, if_neg h]
  rcases tk_bad e with e | e
  · rw [mN, q1, e] at h4; exact absurd h4 (by decide)
  · rw [mP4, q1] at hd10; exact hd10 e
theorem cOK_good {lt o s t : Int32} {st ha mi dO dD : Nat → Int32} {nd : Nat} (h : cOK lt o s t st ha mi dO dD nd) : 0 ≤ s ∧ (¬ lt = 77 → 0 ≤ t) := by
  rcases h with ⟨-, hs, ht, -⟩ | ⟨-, hs, ht, -⟩ | ⟨e, hs, -⟩ | ⟨-, hs, ht, -⟩
  · exact ⟨hs.1, fun _ => ht.1⟩
  · exact ⟨hs.1, fun _ => ht.1⟩
  · exact ⟨hs.1, fun h => absurd e h⟩
  · exact ⟨Int32.le_trans (by decide) hs.1, fun _ => ht.1⟩
theorem line_eq {f : Nat → Int32} {len pl : Nat} (hpl : pl < len) {st ha mi dO dD dP L O Wh Mu : Nat → Int32} {nd n : Nat} {li ow : Int32} (hR : ChR st ha mi dO dD dP nd li ow L O Wh Mu n) (hn : n < 60) :
    (rlOK f len pl st ha mi dO dD nd ↔ mOK f len pl n L O Wh) ∧ (mOK f len pl n L O Wh → lnE f len pl) := by
  have hk : rlOK f len pl st ha mi dO dD nd → lnE f len pl := fun h => by
    obtain ⟨h1, h2, h3⟩ := h
    have h4 := cOK_good h3
    exact lnE_of hpl (m1neg h2.1) (m1neg h4.1) (fun h => m1neg (h4.2 h))
  have hm : mOK f len pl n L O Wh → lnE f len pl := fun h => lnE_m hpl h.1.2.1 h.1.2.2.1 h.1.2.2.2.2.1 h.1.2.2.2.2.2
  obtain ⟨a1, a2, a3, a4, a5, a6, a7, a8, a9⟩ := hR
  have h9 : ∀ i, i < n → ∃ z, z ≤ 10000 ∧ Mu i = nI z := fun i hi => (a9 i hi).1
  refine ⟨⟨fun h => ?_, fun h => ?_⟩, hm⟩
  · obtain ⟨e1, e2, e3, e4⟩ := hk h
    obtain ⟨h1, h2, h3⟩ := h
    rw [mOK, mPre, e1, e2]
    rw [← e1] at h2 h3 ⊢
    obtain ⟨a, ha8, ea⟩ := in_nI (n := 7) rfl h2
    rw [ea] at h2 h3 ⊢
    generalize nx f len pl = lt at h3 e3 e4 ⊢
    rcases h3 with ⟨rfl, hs, ht, k, hk, ek, hst⟩ | ⟨rfl, hs, ht, k, hk, ek, hst⟩ | ⟨rfl, hs, k, hk, ek, hst⟩ | ⟨rfl, hs, ht, hd, hnd⟩
    · obtain ⟨q1, q2⟩ := e4 (by decide)
      rw [q1, q2]
      obtain ⟨b, hb, eb⟩ := in_nI (n := 4) rfl hs
      rw [eb] at ek hs ⊢
      rw [(i5 (by omega) (b := b) (by omega)).1, nI_eq (by omega) (by omega)] at ek
      rw [← ek, a1 a b (by omega) (by omega), ch_has h9] at hst
      exact ⟨⟨Or.inl rfl, h2, h1, by omega, hs.1, ht.1⟩, by rw [mGood, if_neg (by decide), if_neg (by decide)]; exact ⟨hs, ht.2⟩, hst⟩
    · obtain ⟨q1, q2⟩ := e4 (by decide)
      rw [q1, q2]
      obtain ⟨b, hb, eb⟩ := in_nI (n := 4) rfl hs
      rw [eb] at ek hs ⊢
      rw [(i5 (by omega) (b := b) (by omega)).1, nI_eq (by omega) (by omega)] at ek
      rw [← ek, a2 a b (by omega) (by omega), ch_has h9] at hst
      exact ⟨⟨Or.inr (Or.inl rfl), h2, h1, by omega, hs.1, ht.1⟩, by rw [mGood, if_neg (by decide), if_neg (by decide)]; exact ⟨hs, ht.2⟩, hst⟩
    · obtain ⟨q1, q2⟩ := e3 rfl
      rw [q1, q2]
      rw [nI_eq (by omega) (by omega)] at ek
      rw [← ek, a3 a (by omega), ch_has h9] at hst
      exact ⟨⟨Or.inr (Or.inr (Or.inl rfl)), h2, h1, by omega, by decide, hs.1⟩, by rw [mGood, if_pos rfl]; exact hs.2, hst⟩
    · obtain ⟨q1, q2⟩ := e4 (by decide)
      rw [q1, q2]
      rw [a7] at hd
      exact ⟨⟨Or.inr (Or.inr (Or.inr rfl)), h2, h1, by omega, Int32.le_trans (by decide) hs.1, ht.1⟩, by rw [mGood, if_neg (by decide), if_pos rfl]; exact ⟨hs, ht.2⟩, hd⟩
  · obtain ⟨e1, e2, e3, e4⟩ := hm h
    obtain ⟨⟨h1, h2, h3, -, h5, h6⟩, h7, h8⟩ := h
    rw [rlOK, ← e1, ← e2]
    refine ⟨h3, h2, ?_⟩
    obtain ⟨a, ha8, ea⟩ := in_nI (n := 7) rfl h2
    rw [ea] at h8 ⊢
    generalize nx f len pl = lt at h1 h7 h8 e3 e4 ⊢
    rcases h1 with rfl | rfl | rfl | rfl
    · obtain ⟨q1, q2⟩ := e4 (by decide)
      rw [mGood, if_neg (by decide), if_neg (by decide)] at h7
      rw [q1] at h7 h8; rw [q2] at h6 h7
      obtain ⟨b, hb, eb⟩ := in_nI (n := 4) rfl h7.1
      rw [eb] at h7 h8 ⊢
      exact Or.inl ⟨rfl, h7.1, ⟨h6, h7.2⟩, 5 * a + b, by omega, (i5 (by omega) (by omega)).1, by rw [a1 a b (by omega) (by omega), ch_has h9]; exact h8⟩
    · obtain ⟨q1, q2⟩ := e4 (by decide)
      rw [mGood, if_neg (by decide), if_neg (by decide)] at h7
      rw [q1] at h7 h8; rw [q2] at h6 h7
      obtain ⟨b, hb, eb⟩ := in_nI (n := 4) rfl h7.1
      rw [eb] at h7 h8 ⊢
      exact Or.inr (Or.inl ⟨rfl, h7.1, ⟨h6, h7.2⟩, 5 * a + b, by omega, (i5 (by omega) (by omega)).1, by rw [a2 a b (by omega) (by omega), ch_has h9]; exact h8⟩)
    · obtain ⟨q1, q2⟩ := e3 rfl
      rw [mGood, if_pos rfl] at h7
      rw [q1] at h8; rw [q2] at h6 h7
      exact Or.inr (Or.inr (Or.inl ⟨rfl, ⟨h6, h7⟩, a, by omega, rfl, by rw [a3 a (by omega), ch_has h9]; exact h8⟩))
    · obtain ⟨q1, q2⟩ := e4 (by decide)
      rw [mGood, if_neg (by decide), if_pos rfl] at h7
      rw [q1] at h7 h8; rw [q2] at h6 h7
      exact Or.inr (Or.inr (Or.inr ⟨rfl, h7.1, ⟨h6, h7.2⟩, by rw [a7]; exact h8, by omega⟩))

/-! pure: reading -/
def RdR (d : DS) (e : MS) (q : Nat) : Prop := d.1 = e.1 ∧ ChR d.2.1 d.2.2.1 d.2.2.2.1 d.2.2.2.2.1 d.2.2.2.2.2.1 d.2.2.2.2.2.2.1 d.2.2.2.2.2.2.2.1 d.2.2.2.2.2.2.2.2.1 d.2.2.2.2.2.2.2.2.2 e.2.1 e.2.2.1 e.2.2.2.1 e.2.2.2.2 q
theorem rd_ok {f : Nat → Int32} {len q : Nat} {d : DS} {e : MS} (h : RdR d e q) (hq : q < 60) (hp : d.1 < len) : lOK f len d ↔ mLOK f len q e := by
  rw [lOK, mLOK, ← h.1]
  exact (line_eq hp h.2 hq).1
theorem rd_step {f : Nat → Int32} {len q : Nat} {d : DS} {e : MS} (h : RdR d e q) (hq : q < 60) (hp : d.1 < len) (hok : mLOK f len q e) : RdR (rdStep f len d) (mStep f len q e) (q + 1) := by
  have hl := (rd_ok h hq hp).mpr hok
  obtain ⟨h1, h2⟩ := h
  rw [mLOK, ← h1] at hok
  obtain ⟨e1, e2, e3, e4⟩ := (line_eq hp h2 hq).2 hok
  have hC : nx f len (rlC f len d.1) = 10 := hl.1
  have hC2 : rlC f len d.1 < len := nx_in (by rw [hC]; decide)
  obtain ⟨a, ha8, ea⟩ := in_nI (n := 7) rfl hl.2.1
  have hcok := hl.2.2
  rw [RdR, rdStep, mStep, ← h1]
  simp only []
  refine ⟨by rw [nxp, if_pos hC2, e2], ?_⟩
  rw [e1, ea]
  rw [ea] at hcok
  exact ChR_add h2 (by omega) e3 e4 hcok
theorem rd_rel {f : Nat → Int32} {len : Nat} {d0 : DS} {e0 : MS} (h0 : RdR d0 e0 0) : ∀ q, q ≤ 60 → (∀ k, k < q → (mrd f len e0 k).1 < len ∧ mLOK f len k (mrd f len e0 k)) → RdR (rdN f len d0 q) (mrd f len e0 q) q
  | 0, _, _ => h0
  | q + 1, hq, h => by
    have ih := rd_rel h0 q (by omega) (fun k hk => h k (by omega))
    obtain ⟨h1, h2⟩ := h q (by omega)
    exact rd_step ih (by omega) (by rw [ih.1]; exact h1) h2
theorem read_eq {f : Nat → Int32} {len : Nat} {d0 : DS} {e0 : MS} (h0 : RdR d0 e0 0) {i j : Nat} (hi : i ≤ 60) (hj : j ≤ 60)
    (hc : ∀ q, q < i → (rdN f len d0 q).1 < len ∧ lOK f len (rdN f len d0 q)) (hc2 : len ≤ (rdN f len d0 i).1 ∨ ((rdN f len d0 i).1 < len ∧ (i = 60 ∨ ¬ lOK f len (rdN f len d0 i))))
    (hm : ∀ q, q < j → (mrd f len e0 q).1 < len ∧ mLOK f len q (mrd f len e0 q)) (hm2 : len ≤ (mrd f len e0 j).1 ∨ ((mrd f len e0 j).1 < len ∧ ¬ mLOK f len j (mrd f len e0 j))) : i = j ∧ RdR (rdN f len d0 i) (mrd f len e0 i) i := by
  have hij : i = j := by
    rcases Nat.lt_trichotomy i j with h | h | h
    · exfalso
      have hr := rd_rel h0 i hi (fun k hk => hm k (by omega))
      obtain ⟨q1, q2⟩ := hm i h
      rcases hc2 with h9 | ⟨h9, h8⟩
      · rw [hr.1] at h9; omega
      · rcases h8 with h8 | h8
        · omega
        · exact h8 ((rd_ok hr (by omega) h9).mpr q2)
    · exact h
    · exfalso
      have hr := rd_rel h0 j hj hm
      obtain ⟨q1, q2⟩ := hc j h
      rcases hm2 with h9 | ⟨h9, h8⟩
      · rw [← hr.1] at h9; omega
      · exact h8 ((rd_ok hr (by omega) q1).mp q2)
  subst hij
  exact ⟨rfl, rd_rel h0 i hi hm⟩

/-! pure: sums are the same, and how large they are -/
def bnd (x : Int32) (N : Nat) : Prop := ∃ z, z ≤ N ∧ x = nI z
theorem bnd_0 (N : Nat) : bnd 0 N := ⟨0, Nat.zero_le _, rfl⟩
theorem bnd_le {x : Int32} {N M : Nat} (h : N ≤ M) : bnd x N → bnd x M := fun ⟨z, hz, e⟩ => ⟨z, by omega, e⟩
theorem bnd_add {x y : Int32} {N M : Nat} : bnd x N → bnd y M → bnd (x + y) (N + M) := fun ⟨a, ha, ea⟩ ⟨b, hb, eb⟩ => ⟨a + b, by omega, by rw [ea, eb, nI_add]⟩
theorem bnd_sumD {v : Nat → Int32} {c s : Nat} : ∀ {k : Nat}, (∀ d, s ≤ d → d < s + k → bnd (v d) c) → bnd (sumD v s k) (c * k)
  | 0, _ => bnd_0 _
  | k + 1, h => by rw [sumD, Nat.mul_succ]; exact bnd_add (bnd_sumD fun d h1 h2 => h d h1 (by omega)) (h _ (by omega) (by omega))
theorem bnd_sumO {uo v : Nat → Int32} {o : Int32} {c : Nat} : ∀ {n : Nat}, (∀ q, q < n → bnd (v q) c) → bnd (sumO uo o v n) (c * n)
  | 0, _ => bnd_0 _
  | n + 1, h => by
    have ih := bnd_sumO (uo := uo) (o := o) (n := n) fun q hq => h q (by omega)
    rw [sumO, Nat.mul_succ]
    split
    · exact bnd_add ih (h n (by omega))
    · exact bnd_le (by omega) ih
theorem ce_bnd {st ha mi dO dD dP L O Wh Mu : Nat → Int32} {nd n : Nat} {li ow : Int32} (hR : ChR st ha mi dO dD dP nd li ow L O Wh Mu n) (l o w : Int32) : bnd (mCe L O Wh Mu l o w n) 10000 := by
  have h9 : ∀ i, i < n → ∃ z, z ≤ 10000 ∧ Mu i = nI z := fun i hi => (hR.2.2.2.2.2.2.2.2 i hi).1
  rw [mCe]
  split
  · exact bnd_0 _
  · rename_i h
    rw [ch_has h9, Classical.not_not] at h
    obtain ⟨i, hi, hm⟩ := h
    obtain ⟨k, -, hk, -, e⟩ := mCh_some (Mu := Mu) (n := n) (i := 0) ⟨i, by omega, by omega, hm⟩
    rw [e]; exact h9 k (by omega)
theorem tZ_st {st ha mi dO dD dP L O Wh Mu : Nat → Int32} {nd n : Nat} {li ow by0 k : Int32} (hR : ChR st ha mi dO dD dP nd li ow L O Wh Mu n) (hb : inR by0 7) (hk : inR k 4) : tZ 40 st (5 * by0 + k) = mCe L O Wh Mu 83 by0 k n ∧ tZ 40 ha (5 * by0 + k) = mCe L O Wh Mu 72 by0 k n := by
  obtain ⟨b, hb8, rfl⟩ := in_nI (n := 7) rfl hb
  obtain ⟨w, hw, rfl⟩ := in_nI (n := 4) rfl hk
  obtain ⟨e1, e2⟩ := i5 (a := b) (b := w) (by omega) (by omega)
  have hc : 0 ≤ 5 * nI b + nI w ∧ 5 * nI b + nI w ≤ nI (40 - 1) := by rw [e1]; exact ⟨nI_pos' (by omega), nI_le (by omega) (by decide)⟩
  rw [tZ, tZ, if_pos hc, if_pos hc, e2, hR.1 b w (by omega) (by omega), hR.2.1 b w (by omega) (by omega)]
  exact ⟨rfl, rfl⟩
theorem tZ_mi {st ha mi dO dD dP L O Wh Mu : Nat → Int32} {nd n : Nat} {li ow by0 : Int32} (hR : ChR st ha mi dO dD dP nd li ow L O Wh Mu n) (hb : inR by0 7) : tZ 8 mi by0 = mCe L O Wh Mu 77 by0 0 n := by
  obtain ⟨b, hb8, rfl⟩ := in_nI (n := 7) rfl hb
  rw [tZ, if_pos ⟨nI_pos' (by omega), nI_le (by omega) (by decide)⟩, nI_clamp (by omega), hR.2.2.1 b (by omega)]
  rfl
theorem i_mul0 (x : Int32) : x - x * 0 / 100 = x := by
  rw [Int32.mul_zero, show (0 : Int32) / 100 = 0 from by decide]; exact Int32.sub_zero x
theorem sto_eq {A : Nat → Nat → Int32} {nu : Nat} {uo : Nat → Int32} {uf ul : Nat → Nat} {ug : Nat → Int32} {ut : Nat → Nat} {uk ud : Nat → Nat → Int32} (hU : UR A nu uo uf ul ug ut uk ud) {st ha mi dO dD dP L O Wh Mu : Nat → Int32} {nd n : Nat} {li ow by0 : Int32} (hR : ChR st ha mi dO dD dP nd li ow L O Wh Mu n) (hb : inR by0 7) (o : Int32) {m : Nat} (hm : m < 120) :
    mStF L O Wh Mu n (A 15) (A 16) (A 17) ut (A 19) (A 20) o by0 m nu = stoA st dO dD dP nd nu uo uf ul ut uk ud by0 o m := by
  rw [stoA, ← mSt_eq hU o by0 hm (fun k hk => (tZ_st hR hb hk).1), ← mDay_eq hU o hm, hR.2.2.2.2.2.2.2.1]
  cases h : mB L O Wh by0 (mDay (A 15) (A 16) (A 17) o m nu) n with
  | none => rw [mStF_none h]; exact (i_mul0 _).symm
  | some b => rw [mStF_some h]; rfl
theorem sto_bnd {A : Nat → Nat → Int32} {nu : Nat} {uo : Nat → Int32} {uf ul : Nat → Nat} {ug : Nat → Int32} {ut : Nat → Nat} {uk ud : Nat → Nat → Int32} (hU : UR A nu uo uf ul ug ut uk ud) (hnu : nu ≤ 24) {st ha mi dO dD dP L O Wh Mu : Nat → Int32} {nd n : Nat} {li ow by0 : Int32} (hR : ChR st ha mi dO dD dP nd li ow L O Wh Mu n) (hb : inR by0 7) (o : Int32) (m : Nat) : bnd (stoA st dO dD dP nd nu uo uf ul ut uk ud by0 o m) 7200000 := by
  have h1 : bnd (sumO uo o (fun q => stoU st by0 m (uf q) (ul q) (ut q) (uk q) (ud q)) nu) 7200000 := by
    refine bnd_le (N := 300000 * nu) (by omega) (bnd_sumO fun q hq => ?_)
    rw [stoU]
    refine bnd_le (N := 10000 * _) ?_ (bnd_sumD fun d _ _ => ?_)
    · have : min (30 * m + 29) (ul q) + 1 - max (30 * m) (uf q) ≤ 30 := by omega
      exact Nat.le_trans (Nat.mul_le_mul_left 10000 this) (by decide)
    · obtain ⟨-, -, -, -, -, -, h6, -, -, -, h9⟩ := hU q hq
      rw [(tZ_st hR hb (kOn_in (P := fun k => inR k 4) (ut q - 1) (fun j hj => (h9 j (by omega)).2.2.1))).1]
      exact ce_bnd hR _ _ _
  have h2 : ∀ d, bnd (pF dO dD dP by0 d nd).2 100 := fun d => by
    rw [hR.2.2.2.2.2.2.2.1]
    cases h : mB L O Wh by0 d n with
    | none => exact bnd_0 _
    | some b => exact (hR.2.2.2.2.2.2.2.2 b (mB_lt h)).2.2 (mB_86 h).1
  rw [stoA]
  obtain ⟨z, hz, ez⟩ := h1
  obtain ⟨p, hp, ep⟩ := h2 (sumO uo o (fun q => dTh (nI m) (uf q) (ul q)) nu)
  rw [ez, ep, pk_mul, show (100 : Int32) = nI 100 from rfl]
  have h3 : z * p ≤ 7200000 * 100 := Nat.mul_le_mul hz hp
  rw [pk_div (by omega) (by decide) (by decide)]
  have h4 : z * p / 100 ≤ z := by
    refine Nat.div_le_of_le_mul ?_
    rw [Nat.mul_comm 100 z]
    exact Nat.mul_le_mul_left z hp
  rw [pk_sub h4]
  exact ⟨_, by omega, rfl⟩
/-- the moves -/
def MvR (nm : Nat) (mk md mp : Nat → Int32) : Prop := ∀ k, k < nm → inR (mk k) 4 ∧ inR (md k) 3599 ∧ inR (mp k) 100
theorem han_in {d : Int32} {m : Nat} (hd : inR d 3599) (hm : m < 120) : d / 30 = nI m ↔ (30 * nI m ≤ d ∧ d ≤ 30 * nI m + 30 - 1) := by
  obtain ⟨x, hx, rfl⟩ := in_nI (n := 3599) rfl hd
  rw [show (30 : Int32) * nI m = nI (30 * m) from pk_mul 30 m, show nI (30 * m) + 30 - 1 = nI (30 * m + 29) by rw [show (30 : Int32) = nI 30 from rfl, nI_add]; exact nI_pred (30 * m + 29)]
  rw [show (30 : Int32) = nI 30 from rfl, pk_div (by omega) (by decide) (by decide), nI_eq (by omega) (by omega), nI_leI (by omega) (by omega), nI_leI (by omega) (by omega)]
  omega
theorem han_eq {st ha mi dO dD dP L O Wh Mu : Nat → Int32} {nd n : Nat} {li ow by0 : Int32} (hR : ChR st ha mi dO dD dP nd li ow L O Wh Mu n) (hb : inR by0 7) {nm : Nat} {mo mk md mp : Nat → Int32} (hV : MvR nm mk md mp) (o : Int32) {m : Nat} (hm : m < 120) :
    mHa L O Wh Mu n mo mk md mp o by0 (nI m) nm = sumO mo o (fun q => hanM ha by0 (nI m) (mk q) (md q) (mp q)) nm := by
  rw [mHa, sumO_sN]
  refine sN_c fun k hk => ?_
  obtain ⟨h1, h2, -⟩ := hV k hk
  by_cases ho : mo k = o
  · rw [if_pos ho, hanM]
    by_cases hc : md k / 30 = nI m
    · rw [if_pos ⟨ho, hc⟩, if_pos ((han_in h2 hm).mp hc), (tZ_st hR hb h1).2]
    · rw [if_neg (fun h => hc h.2), if_neg (fun h => hc ((han_in h2 hm).mpr h))]
  · rw [if_neg (fun h => ho h.1), if_neg ho]
theorem han_bnd {st ha mi dO dD dP L O Wh Mu : Nat → Int32} {nd n : Nat} {li ow by0 : Int32} (hR : ChR st ha mi dO dD dP nd li ow L O Wh Mu n) (hb : inR by0 7) {nm : Nat} (hnm : nm ≤ 60) {mo mk md mp : Nat → Int32} (hV : MvR nm mk md mp) (o m : Int32) : bnd (sumO mo o (fun q => hanM ha by0 m (mk q) (md q) (mp q)) nm) 60000000 := by
  refine bnd_le (N := 1000000 * nm) (by omega) (bnd_sumO fun q hq => ?_)
  rw [hanM]
  split
  · obtain ⟨h1, -, h3⟩ := hV q hq
    rw [(tZ_st hR hb h1).2]
    obtain ⟨z, hz, ez⟩ := ce_bnd hR 72 by0 (mk q)
    obtain ⟨p, hp, ep⟩ := in_nI (n := 100) rfl h3
    rw [ez, ep, pk_mul]
    exact ⟨_, Nat.mul_le_mul hp hz, rfl⟩
  · exact bnd_0 _
theorem bnd_mx {x y : Int32} {N : Nat} (hN : N < 2 ^ 31) : bnd x N → bnd y N → bnd (mxI x y) N := fun ⟨a, ha, ea⟩ ⟨b, hb, eb⟩ => ⟨max a b, by omega, by rw [ea, eb, mxI_n (by omega) (by omega)]⟩
theorem sum_eq {A : Nat → Nat → Int32} {nu : Nat} {uo : Nat → Int32} {uf ul : Nat → Nat} {ug : Nat → Int32} {ut : Nat → Nat} {uk ud : Nat → Nat → Int32} (hU : UR A nu uo uf ul ug ut uk ud) {st ha mi dO dD dP : Nat → Int32} {nd n : Nat} {li ow by0 : Int32} (hR : ChR st ha mi dO dD dP nd li ow (A 4) (A 5) (A 6) (A 7) n) (hb : inR by0 7) {nm : Nat} (hV : MvR nm (A 23) (A 24) (A 25)) (o : Int32) {m : Nat} (hm : m < 120) :
    mSum A n nu nm ut o by0 m = sumX st ha mi dO dD dP nd nu uo uf ul ut uk ud nm (A 22) (A 23) (A 24) (A 25) by0 o m := by
  rw [mSum, sumX, sto_eq hU hR hb o hm, han_eq hR hb hV o hm, tZ_mi hR hb]
theorem sum_bnd {A : Nat → Nat → Int32} {nu : Nat} {uo : Nat → Int32} {uf ul : Nat → Nat} {ug : Nat → Int32} {ut : Nat → Nat} {uk ud : Nat → Nat → Int32} (hU : UR A nu uo uf ul ug ut uk ud) (hnu : nu ≤ 24) {st ha mi dO dD dP L O Wh Mu : Nat → Int32} {nd n : Nat} {li ow by0 : Int32} (hR : ChR st ha mi dO dD dP nd li ow L O Wh Mu n) (hb : inR by0 7) {nm : Nat} (hnm : nm ≤ 60) {mo mk md mp : Nat → Int32} (hV : MvR nm mk md mp) (o : Int32) (m : Nat) :
    bnd (sumX st ha mi dO dD dP nd nu uo uf ul ut uk ud nm mo mk md mp by0 o m) 67200000 := by
  rw [sumX]
  refine bnd_mx (by decide) (bnd_add (N := 7200000) (M := 60000000) (sto_bnd hU hnu hR hb o m) (han_bnd hR hb hnm hV o _)) ?_
  rw [tZ_mi hR hb]
  exact bnd_le (by decide) (ce_bnd hR _ _ _)
theorem th_eq {A : Nat → Nat → Int32} {nu : Nat} {uo : Nat → Int32} {uf ul : Nat → Nat} {ug : Nat → Int32} {ut : Nat → Nat} {uk ud : Nat → Nat → Int32} (hU : UR A nu uo uf ul ug ut uk ud) : mTh (A 17) nu = nI (cnt ug 0 nu) := by
  rw [mTh]
  induction nu with
  | zero => rfl
  | succ n ih =>
    rw [sN, cnt, ih (fun u hu => hU u (by omega))]
    obtain ⟨-, -, -, -, h4, h5, -⟩ := hU n (by omega)
    rcases h5 with ⟨h1, h2, -⟩ | ⟨h1, h2⟩
    · rw [if_pos h2, if_pos h1, nI_1]
    · rw [if_neg (by rw [h2, show (100000 : Int32) = nI 100000 from rfl, nI_eq (by omega) (by decide)]; omega), if_neg (by rw [h1]; decide), Int32.add_zero]
/-- a month's lines -/
def BlR (nl : Nat) (bo bm bc : Nat → Int32) : Prop := (∀ o m, bnd (cM bo bm bc o m nl) 67200000) ∧ ∀ i, i < nl → (∃ m, m < 120 ∧ bm i = nI m) ∧ ∃ z, z < 10 ^ 8 ∧ (bc i = nI z ∨ (0 < z ∧ bc i = -nI z))
theorem cM_c {bo bm bc bo2 bm2 bc2 : Nat → Int32} {o m : Int32} : ∀ {n : Nat}, (∀ i, i < n → bo i = bo2 i ∧ bm i = bm2 i ∧ bc i = bc2 i) → cM bo bm bc o m n = cM bo2 bm2 bc2 o m n
  | 0, _ => rfl
  | n + 1, h => by
    obtain ⟨h1, h2, h3⟩ := h n (by omega)
    rw [cM, cM, cM_c (fun i hi => h i (by omega)), h1, h2, h3]
theorem cM_none {bo bm bc : Nat → Int32} {o m : Int32} : ∀ {n : Nat}, ¬ hasD bo bm o m n → cM bo bm bc o m n = 0
  | 0, _ => rfl
  | n + 1, h => by rw [cM, if_neg (fun h2 => h ⟨n, by omega, h2⟩), cM_none (fun ⟨i, hi, h2⟩ => h ⟨i, by omega, h2⟩)]
theorem dif_z {a b : Nat} (ha : a ≤ 67200000) (hb : b ≤ 67200000) : ∃ z, z < 10 ^ 8 ∧ (nI a - nI b = nI z ∨ (0 < z ∧ nI a - nI b = -nI z)) := by
  by_cases h : b ≤ a
  · exact ⟨a - b, by omega, Or.inl (pk_sub h)⟩
  · refine ⟨b - a, by omega, Or.inr ⟨by omega, ?_⟩⟩
    rw [← pk_sub (by omega), Int32.neg_sub]
theorem BlR_add {nl : Nat} {bo bm bc : Nat → Int32} (h : BlR nl bo bm bc) {o c : Int32} {m : Nat} (hm : m < 120) (hs : bnd (cM bo bm bc o (nI m) nl + c) 67200000) : BlR (nl + 1) (upd bo nl o) (upd bm nl (nI m)) (upd bc nl c) := by
  have hc : ∀ o' m', cM (upd bo nl o) (upd bm nl (nI m)) (upd bc nl c) o' m' nl = cM bo bm bc o' m' nl := fun o' m' => cM_c (fun i hi => ⟨upd_c hi, upd_c hi, upd_c hi⟩)
  refine ⟨fun o' m' => ?_, fun i hi => ?_⟩
  · rw [cM, hc, pk_us, pk_us, pk_us]
    split
    · rename_i h2; rw [← h2.1, ← h2.2]; exact hs
    · exact h.1 o' m'
  · by_cases e : i = nl
    · subst e
      rw [pk_us, pk_us]
      refine ⟨⟨m, hm, rfl⟩, ?_⟩
      obtain ⟨a, ha, ea⟩ := hs
      obtain ⟨b, hb, eb⟩ := h.1 o (nI m)
      rw [eb] at ea
      have : c = nI a - nI b := by rw [← ea, Int32.add_comm, Int32.add_sub_cancel]
      rw [this]; exact dif_z ha hb
    · rw [pk_un e, pk_un e]; exact h.2 i (by omega)

/-! pure: units that come, change and go; lines -/
theorem UR_change {A : Nat → Nat → Int32} {nu : Nat} {uo : Nat → Int32} {uf ul : Nat → Nat} {ug : Nat → Int32} {ut : Nat → Nat} {uk ud : Nat → Nat → Int32} (hU : UR A nu uo uf ul ug ut uk ud) {i : Nat} (hi : i < nu) (ht : ut i < 9) {kd da : Int32} (hk : inR kd 4) (hd : inR da 3599) (hl : ud i (ut i - 1) ≤ da) {A2 : Nat → Nat → Int32} (e15 : A2 15 = A 15) (e16 : A2 16 = A 16) (e17 : A2 17 = A 17) (e18 : A2 18 = upd (A 18) i (nI (ut i + 1))) (e19 : A2 19 = upd (A 19) (9 * i + ut i) da) (e20 : A2 20 = upd (A 20) (9 * i + ut i) kd) :
    UR A2 nu uo uf (va_up ul i (ul i)) (va_up ug i (ug i)) (va_up ut i (ut i + 1)) (va_up uk i (upd (uk i) (ut i) kd)) (va_up ud i (upd (ud i) (ut i) da)) := by
  intro u hu
  obtain ⟨h1, h2, h3, h4, h5, h6, h7, h8, h9, h10, h11⟩ := hU u hu
  rw [e15, e16, e17, e18, e19, e20]
  by_cases e : u = i
  · subst e
    simp only [va_up_self]
    refine ⟨h1, h2, h3, h4, h5, h6, by omega, by omega, pk_us, ?_, fun j hj => ?_⟩
    · rw [pk_un (by omega)]; exact h10
    · show upd (A 19) (9 * u + ut u) da (9 * u + j) = _ ∧ upd (A 20) (9 * u + ut u) kd (9 * u + j) = _ ∧ _
      by_cases ej : j = ut u
      · subst ej
        rw [pk_us, pk_us, pk_us, pk_us]
        exact ⟨rfl, rfl, hk, hd, Int32.le_trans (h11 (ut u - 1) (by omega)).2.2.2.2 hl⟩
      · simp only [pk_un ej, pk_un (show 9 * u + j ≠ 9 * u + ut u by omega)]
        exact h11 j (by omega)
  · simp only [va_up_ne _ _ e]
    refine ⟨h1, h2, h3, h4, h5, h6, h7, h8, by rw [pk_un e]; exact h9, h10, fun j hj => ?_⟩
    show upd (A 19) (9 * i + ut i) da (9 * u + j) = _ ∧ upd (A 20) (9 * i + ut i) kd (9 * u + j) = _ ∧ _
    rw [pk_un (by omega), pk_un (by omega)]
    exact h11 j hj
theorem UR_gone {A : Nat → Nat → Int32} {nu : Nat} {uo : Nat → Int32} {uf ul : Nat → Nat} {ug : Nat → Int32} {ut : Nat → Nat} {uk ud : Nat → Nat → Int32} (hU : UR A nu uo uf ul ug ut uk ud) {i : Nat} (hi : i < nu) {d : Nat} (hd : d < 3600) {A2 : Nat → Nat → Int32} (e15 : A2 15 = A 15) (e16 : A2 16 = A 16) (e17 : A2 17 = upd (A 17) i (nI d)) (e18 : A2 18 = A 18) (e19 : A2 19 = A 19) (e20 : A2 20 = A 20) :
    UR A2 nu uo uf (va_up ul i d) (va_up ug i 1) (va_up ut i (ut i)) (va_up uk i (uk i)) (va_up ud i (ud i)) := by
  intro u hu
  obtain ⟨h1, h2, h3, h4, h5, h6, h7, h8, h9, h10, h11⟩ := hU u hu
  rw [e15, e16, e17, e18, e19, e20]
  by_cases e : u = i
  · subst e
    simp only [va_up_self]
    exact ⟨h1, h2, h3, h4, hd, Or.inr ⟨rfl, pk_us⟩, h7, h8, h9, h10, h11⟩
  · simp only [va_up_ne _ _ e]
    exact ⟨h1, h2, h3, h4, h5, by rw [pk_un e]; exact h6, h7, h8, h9, h10, h11⟩
theorem UR_unit {A : Nat → Nat → Int32} {nu : Nat} {uo : Nat → Int32} {uf ul : Nat → Nat} {ug : Nat → Int32} {ut : Nat → Nat} {uk ud : Nat → Nat → Int32} (hU : UR A nu uo uf ul ug ut uk ud) {o kd : Int32} {d : Nat} (ho : inR o 7) (hk : inR kd 4) (hd : d < 3600) {A2 : Nat → Nat → Int32} (e15 : A2 15 = upd (A 15) nu o) (e16 : A2 16 = upd (A 16) nu (nI d)) (e17 : A2 17 = upd (A 17) nu 100000) (e18 : A2 18 = upd (A 18) nu 1) (e19 : A2 19 = upd (A 19) (9 * nu) (nI d)) (e20 : A2 20 = upd (A 20) (9 * nu) kd) :
    UR A2 (nu + 1) (va_up uo nu o) (va_up uf nu d) (va_up ul nu 3599) (va_up ug nu 0) (va_up ut nu 1) (va_up uk nu (upd (fun _ => 0) 0 kd)) (va_up ud nu (upd (fun _ => 0) 0 (nI d))) := by
  intro u hu
  rw [e15, e16, e17, e18, e19, e20]
  by_cases e : u = nu
  · subst e
    simp only [va_up_self]
    refine ⟨pk_us, ho, pk_us, hd, by decide, Or.inl ⟨rfl, pk_us, rfl⟩, by decide, by decide, pk_us, pk_us, fun j hj => ?_⟩
    obtain rfl : j = 0 := by omega
    show upd (A 19) (9 * u) (nI d) (9 * u + 0) = _ ∧ upd (A 20) (9 * u) kd (9 * u + 0) = _ ∧ _
    rw [Nat.add_zero, pk_us, pk_us, pk_us, pk_us]
    exact ⟨rfl, rfl, hk, nI_in0 (n := 3599) rfl (by decide) (by omega), Int32.le_refl _⟩
  · obtain ⟨h1, h2, h3, h4, h5, h6, h7, h8, h9, h10, h11⟩ := hU u (by omega)
    simp only [va_up_ne _ _ e]
    refine ⟨by rw [pk_un e]; exact h1, h2, by rw [pk_un e]; exact h3, h4, h5, by rw [pk_un e]; exact h6, h7, h8, by rw [pk_un e]; exact h9, h10, fun j hj => ?_⟩
    show upd (A 19) (9 * nu) (nI d) (9 * u + j) = _ ∧ upd (A 20) (9 * nu) kd (9 * u + j) = _ ∧ _
    rw [pk_un (by omega), pk_un (by omega)]
    exact h11 j hj
theorem gone_eq {d f : Nat} (hd : d ≤ 3599) (h : f ≤ d) : mxI 0 (mnI 3599 (nI d) - mxI 0 (nI f) + 1) = nI d - nI f + 1 := by
  rw [show (3599 : Int32) = nI 3599 from rfl, mnI_n (by decide) (by omega), show mxI 0 (nI f) = nI (max 0 f) from mxI_n (a := 0) (by decide) (by omega), show min 3599 d = d by omega, Nat.zero_max, dT_n (by omega) (by omega), i_subp, nI_1, pk_sub (by omega)]
/-- the sizes of a line's numbers -/
def zM (f : Nat → Int32) (i : Nat) : Nat := (f i).toNatClampNeg
def zC (f : Nat → Int32) (i : Nat) : Nat := (f i).toInt.natAbs
theorem neg_toInt {z : Nat} (h : z < 2 ^ 30) : (-nI z).toInt = -(z : Int) := by
  rw [Int32.toInt_neg, nI_toInt (by omega), Int.bmod_eq_of_le (by omega) (by omega)]
theorem BlR_zz {nl : Nat} {bo bm bc : Nat → Int32} (h : BlR nl bo bm bc) : ∀ i, i < nl → bm i = nI (zM bm i) ∧ zM bm i < 1000 ∧ zC bc i < 10 ^ 8 ∧ (bc i = nI (zC bc i) ∨ (0 < zC bc i ∧ bc i = -nI (zC bc i))) := by
  intro i hi
  obtain ⟨⟨m, hm, em⟩, z, hz, ez⟩ := h.2 i hi
  have h1 : zM bm i = m := by rw [zM, em, nI_clamp (by omega)]
  have h2 : zC bc i = z := by
    rw [zC]
    rcases ez with ez | ⟨-, ez⟩
    · rw [ez, nI_toInt (by omega)]; rfl
    · rw [ez, neg_toInt (by omega), Int.natAbs_neg]; rfl
  rw [h1, h2]
  exact ⟨em, by omega, hz, ez⟩
theorem hasD_up {bo bm : Nat → Int32} {nl : Nat} {o m a b : Int32} : hasD (upd bo nl o) (upd bm nl m) a b (nl + 1) ↔ hasD bo bm a b nl ∨ (o = a ∧ m = b) := by
  constructor
  · rintro ⟨i, hi, h1, h2⟩
    by_cases e : i = nl
    · subst e; rw [pk_us] at h1 h2; exact Or.inr ⟨h1, h2⟩
    · rw [pk_un e] at h1 h2; exact Or.inl ⟨i, by omega, h1, h2⟩
  · rintro (⟨i, hi, h1, h2⟩ | ⟨h1, h2⟩)
    · exact ⟨i, by omega, by rw [upd_c hi]; exact h1, by rw [upd_c hi]; exact h2⟩
    · exact ⟨nl, by omega, by rw [pk_us]; exact h1, by rw [pk_us]; exact h2⟩
theorem MvR_add {nm : Nat} {mk md mp : Nat → Int32} (h : MvR nm mk md mp) {k d p : Int32} (h1 : inR k 4) (h2 : inR d 3599) (h3 : inR p 100) : MvR (nm + 1) (upd mk nm k) (upd md nm d) (upd mp nm p) := fun i hi => by
  by_cases e : i = nm
  · subst e; rw [pk_us, pk_us, pk_us]; exact ⟨h1, h2, h3⟩
  · rw [pk_un e, pk_un e, pk_un e]; exact h i (by omega)
theorem cnt_inj {f : Nat → Int32} {o : Int32} : ∀ {a b : Nat}, a < b → f a = o → cnt f o a < cnt f o b := by
  intro a b h e
  induction b with
  | zero => omega
  | succ b ih =>
    rw [cnt]
    by_cases hab : a = b
    · subst hab; rw [if_pos e]; omega
    · have := ih (by omega)
      split <;> omega
theorem cnt_one {f : Nat → Int32} {o : Int32} {a b : Nat} (ha : a < 520) (hb : b < 520) (ea : f a = o) (eb : f b = o) (h : nI (cnt f o a) = nI (cnt f o b)) : a = b := by
  have h1 := cnt_le f o a
  have h2 := cnt_le f o b
  rw [nI_eq (by omega) (by omega)] at h
  rcases Nat.lt_trichotomy a b with q | q | q
  · have := cnt_inj q ea; omega
  · exact q
  · have := cnt_inj q eb; omega
theorem m_inj {a b : Nat} (ha : a < 120) (hb : b < 120) (h : nI a = nI b) : a = b := (nI_eq (by omega) (by omega)).mp h
theorem in119 {m : Nat} (h : m < 120) : inR (nI m) 119 := nI_in0 (n := 119) rfl (by decide) (by omega)
