def mP_sign (y : Nat → ClassId) (Ls : List Nat) (ad : Nat → Nat) (G : Nat → va_E) (F : Nat → Int32) (A : Nat → Nat → Int32) (sg : Nat) (x : Int32) (r : Int32) (u : va_W) : Prop := (¬ inR x 255 ∧ ∃ G2, u = wl Ls ad G2 ∧ ModelAt y Ls ad G2 (va_up F 0 1) A ∧ (∀ j, (j < 100 ∨ 134 < j) → G2 j = G j)) ∨ (inR x 255 ∧ sg = 400 ∧ ∃ G2, u = wl Ls ad G2 ∧ ModelAt y Ls ad G2 (va_up F 0 2) A ∧ (∀ j, (j < 100 ∨ 134 < j) → G2 j = G j)) ∨ (inR x 255 ∧ sg < 400 ∧ r = nI (sg + 1) ∧ ∃ G2, u = wl Ls ad G2 ∧ ModelAt y Ls ad G2 (va_up (va_up F 0 0) 1 (nI (sg + 1))) (va_up A 2 (upd (A 2) sg x)) ∧ (∀ j, (j < 100 ∨ 134 < j) → G2 j = G j))
def mP_read (y : Nat → ClassId) (Ls : List Nat) (ad : Nat → Nat) (G : Nat → va_E) (F : Nat → Int32) (A : Nat → Nat → Int32) (sg : Nat) (r : Int32) (u : va_W) : Prop := ∃ i, i ≤ 60 ∧ (∀ q, q < i → (mrd (A 2) sg (0, A 9, A 10, A 11, A 12) q).1 < sg ∧ mLOK (A 2) sg q (mrd (A 2) sg (0, A 9, A 10, A 11, A 12) q)) ∧ ((sg ≤ (mrd (A 2) sg (0, A 9, A 10, A 11, A 12) i).1 ∧ r = nI i ∧ ∃ G2 F2 A2, u = wl Ls ad G2 ∧ ModelAt y Ls ad G2 F2 A2 ∧ (∀ j, (j < 100 ∨ 134 < j) → G2 j = G j) ∧ F2 0 = 0 ∧ F2 1 = 0 ∧ (∀ k, k ≠ 0 → k ≠ 1 → k ≠ 3 → k ≠ 8 → k ≠ 13 → F2 k = F k) ∧ (∀ k, k ≠ 4 → k ≠ 5 → k ≠ 6 → k ≠ 7 → k ≠ 9 → k ≠ 10 → k ≠ 11 → k ≠ 12 → A2 k = A k) ∧ F2 3 = nI i ∧ (∀ q, q < i → A2 4 q = (mrd (A 2) sg (0, A 9, A 10, A 11, A 12) i).2.1 q ∧ A2 5 q = (mrd (A 2) sg (0, A 9, A 10, A 11, A 12) i).2.2.1 q ∧ A2 6 q = (mrd (A 2) sg (0, A 9, A 10, A 11, A 12) i).2.2.2.1 q ∧ A2 7 q = (mrd (A 2) sg (0, A 9, A 10, A 11, A 12) i).2.2.2.2 q)) ∨ ((mrd (A 2) sg (0, A 9, A 10, A 11, A 12) i).1 < sg ∧ ¬ mLOK (A 2) sg i (mrd (A 2) sg (0, A 9, A 10, A 11, A 12) i) ∧ r = -1 - nI (mrd (A 2) sg (0, A 9, A 10, A 11, A 12) i).1 ∧ ∃ G2 F2 A2, u = wl Ls ad G2 ∧ ModelAt y Ls ad G2 F2 A2 ∧ (∀ j, (j < 100 ∨ 134 < j) → G2 j = G j) ∧ F2 0 = 0 ∧ F2 1 = 0 ∧ (∀ k, k ≠ 0 → k ≠ 1 → k ≠ 3 → k ≠ 8 → k ≠ 13 → F2 k = F k) ∧ (∀ k, k ≠ 4 → k ≠ 5 → k ≠ 6 → k ≠ 7 → k ≠ 9 → k ≠ 10 → k ≠ 11 → k ≠ 12 → A2 k = A k) ∧ F2 3 = F 3 ∧ A2 4 = A 4 ∧ A2 5 = A 5 ∧ A2 6 = A 6 ∧ A2 7 = A 7))
def mP_unit (y : Nat → ClassId) (Ls : List Nat) (ad : Nat → Nat) (G : Nat → va_E) (F : Nat → Int32) (A : Nat → Nat → Int32) (nu : Nat) (o : Int32) (kd : Int32) (da : Int32) (r : Int32) (u : va_W) : Prop := (¬ (inR o 7 ∧ inR kd 4 ∧ inR da 3599) ∧ ∃ G2, u = wl Ls ad G2 ∧ ModelAt y Ls ad G2 (va_up F 0 1) A ∧ (∀ j, (j < 100 ∨ 134 < j) → G2 j = G j)) ∨ ((inR o 7 ∧ inR kd 4 ∧ inR da 3599) ∧ nu = 24 ∧ ∃ G2, u = wl Ls ad G2 ∧ ModelAt y Ls ad G2 (va_up F 0 2) A ∧ (∀ j, (j < 100 ∨ 134 < j) → G2 j = G j)) ∨ ((inR o 7 ∧ inR kd 4 ∧ inR da 3599) ∧ nu < 24 ∧ r = nI nu ∧ ∃ G2, u = wl Ls ad G2 ∧ ModelAt y Ls ad G2 (va_up (va_up F 0 0) 14 (nI (nu + 1))) (va_up (va_up (va_up (va_up (va_up (va_up A 15 (upd (A 15) nu o)) 16 (upd (A 16) nu da)) 17 (upd (A 17) nu 100000)) 18 (upd (A 18) nu 1)) 19 (upd (A 19) (9 * nu) da)) 20 (upd (A 20) (9 * nu) kd)) ∧ (∀ j, (j < 100 ∨ 134 < j) → G2 j = G j))
def mP_change (y : Nat → ClassId) (Ls : List Nat) (ad : Nat → Nat) (G : Nat → va_E) (F : Nat → Int32) (A : Nat → Nat → Int32) (nu : Nat) (tn : Nat → Nat) (a0 : Int32) (kd : Int32) (da : Int32) (r : Int32) (u : va_W) : Prop := (¬ inR a0 (nI nu - 1) ∧ ∃ G2, u = wl Ls ad G2 ∧ ModelAt y Ls ad G2 (va_up F 0 1) A ∧ (∀ j, (j < 100 ∨ 134 < j) → G2 j = G j)) ∨ (inR a0 (nI nu - 1) ∧ ¬ (inR kd 4 ∧ inR da 3599) ∧ ∃ G2, u = wl Ls ad G2 ∧ ModelAt y Ls ad G2 (va_up F 0 2) A ∧ (∀ j, (j < 100 ∨ 134 < j) → G2 j = G j)) ∨ (∃ i, i < nu ∧ a0 = nI i ∧ (inR kd 4 ∧ inR da 3599) ∧ (((¬ A 17 i = 100000 ∨ da < A 19 (9 * i + tn i - 1)) ∧ ∃ G2, u = wl Ls ad G2 ∧ ModelAt y Ls ad G2 (va_up F 0 3) A ∧ (∀ j, (j < 100 ∨ 134 < j) → G2 j = G j)) ∨ ((A 17 i = 100000 ∧ A 19 (9 * i + tn i - 1) ≤ da) ∧ tn i = 9 ∧ ∃ G2, u = wl Ls ad G2 ∧ ModelAt y Ls ad G2 (va_up F 0 4) A ∧ (∀ j, (j < 100 ∨ 134 < j) → G2 j = G j)) ∨ ((A 17 i = 100000 ∧ A 19 (9 * i + tn i - 1) ≤ da) ∧ tn i < 9 ∧ ((r = 0 ∧ A 20 (9 * i + tn i - 1) = kd) ∨ (r = 1 ∧ ¬ A 20 (9 * i + tn i - 1) = kd)) ∧ ∃ G2, u = wl Ls ad G2 ∧ ModelAt y Ls ad G2 (va_up F 0 0) (va_up (va_up (va_up A 18 (upd (A 18) i (nI (tn i + 1)))) 19 (upd (A 19) (9 * i + tn i) da)) 20 (upd (A 20) (9 * i + tn i) kd)) ∧ (∀ j, (j < 100 ∨ 134 < j) → G2 j = G j))))
def mP_gone (y : Nat → ClassId) (Ls : List Nat) (ad : Nat → Nat) (G : Nat → va_E) (F : Nat → Int32) (A : Nat → Nat → Int32) (nu : Nat) (tn : Nat → Nat) (a0 : Int32) (da : Int32) (r : Int32) (u : va_W) : Prop := (¬ inR a0 (nI nu - 1) ∧ ∃ G2, u = wl Ls ad G2 ∧ ModelAt y Ls ad G2 (va_up F 0 1) A ∧ (∀ j, (j < 100 ∨ 134 < j) → G2 j = G j)) ∨ (inR a0 (nI nu - 1) ∧ ¬ inR da 3599 ∧ ∃ G2, u = wl Ls ad G2 ∧ ModelAt y Ls ad G2 (va_up F 0 2) A ∧ (∀ j, (j < 100 ∨ 134 < j) → G2 j = G j)) ∨ (∃ i, i < nu ∧ a0 = nI i ∧ inR da 3599 ∧ (((¬ A 17 i = 100000 ∨ da < A 19 (9 * i + tn i - 1)) ∧ ∃ G2, u = wl Ls ad G2 ∧ ModelAt y Ls ad G2 (va_up F 0 3) A ∧ (∀ j, (j < 100 ∨ 134 < j) → G2 j = G j)) ∨ ((A 17 i = 100000 ∧ A 19 (9 * i + tn i - 1) ≤ da) ∧ r = da - A 16 i + 1 ∧ ∃ G2, u = wl Ls ad G2 ∧ ModelAt y Ls ad G2 (va_up F 0 0) (va_up A 17 (upd (A 17) i da)) ∧ (∀ j, (j < 100 ∨ 134 < j) → G2 j = G j))))
def mP_move (y : Nat → ClassId) (Ls : List Nat) (ad : Nat → Nat) (G : Nat → va_E) (F : Nat → Int32) (A : Nat → Nat → Int32) (nm : Nat) (o : Int32) (kd : Int32) (da : Int32) (pc0 : Int32) (r : Int32) (u : va_W) : Prop := (¬ (inR o 7 ∧ inR kd 4 ∧ inR da 3599 ∧ (1 ≤ pc0 ∧ pc0 ≤ 100)) ∧ ∃ G2, u = wl Ls ad G2 ∧ ModelAt y Ls ad G2 (va_up F 0 1) A ∧ (∀ j, (j < 100 ∨ 134 < j) → G2 j = G j)) ∨ ((inR o 7 ∧ inR kd 4 ∧ inR da 3599 ∧ (1 ≤ pc0 ∧ pc0 ≤ 100)) ∧ nm = 60 ∧ ∃ G2, u = wl Ls ad G2 ∧ ModelAt y Ls ad G2 (va_up F 0 2) A ∧ (∀ j, (j < 100 ∨ 134 < j) → G2 j = G j)) ∨ ((inR o 7 ∧ inR kd 4 ∧ inR da 3599 ∧ (1 ≤ pc0 ∧ pc0 ≤ 100)) ∧ nm < 60 ∧ r = nI (cnt (upd (A 22) nm o) o (nm + 1)) ∧ ∃ G2, u = wl Ls ad G2 ∧ ModelAt y Ls ad G2 (va_up (va_up F 0 0) 21 (nI (nm + 1))) (va_up (va_up (va_up (va_up A 22 (upd (A 22) nm o)) 23 (upd (A 23) nm kd)) 24 (upd (A 24) nm da)) 25 (upd (A 25) nm pc0)) ∧ (∀ j, (j < 100 ∨ 134 < j) → G2 j = G j))
def mP_sum (y : Nat → ClassId) (Ls : List Nat) (ad : Nat → Nat) (G : Nat → va_E) (F : Nat → Int32) (A : Nat → Nat → Int32) (nu : Nat) (nl : Nat) (nm : Nat) (tn : Nat → Nat) (o : Int32) (mo0 : Int32) (r : Int32) (u : va_W) : Prop := (¬ (inR o 7 ∧ inR mo0 119) ∧ ∃ G2, u = wl Ls ad G2 ∧ ModelAt y Ls ad G2 (va_up F 0 1) A ∧ (∀ j, (j < 100 ∨ 134 < j) → G2 j = G j)) ∨ (inR o 7 ∧ ∃ m0, m0 < 120 ∧ mo0 = nI m0 ∧ r = mSum A nl nu nm tn o o m0 ∧ ∃ G2, u = wl Ls ad G2 ∧ ModelAt y Ls ad G2 (va_up F 0 0) A ∧ (∀ j, (j < 100 ∨ 134 < j) → G2 j = G j))
def mP_days (y : Nat → ClassId) (Ls : List Nat) (ad : Nat → Nat) (G : Nat → va_E) (F : Nat → Int32) (A : Nat → Nat → Int32) (nu : Nat) (o : Int32) (mo0 : Int32) (r : Int32) (u : va_W) : Prop := (¬ (inR o 7 ∧ inR mo0 119) ∧ ∃ G2, u = wl Ls ad G2 ∧ ModelAt y Ls ad G2 (va_up F 0 1) A ∧ (∀ j, (j < 100 ∨ 134 < j) → G2 j = G j)) ∨ (inR o 7 ∧ ∃ m0, m0 < 120 ∧ mo0 = nI m0 ∧ r = mDay (A 15) (A 16) (A 17) o m0 nu ∧ ∃ G2, u = wl Ls ad G2 ∧ ModelAt y Ls ad G2 (va_up F 0 0) A ∧ (∀ j, (j < 100 ∨ 134 < j) → G2 j = G j))
def mP_average (y : Nat → ClassId) (Ls : List Nat) (ad : Nat → Nat) (G : Nat → va_E) (F : Nat → Int32) (A : Nat → Nat → Int32) (nu : Nat) (nl : Nat) (tn : Nat → Nat) (o : Int32) (mo0 : Int32) (r : Int32) (u : va_W) : Prop := (¬ (inR o 7 ∧ inR mo0 119) ∧ ∃ G2, u = wl Ls ad G2 ∧ ModelAt y Ls ad G2 (va_up F 0 1) A ∧ (∀ j, (j < 100 ∨ 134 < j) → G2 j = G j)) ∨ (inR o 7 ∧ ∃ m0, m0 < 120 ∧ mo0 = nI m0 ∧ mDay (A 15) (A 16) (A 17) o m0 nu = 0 ∧ ∃ G2, u = wl Ls ad G2 ∧ ModelAt y Ls ad G2 (va_up F 0 2) A ∧ (∀ j, (j < 100 ∨ 134 < j) → G2 j = G j)) ∨ (inR o 7 ∧ ∃ m0, m0 < 120 ∧ mo0 = nI m0 ∧ ¬ mDay (A 15) (A 16) (A 17) o m0 nu = 0 ∧ r = mStF (A 4) (A 5) (A 6) (A 7) nl (A 15) (A 16) (A 17) tn (A 19) (A 20) o o m0 nu / mDay (A 15) (A 16) (A 17) o m0 nu ∧ ∃ G2, u = wl Ls ad G2 ∧ ModelAt y Ls ad G2 (va_up F 0 0) A ∧ (∀ j, (j < 100 ∨ 134 < j) → G2 j = G j))
def mP_bill (y : Nat → ClassId) (Ls : List Nat) (ad : Nat → Nat) (G : Nat → va_E) (F : Nat → Int32) (A : Nat → Nat → Int32) (nu : Nat) (nl : Nat) (nm : Nat) (tn : Nat → Nat) (nr : Nat) (o : Int32) (mo0 : Int32) (r : Int32) (u : va_W) : Prop := (¬ (inR o 7 ∧ inR mo0 119) ∧ ∃ G2, u = wl Ls ad G2 ∧ ModelAt y Ls ad G2 (va_up F 0 1) A ∧ (∀ j, (j < 100 ∨ 134 < j) → G2 j = G j)) ∨ (∃ o9 m0, o9 < 8 ∧ m0 < 120 ∧ o = nI o9 ∧ mo0 = nI m0 ∧ ((¬ A 31 (120 * o9 + m0) = 0 ∧ ∃ G2, u = wl Ls ad G2 ∧ ModelAt y Ls ad G2 (va_up F 0 2) A ∧ (∀ j, (j < 100 ∨ 134 < j) → G2 j = G j)) ∨ (A 31 (120 * o9 + m0) = 0 ∧ r = mSum A nl nu nm tn o o m0 ∧ ∃ G2, u = wl Ls ad G2 ∧ ModelAt y Ls ad G2 (va_up (va_up F 0 0) 26 (nI (nr + 1))) (va_up (va_up (va_up (va_up (va_up A 31 (upd (A 31) (120 * o9 + m0) (vp_nar .boolean 1))) 27 (upd (A 27) nr o)) 28 (upd (A 28) nr mo0)) 29 (upd (A 29) nr (mSum A nl nu nm tn o o m0))) 30 (upd (A 30) nr 0)) ∧ (∀ j, (j < 100 ∨ 134 < j) → G2 j = G j))))
def mP_correct (y : Nat → ClassId) (Ls : List Nat) (ad : Nat → Nat) (G : Nat → va_E) (F : Nat → Int32) (A : Nat → Nat → Int32) (nu : Nat) (nl : Nat) (nm : Nat) (tn : Nat → Nat) (nr : Nat) (o : Int32) (mo0 : Int32) (r : Int32) (u : va_W) : Prop := (¬ (inR o 7 ∧ inR mo0 119) ∧ ∃ G2, u = wl Ls ad G2 ∧ ModelAt y Ls ad G2 (va_up F 0 1) A ∧ (∀ j, (j < 100 ∨ 134 < j) → G2 j = G j)) ∨ (∃ o8 m8, o8 < 8 ∧ m8 < 120 ∧ o = nI o8 ∧ mo0 = nI m8 ∧ ((A 31 (120 * o8 + m8) = 0 ∧ ∃ G2, u = wl Ls ad G2 ∧ ModelAt y Ls ad G2 (va_up F 0 2) A ∧ (∀ j, (j < 100 ∨ 134 < j) → G2 j = G j)) ∨ (¬ A 31 (120 * o8 + m8) = 0 ∧ r = mSum A nl nu nm tn o o m8 - cM (A 27) (A 28) (A 29) o mo0 nr ∧ ((r = 0 ∧ ∃ G2, u = wl Ls ad G2 ∧ ModelAt y Ls ad G2 (va_up F 0 0) A ∧ (∀ j, (j < 100 ∨ 134 < j) → G2 j = G j)) ∨ (¬ r = 0 ∧ ∃ G2, u = wl Ls ad G2 ∧ ModelAt y Ls ad G2 (va_up (va_up F 0 0) 26 (nI (nr + 1))) (va_up (va_up (va_up (va_up A 27 (upd (A 27) nr o)) 28 (upd (A 28) nr mo0)) 29 (upd (A 29) nr (r))) 30 (upd (A 30) nr 1)) ∧ (∀ j, (j < 100 ∨ 134 < j) → G2 j = G j))))))
def mP_line_ (y : Nat → ClassId) (Ls : List Nat) (ad : Nat → Nat) (G : Nat → va_E) (F : Nat → Int32) (A : Nat → Nat → Int32) (nr : Nat) (o : Int32) (i0 : Int32) (wh : Int32) (r : Int32) (u : va_W) : Prop := (¬ inR o 7 ∧ ∃ G2, u = wl Ls ad G2 ∧ ModelAt y Ls ad G2 (va_up F 0 2) A ∧ (∀ j, (j < 100 ∨ 134 < j) → G2 j = G j)) ∨ (inR o 7 ∧ (∀ k, k < nr → A 27 k = o → nI (cnt (A 27) o k) ≠ i0) ∧ ∃ G2, u = wl Ls ad G2 ∧ ModelAt y Ls ad G2 (va_up F 0 1) A ∧ (∀ j, (j < 100 ∨ 134 < j) → G2 j = G j)) ∨ (inR o 7 ∧ (∃ k, k < nr ∧ A 27 k = o ∧ nI (cnt (A 27) o k) = i0) ∧ ¬ (0 ≤ wh ∧ wh ≤ 2) ∧ ∃ G2, u = wl Ls ad G2 ∧ ModelAt y Ls ad G2 (va_up F 0 2) A ∧ (∀ j, (j < 100 ∨ 134 < j) → G2 j = G j)) ∨ (inR o 7 ∧ (0 ≤ wh ∧ wh ≤ 2) ∧ ∃ k, k < nr ∧ A 27 k = o ∧ nI (cnt (A 27) o k) = i0 ∧ ((wh = 0 ∧ r = A 28 k) ∨ (wh = 1 ∧ r = A 29 k) ∨ (¬ wh = 0 ∧ ¬ wh = 1 ∧ ((A 30 k = 0 ∧ r = 0) ∨ (¬ A 30 k = 0 ∧ r = 1)))) ∧ ∃ G2, u = wl Ls ad G2 ∧ ModelAt y Ls ad G2 (va_up F 0 0) A ∧ (∀ j, (j < 100 ∨ 134 < j) → G2 j = G j))
def mP_billed (y : Nat → ClassId) (Ls : List Nat) (ad : Nat → Nat) (G : Nat → va_E) (F : Nat → Int32) (A : Nat → Nat → Int32) (nr : Nat) (o : Int32) (r : Int32) (u : va_W) : Prop := (¬ inR o 7 ∧ ∃ G2, u = wl Ls ad G2 ∧ ModelAt y Ls ad G2 (va_up F 0 1) A ∧ (∀ j, (j < 100 ∨ 134 < j) → G2 j = G j)) ∨ (inR o 7 ∧ r = sumO (A 27) o (A 29) nr ∧ ∃ G2, u = wl Ls ad G2 ∧ ModelAt y Ls ad G2 (va_up F 0 0) A ∧ (∀ j, (j < 100 ∨ 134 < j) → G2 j = G j))
def mP_compare (y : Nat → ClassId) (Ls : List Nat) (ad : Nat → Nat) (G : Nat → va_E) (F : Nat → Int32) (A : Nat → Nat → Int32) (nu : Nat) (nl : Nat) (nm : Nat) (tn : Nat → Nat) (o : Int32) (q : Int32) (mo0 : Int32) (r : Int32) (u : va_W) : Prop := (¬ (inR o 7 ∧ inR q 7 ∧ inR mo0 119) ∧ ∃ G2, u = wl Ls ad G2 ∧ ModelAt y Ls ad G2 (va_up F 0 1) A ∧ (∀ j, (j < 100 ∨ 134 < j) → G2 j = G j)) ∨ (inR o 7 ∧ inR q 7 ∧ ∃ m0, m0 < 120 ∧ mo0 = nI m0 ∧ r = mSum A nl nu nm tn o q m0 - mSum A nl nu nm tn o o m0 ∧ ∃ G2, u = wl Ls ad G2 ∧ ModelAt y Ls ad G2 (va_up F 0 0) A ∧ (∀ j, (j < 100 ∨ 134 < j) → G2 j = G j))
def mP_print (y : Nat → ClassId) (Ls : List Nat) (ad : Nat → Nat) (G : Nat → va_E) (F : Nat → Int32) (A : Nat → Nat → Int32) (nr : Nat) (zm : Nat → Nat) (zc : Nat → Nat) (o : Int32) (r : Int32) (u : va_W) : Prop := (¬ inR o 7 ∧ ∃ G2, u = wl Ls ad G2 ∧ ModelAt y Ls ad G2 (va_up F 0 1) A ∧ (∀ j, (j < 100 ∨ 134 < j) → G2 j = G j)) ∨ (inR o 7 ∧ r = nI (prC (A 27) (A 28) (A 29) (A 30) zm zc o nr).length ∧ ∃ G2, u = wl Ls ad G2 ∧ PrM y Ls ad G2 (va_up F 0 0) A (prC (A 27) (A 28) (A 29) (A 30) zm zc o nr) ∧ (∀ j, (j < 100 ∨ 134 < j) → G2 j = G j))
def mP_at (y : Nat → ClassId) (Ls : List Nat) (ad : Nat → Nat) (G : Nat → va_E) (F : Nat → Int32) (A : Nat → Nat → Int32) (pn : Nat) (a0 : Int32) (r : Int32) (u : va_W) : Prop := (¬ inR a0 (nI pn - 1) ∧ ∃ G2, u = wl Ls ad G2 ∧ ModelAt y Ls ad G2 (va_up F 0 1) A ∧ (∀ j, (j < 100 ∨ 134 < j) → G2 j = G j)) ∨ (∃ i, i < pn ∧ a0 = nI i ∧ r = A 33 i ∧ ∃ G2, u = wl Ls ad G2 ∧ ModelAt y Ls ad G2 (va_up F 0 0) A ∧ (∀ j, (j < 100 ∨ 134 < j) → G2 j = G j))
def mP_count (y : Nat → ClassId) (Ls : List Nat) (ad : Nat → Nat) (G : Nat → va_E) (F : Nat → Int32) (A : Nat → Nat → Int32) (sg : Nat) (nl : Nat) (nu : Nat) (nm : Nat) (pn : Nat) (wh : Int32) (r : Int32) (u : va_W) : Prop := r = cnV (nI sg) (nI nl) (nI nu) (mTh (A 17) nu) (nI nm) (nI pn) (orF (A 5) 0 nl) wh ∧ ∃ G2, u = wl Ls ad G2 ∧ ModelAt y Ls ad G2 (va_up F 0 0) A ∧ (∀ j, (j < 100 ∨ 134 < j) → G2 j = G j)
def cP_sign (y : Nat → ClassId) (Ls : List Nat) (ad : Nat → Nat) (G : Nat → va_E) (f : Nat → Int32) (len : Nat) (pl : Nat) (c0 : Int32) (r : Int32) (u : va_W) : Prop := inR c0 255 ∧ len < 400 ∧ r = nI (len + 1) ∧ ∃ G2, u = wl Ls ad G2 ∧ TextAt y Ls ad G2 (upd f len c0) (len + 1) pl ∧ ∀ j, j ≠ 1 → j ≠ 2 → G2 j = G j
def cX_sign (len : Nat) (c0 : Int32) (k : Nat) : Prop := (k = 0 ∧ ¬ inR c0 255) ∨ (k = 1 ∧ inR c0 255 ∧ len = 400)
def cP_unit (y : Nat → ClassId) (Ls : List Nat) (ad : Nat → Nat) (G : Nat → va_E) (nu : Nat) (o : Int32) (kd : Int32) (da : Int32) (r : Int32) (u : va_W) : Prop := (inR o 7 ∧ inR kd 4 ∧ inR da 3599) ∧ nu < 24 ∧ r = nI nu ∧ ∃ (Ls3 : List Nat) (ad3 : Nat → Nat) (G3 : Nat → va_E), u = wl Ls3 ad3 G3 ∧ Ext Ls ad G Ls3 ad3 G3 (fun k => k = 3 ∨ k = 4 ∨ (1000 + 3 * nu ≤ k ∧ k ≤ 1000 + 3 * nu + 2)) ∧ ListAt y Ls3 ad3 G3 3 (nu + 1) (fun i => ad3 (1000 + 3 * i)) ∧ ad3 3 = ad 3 ∧ UnitAt y Ls3 ad3 G3 (1000 + 3 * nu) o da 3599 0 1 (upd (fun _ => 0) 0 kd) (upd (fun _ => 0) 0 da)
def cX_unit (nu : Nat) (o : Int32) (kd : Int32) (da : Int32) (k : Nat) : Prop := (k = 0 ∧ ¬ (inR o 7 ∧ inR kd 4 ∧ inR da 3599)) ∨ (k = 1 ∧ (inR o 7 ∧ inR kd 4 ∧ inR da 3599) ∧ 24 ≤ nu)
def cP_change (y : Nat → ClassId) (Ls : List Nat) (ad : Nat → Nat) (G : Nat → va_E) (nu : Nat) (uo : Nat → Int32) (uf : Nat → Nat) (ul : Nat → Nat) (ug : Nat → Int32) (ut : Nat → Nat) (uk : Nat → Nat → Int32) (ud : Nat → Nat → Int32) (a : Int32) (kd : Int32) (da : Int32) (r : Int32) (u : va_W) : Prop := ∃ i, i < nu ∧ a = nI i ∧ (inR kd 4 ∧ inR da 3599) ∧ (ug i = 0 ∧ ud i (ut i - 1) ≤ da) ∧ ut i < 9 ∧ ((r = 0 ∧ uk i (ut i - 1) = kd) ∨ (r = 1 ∧ ¬ uk i (ut i - 1) = kd)) ∧ ∃ G2, u = wl Ls ad G2 ∧ UnitAt y Ls ad G2 (1000 + 3 * i) (uo i) (nI (uf i)) (nI (ul i)) (ug i) (ut i + 1) (upd (uk i) (ut i) kd) (upd (ud i) (ut i) da) ∧ ∀ j, (j < 1000 + 3 * i ∨ 1000 + 3 * i + 2 < j) → G2 j = G j
def cX_change (nu : Nat) (ug : Nat → Int32) (ut : Nat → Nat) (ud : Nat → Nat → Int32) (a : Int32) (kd : Int32) (da : Int32) (k : Nat) : Prop := (k = 2 ∧ ¬ inR a (nI nu - 1)) ∨ (k = 0 ∧ inR a (nI nu - 1) ∧ ¬ (inR kd 4 ∧ inR da 3599)) ∨ (k = 3 ∧ ∃ i, i < nu ∧ a = nI i ∧ (inR kd 4 ∧ inR da 3599) ∧ (¬ ug i = 0 ∨ da < ud i (ut i - 1))) ∨ (k = 1 ∧ ∃ i, i < nu ∧ a = nI i ∧ (inR kd 4 ∧ inR da 3599) ∧ (ug i = 0 ∧ ud i (ut i - 1) ≤ da) ∧ ut i = 9)
def cP_gone (y : Nat → ClassId) (Ls : List Nat) (ad : Nat → Nat) (G : Nat → va_E) (nu : Nat) (uo : Nat → Int32) (uf : Nat → Nat) (ug : Nat → Int32) (ut : Nat → Nat) (uk : Nat → Nat → Int32) (ud : Nat → Nat → Int32) (a : Int32) (da : Int32) (r : Int32) (u : va_W) : Prop := ∃ i, i < nu ∧ a = nI i ∧ inR da 3599 ∧ (ug i = 0 ∧ ud i (ut i - 1) ≤ da) ∧ r = mxI 0 (mnI 3599 da - mxI 0 (nI (uf i)) + 1) ∧ ∃ G2, u = wl Ls ad G2 ∧ UnitAt y Ls ad G2 (1000 + 3 * i) (uo i) (nI (uf i)) da 1 (ut i) (uk i) (ud i) ∧ ∀ j, (j < 1000 + 3 * i ∨ 1000 + 3 * i + 2 < j) → G2 j = G j
def cX_gone (nu : Nat) (ug : Nat → Int32) (ut : Nat → Nat) (ud : Nat → Nat → Int32) (a : Int32) (da : Int32) (k : Nat) : Prop := (k = 2 ∧ ¬ inR a (nI nu - 1)) ∨ (k = 0 ∧ inR a (nI nu - 1) ∧ ¬ inR da 3599) ∨ (k = 3 ∧ ∃ i, i < nu ∧ a = nI i ∧ inR da 3599 ∧ (¬ ug i = 0 ∨ da < ud i (ut i - 1)))
def cP_move (y : Nat → ClassId) (Ls : List Nat) (ad : Nat → Nat) (G : Nat → va_E) (nm : Nat) (mo : Nat → Int32) (mk : Nat → Int32) (md : Nat → Int32) (mp : Nat → Int32) (o : Int32) (kd : Int32) (da : Int32) (pc0 : Int32) (r : Int32) (u : va_W) : Prop := (inR o 7 ∧ inR kd 4 ∧ inR da 3599 ∧ (1 ≤ pc0 ∧ pc0 ≤ 100)) ∧ nm < 60 ∧ r = nI (cnt (upd mo nm o) o (nm + 1)) ∧ ∃ (Ls3 : List Nat) (ad3 : Nat → Nat) (G3 : Nat → va_E), u = wl Ls3 ad3 G3 ∧ Ext Ls ad G Ls3 ad3 G3 (fun k => k = 5 ∨ k = 5 + 1 ∨ k = 2000 + nm) ∧ ad3 5 = ad 5 ∧ MovesAt y Ls3 ad3 G3 (nm + 1) (upd mo nm o) (upd mk nm kd) (upd md nm da) (upd mp nm pc0)
def cX_move (nm : Nat) (o : Int32) (kd : Int32) (da : Int32) (pc0 : Int32) (k : Nat) : Prop := (k = 0 ∧ ¬ (inR o 7 ∧ inR kd 4 ∧ inR da 3599 ∧ (1 ≤ pc0 ∧ pc0 ≤ 100))) ∨ (k = 1 ∧ (inR o 7 ∧ inR kd 4 ∧ inR da 3599 ∧ (1 ≤ pc0 ∧ pc0 ≤ 100)) ∧ 60 ≤ nm)
def cP_sum (Ls : List Nat) (ad : Nat → Nat) (G : Nat → va_E) (st : Nat → Int32) (ha : Nat → Int32) (mi : Nat → Int32) (dO : Nat → Int32) (dD : Nat → Int32) (dP : Nat → Int32) (nd : Nat) (nu : Nat) (uo : Nat → Int32) (uf : Nat → Nat) (ul : Nat → Nat) (ut : Nat → Nat) (uk : Nat → Nat → Int32) (ud : Nat → Nat → Int32) (nm : Nat) (mo : Nat → Int32) (mk : Nat → Int32) (md : Nat → Int32) (mp : Nat → Int32) (o : Int32) (mo0 : Int32) (r : Int32) (u : va_W) : Prop := inR o 7 ∧ (∃ m0, m0 < 120 ∧ mo0 = nI m0 ∧ r = sumX st ha mi dO dD dP nd nu uo uf ul ut uk ud nm mo mk md mp o o m0) ∧ u = wl Ls ad G
def cX_sum (o : Int32) (mo0 : Int32) (k : Nat) : Prop := k = 0 ∧ ¬ (inR o 7 ∧ inR mo0 119)
def cP_days (Ls : List Nat) (ad : Nat → Nat) (G : Nat → va_E) (nu : Nat) (uo : Nat → Int32) (uf : Nat → Nat) (ul : Nat → Nat) (o : Int32) (mo0 : Int32) (r : Int32) (u : va_W) : Prop := inR o 7 ∧ (∃ m0, m0 < 120 ∧ mo0 = nI m0 ∧ r = sumO uo o (fun q => dTh (nI m0) (uf q) (ul q)) nu) ∧ u = wl Ls ad G
def cX_days (o : Int32) (mo0 : Int32) (k : Nat) : Prop := k = 0 ∧ ¬ (inR o 7 ∧ inR mo0 119)
def cP_average (Ls : List Nat) (ad : Nat → Nat) (G : Nat → va_E) (st : Nat → Int32) (dO : Nat → Int32) (dD : Nat → Int32) (dP : Nat → Int32) (nd : Nat) (nu : Nat) (uo : Nat → Int32) (uf : Nat → Nat) (ul : Nat → Nat) (ut : Nat → Nat) (uk : Nat → Nat → Int32) (ud : Nat → Nat → Int32) (o : Int32) (mo0 : Int32) (r : Int32) (u : va_W) : Prop := inR o 7 ∧ (∃ m0, m0 < 120 ∧ mo0 = nI m0 ∧ ¬ sumO uo o (fun q => dTh (nI m0) (uf q) (ul q)) nu = 0 ∧ r = stoA st dO dD dP nd nu uo uf ul ut uk ud o o m0 / sumO uo o (fun q => dTh (nI m0) (uf q) (ul q)) nu) ∧ u = wl Ls ad G
def cX_average (nu : Nat) (uo : Nat → Int32) (uf : Nat → Nat) (ul : Nat → Nat) (o : Int32) (mo0 : Int32) (k : Nat) : Prop := (k = 0 ∧ ¬ (inR o 7 ∧ inR mo0 119)) ∨ (k = 4 ∧ inR o 7 ∧ ∃ m0, m0 < 120 ∧ mo0 = nI m0 ∧ sumO uo o (fun q => dTh (nI m0) (uf q) (ul q)) nu = 0)
def cP_bill (y : Nat → ClassId) (Ls : List Nat) (ad : Nat → Nat) (G : Nat → va_E) (st : Nat → Int32) (ha : Nat → Int32) (mn : Nat → Int32) (dO : Nat → Int32) (dD : Nat → Int32) (dP : Nat → Int32) (nd : Nat) (nu : Nat) (uo : Nat → Int32) (uf : Nat → Nat) (ul : Nat → Nat) (ut : Nat → Nat) (uk : Nat → Nat → Int32) (ud : Nat → Nat → Int32) (nm : Nat) (mo : Nat → Int32) (mk : Nat → Int32) (md : Nat → Int32) (mp : Nat → Int32) (nl : Nat) (bo : Nat → Int32) (bm : Nat → Int32) (bc : Nat → Int32) (bi : Nat → Int32) (o : Int32) (mo0 : Int32) (r : Int32) (u : va_W) : Prop := inR o 7 ∧ inR mo0 119 ∧ ¬ hasD bo bm o mo0 nl ∧ (∃ m0, m0 < 120 ∧ mo0 = nI m0 ∧ r = sumX st ha mn dO dD dP nd nu uo uf ul ut uk ud nm mo mk md mp o o m0) ∧ ∃ (Ls3 : List Nat) (ad3 : Nat → Nat) (G3 : Nat → va_E), u = wl Ls3 ad3 G3 ∧ Ext Ls ad G Ls3 ad3 G3 (fun k => k = 8 ∨ k = 8 + 1 ∨ k = 3000 + nl) ∧ ad3 8 = ad 8 ∧ BillsAt y Ls3 ad3 G3 (nl + 1) (upd bo nl o) (upd bm nl mo0) (upd bc nl (r)) (upd bi nl 0)
def cX_bill (nl : Nat) (bo : Nat → Int32) (bm : Nat → Int32) (o : Int32) (mo0 : Int32) (k : Nat) : Prop := (k = 0 ∧ ¬ (inR o 7 ∧ inR mo0 119)) ∨ (k = 3 ∧ inR o 7 ∧ inR mo0 119 ∧ hasD bo bm o mo0 nl)
def cP_correct (y : Nat → ClassId) (Ls : List Nat) (ad : Nat → Nat) (G : Nat → va_E) (st : Nat → Int32) (ha : Nat → Int32) (mn : Nat → Int32) (dO : Nat → Int32) (dD : Nat → Int32) (dP : Nat → Int32) (nd : Nat) (nu : Nat) (uo : Nat → Int32) (uf : Nat → Nat) (ul : Nat → Nat) (ut : Nat → Nat) (uk : Nat → Nat → Int32) (ud : Nat → Nat → Int32) (nm : Nat) (mo : Nat → Int32) (mk : Nat → Int32) (md : Nat → Int32) (mp : Nat → Int32) (nl : Nat) (bo : Nat → Int32) (bm : Nat → Int32) (bc : Nat → Int32) (bi : Nat → Int32) (o : Int32) (mo0 : Int32) (r : Int32) (u : va_W) : Prop := inR o 7 ∧ inR mo0 119 ∧ hasD bo bm o mo0 nl ∧ (∃ m0, m0 < 120 ∧ mo0 = nI m0 ∧ r = sumX st ha mn dO dD dP nd nu uo uf ul ut uk ud nm mo mk md mp o o m0 - cM bo bm bc o mo0 nl) ∧ ((r = 0 ∧ u = wl Ls ad G) ∨ (¬ r = 0 ∧ ∃ (Ls3 : List Nat) (ad3 : Nat → Nat) (G3 : Nat → va_E), u = wl Ls3 ad3 G3 ∧ Ext Ls ad G Ls3 ad3 G3 (fun k => k = 8 ∨ k = 8 + 1 ∨ k = 3000 + nl) ∧ ad3 8 = ad 8 ∧ BillsAt y Ls3 ad3 G3 (nl + 1) (upd bo nl o) (upd bm nl mo0) (upd bc nl (r)) (upd bi nl 1)))
def cX_correct (nl : Nat) (bo : Nat → Int32) (bm : Nat → Int32) (o : Int32) (mo0 : Int32) (k : Nat) : Prop := (k = 0 ∧ ¬ (inR o 7 ∧ inR mo0 119)) ∨ (k = 3 ∧ inR o 7 ∧ inR mo0 119 ∧ ¬ hasD bo bm o mo0 nl)
def cP_line (Ls : List Nat) (ad : Nat → Nat) (G : Nat → va_E) (nl : Nat) (bo : Nat → Int32) (bm : Nat → Int32) (bc : Nat → Int32) (bi : Nat → Int32) (o : Int32) (q0 : Int32) (wh : Int32) (r : Int32) (u : va_W) : Prop := inR o 7 ∧ (∃ k0, k0 < nl ∧ bo k0 = o ∧ nI (cnt bo o k0) = q0 ∧ ((wh = 0 ∧ r = bm k0) ∨ (wh = 1 ∧ r = bc k0) ∨ (wh = 2 ∧ ((bi k0 = 0 ∧ r = 0) ∨ (¬ bi k0 = 0 ∧ r = 1))))) ∧ u = wl Ls ad G
def cX_line (nl : Nat) (bo : Nat → Int32) (o : Int32) (q0 : Int32) (wh : Int32) (k : Nat) : Prop := (k = 0 ∧ ¬ inR o 7) ∨ (k = 2 ∧ inR o 7 ∧ ∀ k0, k0 < nl → bo k0 = o → nI (cnt bo o k0) ≠ q0) ∨ (k = 0 ∧ inR o 7 ∧ (wh.toInt < 0 ∨ 2 < wh.toInt) ∧ ∃ k0, k0 < nl ∧ bo k0 = o ∧ nI (cnt bo o k0) = q0)
def cP_billed (Ls : List Nat) (ad : Nat → Nat) (G : Nat → va_E) (nl : Nat) (bo : Nat → Int32) (bc : Nat → Int32) (o : Int32) (r : Int32) (u : va_W) : Prop := inR o 7 ∧ r = sumO bo o bc nl ∧ u = wl Ls ad G
def cX_billed (o : Int32) (k : Nat) : Prop := k = 0 ∧ ¬ inR o 7
def cP_compare (Ls : List Nat) (ad : Nat → Nat) (G : Nat → va_E) (st : Nat → Int32) (ha : Nat → Int32) (mi : Nat → Int32) (dO : Nat → Int32) (dD : Nat → Int32) (dP : Nat → Int32) (nd : Nat) (nu : Nat) (uo : Nat → Int32) (uf : Nat → Nat) (ul : Nat → Nat) (ut : Nat → Nat) (uk : Nat → Nat → Int32) (ud : Nat → Nat → Int32) (nm : Nat) (mo : Nat → Int32) (mk : Nat → Int32) (md : Nat → Int32) (mp : Nat → Int32) (o : Int32) (q : Int32) (mo0 : Int32) (r : Int32) (u : va_W) : Prop := inR o 7 ∧ inR q 7 ∧ (∃ m0, m0 < 120 ∧ mo0 = nI m0 ∧ r = sumX st ha mi dO dD dP nd nu uo uf ul ut uk ud nm mo mk md mp q o m0 - sumX st ha mi dO dD dP nd nu uo uf ul ut uk ud nm mo mk md mp o o m0) ∧ u = wl Ls ad G
def cX_compare (o : Int32) (q : Int32) (mo0 : Int32) (k : Nat) : Prop := k = 0 ∧ ¬ (inR o 7 ∧ inR q 7 ∧ inR mo0 119)
def cP_print (y : Nat → ClassId) (Ls : List Nat) (ad : Nat → Nat) (G : Nat → va_E) (nl : Nat) (bo : Nat → Int32) (bm : Nat → Int32) (bc : Nat → Int32) (bi : Nat → Int32) (pf : Nat → Int32) (zm : Nat → Nat) (zc : Nat → Nat) (o : Int32) (r : Int32) (u : va_W) : Prop := inR o 7 ∧ r = nI (prC bo bm bc bi zm zc o nl).length ∧ ∃ G2, u = wl Ls ad G2 ∧ PaperAt y Ls ad G2 (wrL pf 0 (prC bo bm bc bi zm zc o nl)) (prC bo bm bc bi zm zc o nl).length ∧ (∀ j, j ≠ 30 → j ≠ 31 → G2 j = G j)
def cX_print (o : Int32) (k : Nat) : Prop := k = 0 ∧ ¬ inR o 7
def cP_at (Ls : List Nat) (ad : Nat → Nat) (G : Nat → va_E) (pf : Nat → Int32) (pn : Nat) (a : Int32) (r : Int32) (u : va_W) : Prop := (∃ i, i < pn ∧ a = nI i ∧ r = pf i) ∧ u = wl Ls ad G
def cX_at (pn : Nat) (a : Int32) (k : Nat) : Prop := k = 5 ∧ ¬ inR a (nI pn - 1)
def cP_read (y : Nat → ClassId) (Ls : List Nat) (ad : Nat → Nat) (G : Nat → va_E) (ch : Nat) (dr : Nat) (f : Nat → Int32) (len : Nat) (pl : Nat) (dO : Nat → Int32) (dD : Nat → Int32) (dP : Nat → Int32) (r : Int32) (u : va_W) : Prop := ∃ st2 ha2 mi2, ((∀ i, i < 40 → st2 i = -1) ∧ (∀ i, i < 40 → ha2 i = -1) ∧ (∀ i, i < 8 → mi2 i = -1)) ∧ ∃ i, i ≤ 60 ∧ (∀ q, q < i → (rdN f len (pl, st2, ha2, mi2, dO, dD, dP, 0, 0, 0) q).1 < len ∧ lOK f len (rdN f len (pl, st2, ha2, mi2, dO, dD, dP, 0, 0, 0) q)) ∧ ((len ≤ (rdN f len (pl, st2, ha2, mi2, dO, dD, dP, 0, 0, 0) i).1 ∧ r = nI i ∧ ∃ G2, u = wl Ls ad G2 ∧ XAt Ls ad G2 dr ch ∧ TextAt y Ls ad G2 f 0 0 ∧ CDS y Ls ad G2 dr (rdN f len (pl, st2, ha2, mi2, dO, dD, dP, 0, 0, 0) i) ∧ (∀ j, j ≠ 0 → j ≠ 1 → j ≠ 2 → (j < dr ∨ dr + 6 < j) → G2 j = G j)) ∨ ((rdN f len (pl, st2, ha2, mi2, dO, dD, dP, 0, 0, 0) i).1 < len ∧ (i = 60 ∨ ¬ lOK f len (rdN f len (pl, st2, ha2, mi2, dO, dD, dP, 0, 0, 0) i)) ∧ r = -1 - nI (rdN f len (pl, st2, ha2, mi2, dO, dD, dP, 0, 0, 0) i).1 ∧ ∃ G2 d2, u = wl Ls ad G2 ∧ XAt Ls ad G2 ch dr ∧ TextAt y Ls ad G2 f 0 0 ∧ CDS y Ls ad G2 dr d2 ∧ (∀ j, j ≠ 0 → j ≠ 1 → j ≠ 2 → (j < dr ∨ dr + 6 < j) → G2 j = G j)))
/-- both have answered: what is next -/
def FinR (y : Nat → ClassId) (df : Nat) (qa : Nat × Nat × Nat) (n : Nat) (val : Int32 → Int64) (r5 r6 : Int32) (u : va_W) : Prop := ∃ (L : List Nat) (a : Nat → Nat) (g : Nat → va_E) (F2 : Nat → Int32) (A2 : Nat → Nat → Int32) (lo2 : Nat → Int64), u = wl L a g ∧ Rel y df qa (n + 1) L a g F2 A2 lo2 ∧ F2 0 = r5 ∧ (r5 = 0 → lo2 0 = val r6)
def FinE (y : Nat → ClassId) (df : Nat) (qa : Nat × Nat × Nat) (n : Nat) (r5 r6 : Int32) (u : va_W) : Prop := ∃ (L : List Nat) (a : Nat → Nat) (g : Nat → va_E) (F2 : Nat → Int32) (A2 : Nat → Nat → Int32) (lo2 : Nat → Int64), u = wl L a g ∧ Rel y df qa (n + 1) L a g F2 A2 lo2 ∧ r5 = r6
/-- the class has answered; then the model -/
def StR (y : Nat → ClassId) (F : Nat → Int32) (A : Nat → Nat → Int32) (q1 : Nat) (MP : List Nat → (Nat → Nat) → (Nat → va_E) → Int32 → va_W → Prop) (Fin : Int32 → va_W → Prop) (u5 : va_W) : Prop := ∃ (L : List Nat) (a : Nat → Nat) (g : Nat → va_E), u5 = wl L a g ∧ a 100 = q1 ∧ ModelAt y L a g F A ∧ ∀ r6 u6, MP L a g r6 u6 → Fin r6 u6
section
variable {y : Nat → ClassId} {df n : Nat} {qa : Nat × Nat × Nat} {Ls : List Nat} {ad : Nat → Nat} {G : Nat → va_E} {F : Nat → Int32} {A : Nat → Nat → Int32} {lo : Nat → Int64} {ch dr : Nat} {st ha mi dO dD dP : Nat → Int32} {nd : Nat} {li ow : Int32} {len ln nu : Nat} {uo : Nat → Int32} {uf ul : Nat → Nat} {ug : Nat → Int32} {ut : Nat → Nat} {uk ud : Nat → Nat → Int32} {nm nl pn : Nat}
theorem out_M {g : Nat → va_E} {v : Int64} (h : ModelAt y Ls ad g F A) : ModelAt y Ls ad (outG y g lo v) F A := ModelAt_fr h (fun j h1 h2 => va_up_ne _ _ (by omega))
theorem out_O {g : Nat → va_E} {v : Int64} (h : 70 ∈ Ls) : OutAt y Ls (outG y g lo v) (vp_updL lo 0 v) := ⟨h, va_up_self _ _ _⟩
theorem out_v (lo : Nat → Int64) (v : Int64) : vp_updL lo 0 v 0 = v := pk_uLs
theorem out_CR {g : Nat → va_E} {v : Int64} {f2 : Nat → Int32} {mo mk md mp bo bm bc bi pf : Nat → Int32} (h : CR y df qa Ls ad g ch dr st ha mi dO dD dP nd li ow f2 len nu uo uf ul ug ut uk ud nm mo mk md mp nl bo bm bc bi pf pn) : CR y df qa Ls ad (outG y g lo v) ch dr st ha mi dO dD dP nd li ow f2 len nu uo uf ul ug ut uk ud nm mo mk md mp nl bo bm bc bi pf pn := CR_fr (fun j h _ => va_up_ne _ _ h) h
theorem Rel_mk {g g2 : Nat → va_E} (hC : CR y df qa Ls ad g ch dr st ha mi dO dD dP nd li ow (A 2) len nu uo uf ul ug ut uk ud nm (A 22) (A 23) (A 24) (A 25) nl (A 27) (A 28) (A 29) (A 30) (A 33) pn) (hO : OutAt y Ls g lo) (hf : ∀ j, (j < 100 ∨ 134 < j) → g2 j = g j) (hMo : ModelAt y Ls ad g2 F A) (hM : MR n F A st ha mi dO dD dP nd li ow len ln nu uo uf ul ug ut uk ud nm nl pn) : Rel y df qa n Ls ad g2 F A lo :=
  ⟨ch, dr, st, ha, mi, dO, dD, dP, nd, li, ow, len, ln, nu, uo, uf, ul, ug, ut, uk, ud, nm, nl, pn, CR_fr (fun j _ h => hf j h) hC, hM, hMo, hO.1, (hf 70 (by omega)).trans hO.2⟩
theorem MR_0 {c : Int32} (hM : MR n F A st ha mi dO dD dP nd li ow len ln nu uo uf ul ug ut uk ud nm nl pn) : MR (n + 1) (va_up F 0 c) A st ha mi dO dD dP nd li ow len ln nu uo uf ul ug ut uk ud nm nl pn := by
  obtain ⟨f1, f3, f14, f21, f26, f32, hCh, hln, hUR, hMv, hBl, hnl, hbil⟩ := id hM
  exact ⟨f1, f3, f14, f21, f26, f32, hCh, hln, hUR, hMv, hBl, by omega, hbil⟩
theorem fin_same {g g2 : Nat → va_E} {c r5 r6 : Int32} {val : Int32 → Int64} (hC : CR y df qa Ls ad g ch dr st ha mi dO dD dP nd li ow (A 2) len nu uo uf ul ug ut uk ud nm (A 22) (A 23) (A 24) (A 25) nl (A 27) (A 28) (A 29) (A 30) (A 33) pn) (hM : MR n F A st ha mi dO dD dP nd li ow len ln nu uo uf ul ug ut uk ud nm nl pn) (hO : OutAt y Ls g lo) (hm : ModelAt y Ls ad g2 (va_up F 0 c) A) (hf : ∀ j, (j < 100 ∨ 134 < j) → g2 j = g j) (h5 : r5 = c) (ha : r5 = 0 → lo 0 = val r6) : FinR y df qa n val r5 r6 (wl Ls ad g2) :=
  ⟨Ls, ad, g2, va_up F 0 c, A, lo, rfl, Rel_mk hC hO hf hm (MR_0 hM), (va_up_self F 0 c).trans h5.symm, ha⟩
theorem len_in {i k : Nat} (h : i < k) (hk : k ≤ 9000) : inR (nI i) (nI k - 1) := by
  rw [nI_p1 (by omega)]; exact nI_in0 rfl (by omega) (by omega)
theorem no1 {P : Prop} {c : Int32} (h : c = 0) (h2 : ¬ c = 0) : P := absurd h h2

theorem hp_sum (hOu : OutAt y Ls G lo) {o mo0 : Int32} : ∀ r u, cP_sum Ls ad G st ha mi dO dD dP nd nu uo uf ul ut uk ud nm (A 22) (A 23) (A 24) (A 25) o mo0 r u → ∃ L a g, u = wl L a g ∧ 70 ∈ L ∧ a 70 = ad 70 ∧ g 70 = G 70 ∧ (fun v L a g => (inR o 7 ∧ ∃ m0, m0 < 120 ∧ mo0 = nI m0 ∧ v = sumX st ha mi dO dD dP nd nu uo uf ul ut uk ud nm (A 22) (A 23) (A 24) (A 25) o o m0) ∧ Ls = L ∧ ad = a ∧ G = g) r L a g := fun r u ⟨h1, h2, h3⟩ => ⟨Ls, ad, G, h3, hOu.1, rfl, rfl, ⟨h1, h2⟩, rfl, rfl, rfl⟩
theorem st_sum (hC : CR y df qa Ls ad G ch dr st ha mi dO dD dP nd li ow (A 2) len nu uo uf ul ug ut uk ud nm (A 22) (A 23) (A 24) (A 25) nl (A 27) (A 28) (A 29) (A 30) (A 33) pn) (hM : MR n F A st ha mi dO dD dP nd li ow len ln nu uo uf ul ug ut uk ud nm nl pn) (hMo : ModelAt y Ls ad G F A) (hOu : OutAt y Ls G lo) {o mo0 : Int32} {r5 : Int32} {u5 : va_W} (hw : wRet y ad lo (fun v L a g => (inR o 7 ∧ ∃ m0, m0 < 120 ∧ mo0 = nI m0 ∧ v = sumX st ha mi dO dD dP nd nu uo uf ul ut uk ud nm (A 22) (A 23) (A 24) (A 25) o o m0) ∧ Ls = L ∧ ad = a ∧ G = g) (fun v => v.toInt64) r5 u5 ∨ (cX_sum o mo0 0 ∧ r5 = 1 ∧ u5 = wl Ls ad G)) : StR y F A qa.2.2 (fun L a g => mP_sum y L a g F A nu ln nm ut o mo0) (fun r6 u6 => FinR y df qa n (fun v => v.toInt64) r5 r6 u6) u5 := by
  obtain ⟨f1, f3, f14, f21, f26, f32, hCh, hln, hUR, hMv, hBl, hnl, hbil⟩ := id hM
  rcases hw with ⟨rfl, v, L, a, g, ⟨⟨ho, m0, hm0, rfl, rfl⟩, rfl, rfl, rfl⟩, h70, -, rfl⟩ | ⟨hp, rfl, rfl⟩
  · refine ⟨Ls, ad, _, rfl, hC.2.2.2.2.2.2.2.2.2.2.2.2.2.2.2.2.2.2.2, out_M hMo, ?_⟩
    rintro r6 u6 (⟨hn, g2, rfl, hm, hf⟩ | ⟨-, m1, hm1, e1, rfl, g2, rfl, hm, hf⟩)
    · exact absurd ⟨ho, in119 hm0⟩ hn
    · obtain rfl := m_inj hm0 hm1 e1
      exact fin_same (out_CR hC) hM (out_O h70) hm hf rfl (fun _ => (out_v _ _).trans (by rw [sum_eq hUR hCh ho hMv o hm0]))
  · refine ⟨Ls, ad, G, rfl, hC.2.2.2.2.2.2.2.2.2.2.2.2.2.2.2.2.2.2.2, hMo, ?_⟩
    rintro r6 u6 (⟨hn, g2, rfl, hm, hf⟩ | ⟨ho, m1, hm1, rfl, -⟩)
    · exact fin_same hC hM hOu hm hf rfl (fun h => absurd h (by decide))
    · exact absurd ⟨ho, in119 hm1⟩ hp.2

theorem hp_days (hOu : OutAt y Ls G lo) {o mo0 : Int32} : ∀ r u, cP_days Ls ad G nu uo uf ul o mo0 r u → ∃ L a g, u = wl L a g ∧ 70 ∈ L ∧ a 70 = ad 70 ∧ g 70 = G 70 ∧ (fun v L a g => (inR o 7 ∧ ∃ m0, m0 < 120 ∧ mo0 = nI m0 ∧ v = sumO uo o (fun q => dTh (nI m0) (uf q) (ul q)) nu) ∧ Ls = L ∧ ad = a ∧ G = g) r L a g := fun r u ⟨h1, h2, h3⟩ => ⟨Ls, ad, G, h3, hOu.1, rfl, rfl, ⟨h1, h2⟩, rfl, rfl, rfl⟩
theorem st_days (hC : CR y df qa Ls ad G ch dr st ha mi dO dD dP nd li ow (A 2) len nu uo uf ul ug ut uk ud nm (A 22) (A 23) (A 24) (A 25) nl (A 27) (A 28) (A 29) (A 30) (A 33) pn) (hM : MR n F A st ha mi dO dD dP nd li ow len ln nu uo uf ul ug ut uk ud nm nl pn) (hMo : ModelAt y Ls ad G F A) (hOu : OutAt y Ls G lo) {o mo0 : Int32} {r5 : Int32} {u5 : va_W} (hw : wRet y ad lo (fun v L a g => (inR o 7 ∧ ∃ m0, m0 < 120 ∧ mo0 = nI m0 ∧ v = sumO uo o (fun q => dTh (nI m0) (uf q) (ul q)) nu) ∧ Ls = L ∧ ad = a ∧ G = g) (fun v => v.toInt64) r5 u5 ∨ (cX_days o mo0 0 ∧ r5 = 1 ∧ u5 = wl Ls ad G)) : StR y F A qa.2.2 (fun L a g => mP_days y L a g F A nu o mo0) (fun r6 u6 => FinR y df qa n (fun v => v.toInt64) r5 r6 u6) u5 := by
  obtain ⟨f1, f3, f14, f21, f26, f32, hCh, hln, hUR, hMv, hBl, hnl, hbil⟩ := id hM
  rcases hw with ⟨rfl, v, L, a, g, ⟨⟨ho, m0, hm0, rfl, rfl⟩, rfl, rfl, rfl⟩, h70, -, rfl⟩ | ⟨hp, rfl, rfl⟩
  · refine ⟨Ls, ad, _, rfl, hC.2.2.2.2.2.2.2.2.2.2.2.2.2.2.2.2.2.2.2, out_M hMo, ?_⟩
    rintro r6 u6 (⟨hn, g2, rfl, hm, hf⟩ | ⟨-, m1, hm1, e1, rfl, g2, rfl, hm, hf⟩)
    · exact absurd ⟨ho, in119 hm0⟩ hn
    · obtain rfl := m_inj hm0 hm1 e1
      exact fin_same (out_CR hC) hM (out_O h70) hm hf rfl (fun _ => (out_v _ _).trans (by rw [mDay_eq hUR o hm0]))
  · refine ⟨Ls, ad, G, rfl, hC.2.2.2.2.2.2.2.2.2.2.2.2.2.2.2.2.2.2.2, hMo, ?_⟩
    rintro r6 u6 (⟨hn, g2, rfl, hm, hf⟩ | ⟨ho, m1, hm1, rfl, -⟩)
    · exact fin_same hC hM hOu hm hf rfl (fun h => absurd h (by decide))
    · exact absurd ⟨ho, in119 hm1⟩ hp.2

theorem hp_average (hOu : OutAt y Ls G lo) {o mo0 : Int32} : ∀ r u, cP_average Ls ad G st dO dD dP nd nu uo uf ul ut uk ud o mo0 r u → ∃ L a g, u = wl L a g ∧ 70 ∈ L ∧ a 70 = ad 70 ∧ g 70 = G 70 ∧ (fun v L a g => (inR o 7 ∧ ∃ m0, m0 < 120 ∧ mo0 = nI m0 ∧ ¬ sumO uo o (fun q => dTh (nI m0) (uf q) (ul q)) nu = 0 ∧ v = stoA st dO dD dP nd nu uo uf ul ut uk ud o o m0 / sumO uo o (fun q => dTh (nI m0) (uf q) (ul q)) nu) ∧ Ls = L ∧ ad = a ∧ G = g) r L a g := fun r u ⟨h1, h2, h3⟩ => ⟨Ls, ad, G, h3, hOu.1, rfl, rfl, ⟨h1, h2⟩, rfl, rfl, rfl⟩
theorem st_average (hC : CR y df qa Ls ad G ch dr st ha mi dO dD dP nd li ow (A 2) len nu uo uf ul ug ut uk ud nm (A 22) (A 23) (A 24) (A 25) nl (A 27) (A 28) (A 29) (A 30) (A 33) pn) (hM : MR n F A st ha mi dO dD dP nd li ow len ln nu uo uf ul ug ut uk ud nm nl pn) (hMo : ModelAt y Ls ad G F A) (hOu : OutAt y Ls G lo) {o mo0 : Int32} {r5 : Int32} {u5 : va_W} (hw : wRet y ad lo (fun v L a g => (inR o 7 ∧ ∃ m0, m0 < 120 ∧ mo0 = nI m0 ∧ ¬ sumO uo o (fun q => dTh (nI m0) (uf q) (ul q)) nu = 0 ∧ v = stoA st dO dD dP nd nu uo uf ul ut uk ud o o m0 / sumO uo o (fun q => dTh (nI m0) (uf q) (ul q)) nu) ∧ Ls = L ∧ ad = a ∧ G = g) (fun v => v.toInt64) r5 u5 ∨ (cX_average nu uo uf ul o mo0 0 ∧ r5 = 1 ∧ u5 = wl Ls ad G) ∨ (cX_average nu uo uf ul o mo0 4 ∧ r5 = 2 ∧ u5 = wl Ls ad G)) : StR y F A qa.2.2 (fun L a g => mP_average y L a g F A nu ln ut o mo0) (fun r6 u6 => FinR y df qa n (fun v => v.toInt64) r5 r6 u6) u5 := by
  obtain ⟨f1, f3, f14, f21, f26, f32, hCh, hln, hUR, hMv, hBl, hnl, hbil⟩ := id hM
  rcases hw with ⟨rfl, v, L, a, g, ⟨⟨ho, m0, hm0, rfl, hne, rfl⟩, rfl, rfl, rfl⟩, h70, -, rfl⟩ | ⟨hp, rfl, rfl⟩ | ⟨hp, rfl, rfl⟩
  · refine ⟨Ls, ad, _, rfl, hC.2.2.2.2.2.2.2.2.2.2.2.2.2.2.2.2.2.2.2, out_M hMo, ?_⟩
    rw [← mDay_eq hUR o hm0] at hne
    rintro r6 u6 (⟨hn, g2, rfl, hm, hf⟩ | ⟨-, m1, hm1, e1, hz, -⟩ | ⟨-, m1, hm1, e1, -, rfl, g2, rfl, hm, hf⟩)
    · exact absurd ⟨ho, in119 hm0⟩ hn
    · obtain rfl := m_inj hm0 hm1 e1
      exact absurd hz hne
    · obtain rfl := m_inj hm0 hm1 e1
      exact fin_same (out_CR hC) hM (out_O h70) hm hf rfl (fun _ => (out_v _ _).trans (by rw [mDay_eq hUR o hm0, sto_eq hUR hCh ho o hm0]))
  · rcases hp with ⟨-, hp⟩ | ⟨h, -⟩
    · refine ⟨Ls, ad, G, rfl, hC.2.2.2.2.2.2.2.2.2.2.2.2.2.2.2.2.2.2.2, hMo, ?_⟩
      rintro r6 u6 (⟨hn, g2, rfl, hm, hf⟩ | ⟨ho, m1, hm1, rfl, -⟩ | ⟨ho, m1, hm1, rfl, -⟩)
      · exact fin_same hC hM hOu hm hf rfl (fun h => absurd h (by decide))
      · exact absurd ⟨ho, in119 hm1⟩ hp
      · exact absurd ⟨ho, in119 hm1⟩ hp
    · exact absurd h (by decide)
  · rcases hp with ⟨h, -⟩ | ⟨-, ho, m0, hm0, rfl, hz⟩
    · exact absurd h (by decide)
    · refine ⟨Ls, ad, G, rfl, hC.2.2.2.2.2.2.2.2.2.2.2.2.2.2.2.2.2.2.2, hMo, ?_⟩
      rw [← mDay_eq hUR o hm0] at hz
      rintro r6 u6 (⟨hn, g2, rfl, hm, hf⟩ | ⟨-, m1, hm1, e1, -, g2, rfl, hm, hf⟩ | ⟨-, m1, hm1, e1, hne, -⟩)
      · exact absurd ⟨ho, in119 hm0⟩ hn
      · exact fin_same hC hM hOu hm hf rfl (fun h => absurd h (by decide))
      · obtain rfl := m_inj hm0 hm1 e1
        exact absurd hz hne

theorem hp_compare (hOu : OutAt y Ls G lo) {o q mo0 : Int32} : ∀ r u, cP_compare Ls ad G st ha mi dO dD dP nd nu uo uf ul ut uk ud nm (A 22) (A 23) (A 24) (A 25) o q mo0 r u → ∃ L a g, u = wl L a g ∧ 70 ∈ L ∧ a 70 = ad 70 ∧ g 70 = G 70 ∧ (fun v L a g => (inR o 7 ∧ inR q 7 ∧ ∃ m0, m0 < 120 ∧ mo0 = nI m0 ∧ v = sumX st ha mi dO dD dP nd nu uo uf ul ut uk ud nm (A 22) (A 23) (A 24) (A 25) q o m0 - sumX st ha mi dO dD dP nd nu uo uf ul ut uk ud nm (A 22) (A 23) (A 24) (A 25) o o m0) ∧ Ls = L ∧ ad = a ∧ G = g) r L a g := fun r u ⟨h1, h2, h3, h4⟩ => ⟨Ls, ad, G, h4, hOu.1, rfl, rfl, ⟨h1, h2, h3⟩, rfl, rfl, rfl⟩
theorem st_compare (hC : CR y df qa Ls ad G ch dr st ha mi dO dD dP nd li ow (A 2) len nu uo uf ul ug ut uk ud nm (A 22) (A 23) (A 24) (A 25) nl (A 27) (A 28) (A 29) (A 30) (A 33) pn) (hM : MR n F A st ha mi dO dD dP nd li ow len ln nu uo uf ul ug ut uk ud nm nl pn) (hMo : ModelAt y Ls ad G F A) (hOu : OutAt y Ls G lo) {o q mo0 : Int32} {r5 : Int32} {u5 : va_W} (hw : wRet y ad lo (fun v L a g => (inR o 7 ∧ inR q 7 ∧ ∃ m0, m0 < 120 ∧ mo0 = nI m0 ∧ v = sumX st ha mi dO dD dP nd nu uo uf ul ut uk ud nm (A 22) (A 23) (A 24) (A 25) q o m0 - sumX st ha mi dO dD dP nd nu uo uf ul ut uk ud nm (A 22) (A 23) (A 24) (A 25) o o m0) ∧ Ls = L ∧ ad = a ∧ G = g) (fun v => v.toInt64) r5 u5 ∨ (cX_compare o q mo0 0 ∧ r5 = 1 ∧ u5 = wl Ls ad G)) : StR y F A qa.2.2 (fun L a g => mP_compare y L a g F A nu ln nm ut o q mo0) (fun r6 u6 => FinR y df qa n (fun v => v.toInt64) r5 r6 u6) u5 := by
  obtain ⟨f1, f3, f14, f21, f26, f32, hCh, hln, hUR, hMv, hBl, hnl, hbil⟩ := id hM
  rcases hw with ⟨rfl, v, L, a, g, ⟨⟨ho, hq, m0, hm0, rfl, rfl⟩, rfl, rfl, rfl⟩, h70, -, rfl⟩ | ⟨hp, rfl, rfl⟩
  · refine ⟨Ls, ad, _, rfl, hC.2.2.2.2.2.2.2.2.2.2.2.2.2.2.2.2.2.2.2, out_M hMo, ?_⟩
    rintro r6 u6 (⟨hn, g2, rfl, hm, hf⟩ | ⟨-, -, m1, hm1, e1, rfl, g2, rfl, hm, hf⟩)
    · exact absurd ⟨ho, hq, in119 hm0⟩ hn
    · obtain rfl := m_inj hm0 hm1 e1
      exact fin_same (out_CR hC) hM (out_O h70) hm hf rfl (fun _ => (out_v _ _).trans (by rw [sum_eq hUR hCh ho hMv o hm0, sum_eq hUR hCh hq hMv o hm0]))
  · refine ⟨Ls, ad, G, rfl, hC.2.2.2.2.2.2.2.2.2.2.2.2.2.2.2.2.2.2.2, hMo, ?_⟩
    rintro r6 u6 (⟨hn, g2, rfl, hm, hf⟩ | ⟨ho, hq, m1, hm1, rfl, -⟩)
    · exact fin_same hC hM hOu hm hf rfl (fun h => absurd h (by decide))
    · exact absurd ⟨ho, hq, in119 hm1⟩ hp.2

theorem hp_billed (hOu : OutAt y Ls G lo) {o : Int32} : ∀ r u, cP_billed Ls ad G nl (A 27) (A 29) o r u → ∃ L a g, u = wl L a g ∧ 70 ∈ L ∧ a 70 = ad 70 ∧ g 70 = G 70 ∧ (fun v L a g => (inR o 7 ∧ v = sumO (A 27) o (A 29) nl) ∧ Ls = L ∧ ad = a ∧ G = g) r L a g := fun r u ⟨h1, h2, h3⟩ => ⟨Ls, ad, G, h3, hOu.1, rfl, rfl, ⟨h1, h2⟩, rfl, rfl, rfl⟩
theorem st_billed (hC : CR y df qa Ls ad G ch dr st ha mi dO dD dP nd li ow (A 2) len nu uo uf ul ug ut uk ud nm (A 22) (A 23) (A 24) (A 25) nl (A 27) (A 28) (A 29) (A 30) (A 33) pn) (hM : MR n F A st ha mi dO dD dP nd li ow len ln nu uo uf ul ug ut uk ud nm nl pn) (hMo : ModelAt y Ls ad G F A) (hOu : OutAt y Ls G lo) {o : Int32} {r5 : Int32} {u5 : va_W} (hw : wRet y ad lo (fun v L a g => (inR o 7 ∧ v = sumO (A 27) o (A 29) nl) ∧ Ls = L ∧ ad = a ∧ G = g) (fun v => v.toInt64) r5 u5 ∨ (cX_billed o 0 ∧ r5 = 1 ∧ u5 = wl Ls ad G)) : StR y F A qa.2.2 (fun L a g => mP_billed y L a g F A nl o) (fun r6 u6 => FinR y df qa n (fun v => v.toInt64) r5 r6 u6) u5 := by
  obtain ⟨f1, f3, f14, f21, f26, f32, hCh, hln, hUR, hMv, hBl, hnl, hbil⟩ := id hM
  rcases hw with ⟨rfl, v, L, a, g, ⟨⟨ho, rfl⟩, rfl, rfl, rfl⟩, h70, -, rfl⟩ | ⟨hp, rfl, rfl⟩
  · refine ⟨Ls, ad, _, rfl, hC.2.2.2.2.2.2.2.2.2.2.2.2.2.2.2.2.2.2.2, out_M hMo, ?_⟩
    rintro r6 u6 (⟨hn, g2, rfl, hm, hf⟩ | ⟨-, rfl, g2, rfl, hm, hf⟩)
    · exact absurd ho hn
    · exact fin_same (out_CR hC) hM (out_O h70) hm hf rfl (fun _ => out_v _ _)
  · refine ⟨Ls, ad, G, rfl, hC.2.2.2.2.2.2.2.2.2.2.2.2.2.2.2.2.2.2.2, hMo, ?_⟩
    rintro r6 u6 (⟨hn, g2, rfl, hm, hf⟩ | ⟨ho, -⟩)
    · exact fin_same hC hM hOu hm hf rfl (fun h => absurd h (by decide))
    · exact absurd ho hp.2

theorem hp_line (hOu : OutAt y Ls G lo) {o q0 wh : Int32} : ∀ r u, cP_line Ls ad G nl (A 27) (A 28) (A 29) (A 30) o q0 wh r u → ∃ L a g, u = wl L a g ∧ 70 ∈ L ∧ a 70 = ad 70 ∧ g 70 = G 70 ∧ (fun v L a g => (inR o 7 ∧ ∃ k0, k0 < nl ∧ A 27 k0 = o ∧ nI (cnt (A 27) o k0) = q0 ∧ ((wh = 0 ∧ v = A 28 k0) ∨ (wh = 1 ∧ v = A 29 k0) ∨ (wh = 2 ∧ ((A 30 k0 = 0 ∧ v = 0) ∨ (¬ A 30 k0 = 0 ∧ v = 1))))) ∧ Ls = L ∧ ad = a ∧ G = g) r L a g := fun r u ⟨h1, h2, h3⟩ => ⟨Ls, ad, G, h3, hOu.1, rfl, rfl, ⟨h1, h2⟩, rfl, rfl, rfl⟩
theorem st_line (hC : CR y df qa Ls ad G ch dr st ha mi dO dD dP nd li ow (A 2) len nu uo uf ul ug ut uk ud nm (A 22) (A 23) (A 24) (A 25) nl (A 27) (A 28) (A 29) (A 30) (A 33) pn) (hM : MR n F A st ha mi dO dD dP nd li ow len ln nu uo uf ul ug ut uk ud nm nl pn) (hMo : ModelAt y Ls ad G F A) (hOu : OutAt y Ls G lo) {o q0 wh : Int32} (h512 : n ≤ 512) {r5 : Int32} {u5 : va_W} (hw : wRet y ad lo (fun v L a g => (inR o 7 ∧ ∃ k0, k0 < nl ∧ A 27 k0 = o ∧ nI (cnt (A 27) o k0) = q0 ∧ ((wh = 0 ∧ v = A 28 k0) ∨ (wh = 1 ∧ v = A 29 k0) ∨ (wh = 2 ∧ ((A 30 k0 = 0 ∧ v = 0) ∨ (¬ A 30 k0 = 0 ∧ v = 1))))) ∧ Ls = L ∧ ad = a ∧ G = g) (fun v => v.toInt64) r5 u5 ∨ (cX_line nl (A 27) o q0 wh 2 ∧ r5 = 1 ∧ u5 = wl Ls ad G) ∨ (cX_line nl (A 27) o q0 wh 0 ∧ r5 = 2 ∧ u5 = wl Ls ad G)) : StR y F A qa.2.2 (fun L a g => mP_line_ y L a g F A nl o q0 wh) (fun r6 u6 => FinR y df qa n (fun v => v.toInt64) r5 r6 u6) u5 := by
  obtain ⟨f1, f3, f14, f21, f26, f32, hCh, hln, hUR, hMv, hBl, hnl, hbil⟩ := id hM
  have hw2 : ∀ {x : Int32}, (x.toInt < 0 ∨ 2 < x.toInt) → ¬ (0 ≤ x ∧ x ≤ 2) := fun {x} h h2 => by
    have a1 := Int32.le_iff_toInt_le.mp h2.1
    have a2 := Int32.le_iff_toInt_le.mp h2.2
    have b1 : (0 : Int32).toInt = 0 := by decide
    have b2 : (2 : Int32).toInt = 2 := by decide
    omega
  rcases hw with ⟨rfl, v, L, a, g, ⟨⟨ho, k0, hk0, eo, ec, hv⟩, rfl, rfl, rfl⟩, h70, -, rfl⟩ | ⟨hp, rfl, rfl⟩ | ⟨hp, rfl, rfl⟩
  · refine ⟨Ls, ad, _, rfl, hC.2.2.2.2.2.2.2.2.2.2.2.2.2.2.2.2.2.2.2, out_M hMo, ?_⟩
    rintro r6 u6 (⟨hn, -⟩ | ⟨-, hn, -⟩ | ⟨-, -, hn, -⟩ | ⟨-, -, k1, hk1, eo1, ec1, hr, g2, rfl, hm, hf⟩)
    · exact absurd ho hn
    · exact absurd ec (hn k0 hk0 eo)
    · exfalso
      rcases hv with ⟨rfl, -⟩ | ⟨rfl, -⟩ | ⟨rfl, -⟩ <;> exact hn ⟨by decide, by decide⟩
    · obtain rfl : k0 = k1 := cnt_one (by omega) (by omega) eo eo1 (ec.trans ec1.symm)
      refine fin_same (out_CR hC) hM (out_O h70) hm hf rfl (fun _ => (out_v _ _).trans ?_)
      have hvr : v = r6 := by
        rcases hv with ⟨rfl, rfl⟩ | ⟨rfl, rfl⟩ | ⟨rfl, hv⟩
        · rcases hr with ⟨-, h⟩ | ⟨h, -⟩ | ⟨h, -⟩
          · exact h.symm
          · exact absurd h (by decide)
          · exact absurd rfl h
        · rcases hr with ⟨h, -⟩ | ⟨-, h⟩ | ⟨-, h, -⟩
          · exact absurd h (by decide)
          · exact h.symm
          · exact absurd rfl h
        · rcases hr with ⟨h, -⟩ | ⟨h, -⟩ | ⟨-, -, hr⟩
          · exact absurd h (by decide)
          · exact absurd h (by decide)
          · rcases hv with ⟨h1, rfl⟩ | ⟨h1, rfl⟩ <;> rcases hr with ⟨h2, h⟩ | ⟨h2, h⟩
            · exact h.symm
            · exact absurd h1 h2
            · exact absurd h2 h1
            · exact h.symm
      rw [hvr]
  · rcases hp with ⟨h, -⟩ | ⟨-, ho, hn⟩ | ⟨h, -⟩
    · exact absurd h (by decide)
    · refine ⟨Ls, ad, G, rfl, hC.2.2.2.2.2.2.2.2.2.2.2.2.2.2.2.2.2.2.2, hMo, ?_⟩
      rintro r6 u6 (⟨h, -⟩ | ⟨-, -, g2, rfl, hm, hf⟩ | ⟨-, ⟨k1, h1, h2, h3⟩, -⟩ | ⟨-, -, k1, h1, h2, h3, -⟩)
      · exact absurd ho h
      · exact fin_same hC hM hOu hm hf rfl (fun h => absurd h (by decide))
      · exact absurd h3 (hn k1 h1 h2)
      · exact absurd h3 (hn k1 h1 h2)
    · exact absurd h (by decide)
  · refine ⟨Ls, ad, G, rfl, hC.2.2.2.2.2.2.2.2.2.2.2.2.2.2.2.2.2.2.2, hMo, ?_⟩
    rcases hp with ⟨-, hn⟩ | ⟨h, -⟩ | ⟨-, ho, hwh, k1, h1, h2, h3⟩
    · rintro r6 u6 (⟨-, g2, rfl, hm, hf⟩ | ⟨h, -⟩ | ⟨h, -⟩ | ⟨h, -⟩)
      · exact fin_same hC hM hOu hm hf rfl (fun h => absurd h (by decide))
      · exact absurd h hn
      · exact absurd h hn
      · exact absurd h hn
    · exact absurd h (by decide)
    · rintro r6 u6 (⟨h, -⟩ | ⟨-, hn, -⟩ | ⟨-, -, -, g2, rfl, hm, hf⟩ | ⟨-, hn, -⟩)
      · exact absurd ho h
      · exact absurd h3 (hn k1 h1 h2)
      · exact fin_same hC hM hOu hm hf rfl (fun h => absurd h (by decide))
      · exact absurd hn (hw2 hwh)

theorem hp_at (hOu : OutAt y Ls G lo) {a0 : Int32} : ∀ r u, cP_at Ls ad G (A 33) pn a0 r u → ∃ L a g, u = wl L a g ∧ 70 ∈ L ∧ a 70 = ad 70 ∧ g 70 = G 70 ∧ (fun v L a g => (∃ i, i < pn ∧ a0 = nI i ∧ v = A 33 i) ∧ Ls = L ∧ ad = a ∧ G = g) r L a g := fun r u ⟨h1, h3⟩ => ⟨Ls, ad, G, h3, hOu.1, rfl, rfl, h1, rfl, rfl, rfl⟩
theorem st_at (hC : CR y df qa Ls ad G ch dr st ha mi dO dD dP nd li ow (A 2) len nu uo uf ul ug ut uk ud nm (A 22) (A 23) (A 24) (A 25) nl (A 27) (A 28) (A 29) (A 30) (A 33) pn) (hM : MR n F A st ha mi dO dD dP nd li ow len ln nu uo uf ul ug ut uk ud nm nl pn) (hMo : ModelAt y Ls ad G F A) (hOu : OutAt y Ls G lo) {a0 : Int32} {r5 : Int32} {u5 : va_W} (hw : wRet y ad lo (fun v L a g => (∃ i, i < pn ∧ a0 = nI i ∧ v = A 33 i) ∧ Ls = L ∧ ad = a ∧ G = g) (fun v => v.toInt64) r5 u5 ∨ (cX_at pn a0 5 ∧ r5 = 1 ∧ u5 = wl Ls ad G)) : StR y F A qa.2.2 (fun L a g => mP_at y L a g F A pn a0) (fun r6 u6 => FinR y df qa n (fun v => v.toInt64) r5 r6 u6) u5 := by
  obtain ⟨f1, f3, f14, f21, f26, f32, hCh, hln, hUR, hMv, hBl, hnl, hbil⟩ := id hM
  have hpn : pn ≤ 8192 := hC.2.2.2.2.2.2.2.2.1.2.2.2.2
  rcases hw with ⟨rfl, v, L, a, g, ⟨⟨i, hi, rfl, rfl⟩, rfl, rfl, rfl⟩, h70, -, rfl⟩ | ⟨hp, rfl, rfl⟩
  · refine ⟨Ls, ad, _, rfl, hC.2.2.2.2.2.2.2.2.2.2.2.2.2.2.2.2.2.2.2, out_M hMo, ?_⟩
    rintro r6 u6 (⟨hn, -⟩ | ⟨i1, hi1, e1, rfl, g2, rfl, hm, hf⟩)
    · exact absurd (len_in hi (by omega)) hn
    · obtain rfl : i = i1 := (nI_eq (by omega) (by omega)).mp e1
      exact fin_same (out_CR hC) hM (out_O h70) hm hf rfl (fun _ => out_v _ _)
  · refine ⟨Ls, ad, G, rfl, hC.2.2.2.2.2.2.2.2.2.2.2.2.2.2.2.2.2.2.2, hMo, ?_⟩
    rintro r6 u6 (⟨hn, g2, rfl, hm, hf⟩ | ⟨i1, hi1, rfl, -⟩)
    · exact fin_same hC hM hOu hm hf rfl (fun h => absurd h (by decide))
    · exact absurd (len_in hi1 (by omega)) hp.2

theorem hp_sign (hOu : OutAt y Ls G lo) {p0 : Int32} : ∀ r u, cP_sign y Ls ad G (A 2) len 0 p0 r u → ∃ L a g, u = wl L a g ∧ 70 ∈ L ∧ a 70 = ad 70 ∧ g 70 = G 70 ∧ (fun v L a g => inR p0 255 ∧ len < 400 ∧ v = nI (len + 1) ∧ Ls = L ∧ ad = a ∧ TextAt y Ls ad g (upd (A 2) len p0) (len + 1) 0 ∧ ∀ j, j ≠ 1 → j ≠ 2 → g j = G j) r L a g := fun r u ⟨h1, h2, h3, g, h4, h5, h6⟩ => ⟨Ls, ad, g, h4, hOu.1, rfl, h6 70 (by decide) (by decide), h1, h2, h3, rfl, rfl, h5, h6⟩
theorem st_sign (hC : CR y df qa Ls ad G ch dr st ha mi dO dD dP nd li ow (A 2) len nu uo uf ul ug ut uk ud nm (A 22) (A 23) (A 24) (A 25) nl (A 27) (A 28) (A 29) (A 30) (A 33) pn) (hM : MR n F A st ha mi dO dD dP nd li ow len ln nu uo uf ul ug ut uk ud nm nl pn) (hMo : ModelAt y Ls ad G F A) (hOu : OutAt y Ls G lo) {p0 : Int32} {r5 : Int32} {u5 : va_W} (hw : wRet y ad lo (fun v L a g => inR p0 255 ∧ len < 400 ∧ v = nI (len + 1) ∧ Ls = L ∧ ad = a ∧ TextAt y Ls ad g (upd (A 2) len p0) (len + 1) 0 ∧ ∀ j, j ≠ 1 → j ≠ 2 → g j = G j) (fun v => v.toInt64) r5 u5 ∨ (cX_sign len p0 0 ∧ r5 = 1 ∧ u5 = wl Ls ad G) ∨ (cX_sign len p0 1 ∧ r5 = 2 ∧ u5 = wl Ls ad G)) : StR y F A qa.2.2 (fun L a g => mP_sign y L a g F A len p0) (fun r6 u6 => FinR y df qa n (fun v => v.toInt64) r5 r6 u6) u5 := by
  obtain ⟨f1, f3, f14, f21, f26, f32, hCh, hln, hUR, hMv, hBl, hnl, hbil⟩ := id hM
  rcases hw with ⟨rfl, v, L, a, g, ⟨hi, hl, rfl, rfl, rfl, hT, hfr⟩, h70, -, rfl⟩ | ⟨hp, rfl, rfl⟩ | ⟨hp, rfl, rfl⟩
  · refine ⟨Ls, ad, _, rfl, hC.2.2.2.2.2.2.2.2.2.2.2.2.2.2.2.2.2.2.2, out_M (ModelAt_fr hMo (fun j h1 h2 => hfr j (by omega) (by omega))), ?_⟩
    rintro r6 u6 (⟨hn, -⟩ | ⟨-, hn, -⟩ | ⟨-, -, rfl, g2, rfl, hm, hf⟩)
    · exact absurd hi hn
    · omega
    · exact ⟨Ls, ad, g2, _, _, _, rfl, Rel_mk (A := va_up A 2 (upd (A 2) len p0)) (len := len + 1) (out_CR (CR_text hT hfr hC)) (out_O h70) hf hm ⟨rfl, f3, f14, f21, f26, f32, hCh, hln, hUR, hMv, hBl, by omega, hbil⟩, rfl, fun _ => out_v _ _⟩
  · rcases hp with ⟨-, hp⟩ | ⟨h, -⟩
    · refine ⟨Ls, ad, G, rfl, hC.2.2.2.2.2.2.2.2.2.2.2.2.2.2.2.2.2.2.2, hMo, ?_⟩
      rintro r6 u6 (⟨hn, g2, rfl, hm, hf⟩ | ⟨h, -⟩ | ⟨h, -⟩)
      · exact fin_same hC hM hOu hm hf rfl (fun h => absurd h (by decide))
      · exact absurd h hp
      · exact absurd h hp
    · exact absurd h (by decide)
  · rcases hp with ⟨h, -⟩ | ⟨-, hp, h4⟩
    · exact absurd h (by decide)
    · refine ⟨Ls, ad, G, rfl, hC.2.2.2.2.2.2.2.2.2.2.2.2.2.2.2.2.2.2.2, hMo, ?_⟩
      rintro r6 u6 (⟨hn, -⟩ | ⟨-, -, g2, rfl, hm, hf⟩ | ⟨-, h, -⟩)
      · exact absurd hp hn
      · exact fin_same hC hM hOu hm hf rfl (fun h => absurd h (by decide))
      · omega

theorem hp_print (hOu : OutAt y Ls G lo) {o : Int32} : ∀ r u, cP_print y Ls ad G nl (A 27) (A 28) (A 29) (A 30) (A 33) (zM (A 28)) (zC (A 29)) o r u → ∃ L a g, u = wl L a g ∧ 70 ∈ L ∧ a 70 = ad 70 ∧ g 70 = G 70 ∧ (fun v L a g => inR o 7 ∧ v = nI (prC (A 27) (A 28) (A 29) (A 30) (zM (A 28)) (zC (A 29)) o nl).length ∧ Ls = L ∧ ad = a ∧ PaperAt y Ls ad g (wrL (A 33) 0 (prC (A 27) (A 28) (A 29) (A 30) (zM (A 28)) (zC (A 29)) o nl)) (prC (A 27) (A 28) (A 29) (A 30) (zM (A 28)) (zC (A 29)) o nl).length ∧ ∀ j, j ≠ 30 → j ≠ 31 → g j = G j) r L a g := fun r u ⟨h1, h2, g, h3, h4, h5⟩ => ⟨Ls, ad, g, h3, hOu.1, rfl, h5 70 (by decide) (by decide), h1, h2, rfl, rfl, h4, h5⟩
theorem st_print (hC : CR y df qa Ls ad G ch dr st ha mi dO dD dP nd li ow (A 2) len nu uo uf ul ug ut uk ud nm (A 22) (A 23) (A 24) (A 25) nl (A 27) (A 28) (A 29) (A 30) (A 33) pn) (hM : MR n F A st ha mi dO dD dP nd li ow len ln nu uo uf ul ug ut uk ud nm nl pn) (hMo : ModelAt y Ls ad G F A) (hOu : OutAt y Ls G lo) {o : Int32} {r5 : Int32} {u5 : va_W} (hw : wRet y ad lo (fun v L a g => inR o 7 ∧ v = nI (prC (A 27) (A 28) (A 29) (A 30) (zM (A 28)) (zC (A 29)) o nl).length ∧ Ls = L ∧ ad = a ∧ PaperAt y Ls ad g (wrL (A 33) 0 (prC (A 27) (A 28) (A 29) (A 30) (zM (A 28)) (zC (A 29)) o nl)) (prC (A 27) (A 28) (A 29) (A 30) (zM (A 28)) (zC (A 29)) o nl).length ∧ ∀ j, j ≠ 30 → j ≠ 31 → g j = G j) (fun v => v.toInt64) r5 u5 ∨ (cX_print o 0 ∧ r5 = 1 ∧ u5 = wl Ls ad G)) : StR y F A qa.2.2 (fun L a g => mP_print y L a g F A nl (zM (A 28)) (zC (A 29)) o) (fun r6 u6 => FinR y df qa n (fun v => v.toInt64) r5 r6 u6) u5 := by
  obtain ⟨f1, f3, f14, f21, f26, f32, hCh, hln, hUR, hMv, hBl, hnl, hbil⟩ := id hM
  rcases hw with ⟨rfl, v, L, a, g, ⟨ho, rfl, rfl, rfl, hPa, hfr⟩, h70, -, rfl⟩ | ⟨hp, rfl, rfl⟩
  · refine ⟨Ls, ad, _, rfl, hC.2.2.2.2.2.2.2.2.2.2.2.2.2.2.2.2.2.2.2, out_M (ModelAt_fr hMo (fun j h1 h2 => hfr j (by omega) (by omega))), ?_⟩
    rintro r6 u6 (⟨hn, -⟩ | ⟨-, rfl, g2, rfl, hm, hf⟩)
    · exact absurd ho hn
    · exact ⟨Ls, ad, g2, _, _, _, rfl, Rel_mk (A := va_up A 33 (wrL (A 33) 0 (prC (A 27) (A 28) (A 29) (A 30) (zM (A 28)) (zC (A 29)) o nl))) (pn := (prC (A 27) (A 28) (A 29) (A 30) (zM (A 28)) (zC (A 29)) o nl).length) (out_CR (CR_paper hPa hfr hC)) (out_O h70) hf hm ⟨f1, f3, f14, f21, f26, rfl, hCh, hln, hUR, hMv, hBl, by omega, hbil⟩, rfl, fun _ => out_v _ _⟩
  · refine ⟨Ls, ad, G, rfl, hC.2.2.2.2.2.2.2.2.2.2.2.2.2.2.2.2.2.2.2, hMo, ?_⟩
    rintro r6 u6 (⟨hn, g2, rfl, hm, hf⟩ | ⟨ho, -⟩)
    · exact fin_same hC hM hOu hm hf rfl (fun h => absurd h (by decide))
    · exact absurd ho hp.2

theorem hp_unit (hOu : OutAt y Ls G lo) {o kd da : Int32} : ∀ r u, cP_unit y Ls ad G nu o kd da r u → ∃ L a g, u = wl L a g ∧ 70 ∈ L ∧ a 70 = ad 70 ∧ g 70 = G 70 ∧ (fun v L a g => (inR o 7 ∧ inR kd 4 ∧ inR da 3599) ∧ nu < 24 ∧ v = nI nu ∧ Ext Ls ad G L a g (fun k => k = 3 ∨ k = 4 ∨ (1000 + 3 * nu ≤ k ∧ k ≤ 1000 + 3 * nu + 2)) ∧ ListAt y L a g 3 (nu + 1) (fun i => a (1000 + 3 * i)) ∧ a 3 = ad 3 ∧ UnitAt y L a g (1000 + 3 * nu) o da 3599 0 1 (upd (fun _ => 0) 0 kd) (upd (fun _ => 0) 0 da)) r L a g := fun r u ⟨h1, h2, h3, L, a, g, h4, h5, h6, h7, h8⟩ => ⟨L, a, g, h4, h5.1 70 hOu.1, (h5.2.2 70 (show ¬ (70 = 3 ∨ 70 = 4 ∨ (1000 + 3 * nu ≤ 70 ∧ 70 ≤ 1000 + 3 * nu + 2)) by omega)).1, (h5.2.2 70 (show ¬ (70 = 3 ∨ 70 = 4 ∨ (1000 + 3 * nu ≤ 70 ∧ 70 ≤ 1000 + 3 * nu + 2)) by omega)).2, h1, h2, h3, h5, h6, h7, h8⟩
theorem st_unit (hC : CR y df qa Ls ad G ch dr st ha mi dO dD dP nd li ow (A 2) len nu uo uf ul ug ut uk ud nm (A 22) (A 23) (A 24) (A 25) nl (A 27) (A 28) (A 29) (A 30) (A 33) pn) (hM : MR n F A st ha mi dO dD dP nd li ow len ln nu uo uf ul ug ut uk ud nm nl pn) (hMo : ModelAt y Ls ad G F A) (hOu : OutAt y Ls G lo) {o kd da : Int32} {r5 : Int32} {u5 : va_W} (hw : wRet y ad lo (fun v L a g => (inR o 7 ∧ inR kd 4 ∧ inR da 3599) ∧ nu < 24 ∧ v = nI nu ∧ Ext Ls ad G L a g (fun k => k = 3 ∨ k = 4 ∨ (1000 + 3 * nu ≤ k ∧ k ≤ 1000 + 3 * nu + 2)) ∧ ListAt y L a g 3 (nu + 1) (fun i => a (1000 + 3 * i)) ∧ a 3 = ad 3 ∧ UnitAt y L a g (1000 + 3 * nu) o da 3599 0 1 (upd (fun _ => 0) 0 kd) (upd (fun _ => 0) 0 da)) (fun v => v.toInt64) r5 u5 ∨ (cX_unit nu o kd da 0 ∧ r5 = 1 ∧ u5 = wl Ls ad G) ∨ (cX_unit nu o kd da 1 ∧ r5 = 2 ∧ u5 = wl Ls ad G)) : StR y F A qa.2.2 (fun L a g => mP_unit y L a g F A nu o kd da) (fun r6 u6 => FinR y df qa n (fun v => v.toInt64) r5 r6 u6) u5 := by
  obtain ⟨f1, f3, f14, f21, f26, f32, hCh, hln, hUR, hMv, hBl, hnl, hbil⟩ := id hM
  rcases hw with ⟨rfl, v, L, a, g, ⟨⟨ho, hk, hd0⟩, hn, rfl, hx, hL, e3, hU⟩, h70, -, rfl⟩ | ⟨hp, rfl, rfl⟩ | ⟨hp, rfl, rfl⟩
  · obtain ⟨d, hd, rfl⟩ := in_nI (n := 3599) rfl hd0
    refine ⟨L, a, _, rfl, (hx.2.2 100 (show ¬ (100 = 3 ∨ 100 = 4 ∨ (1000 + 3 * nu ≤ 100 ∧ 100 ≤ 1000 + 3 * nu + 2)) by omega)).1.trans hC.2.2.2.2.2.2.2.2.2.2.2.2.2.2.2.2.2.2.2, out_M (ModelAt_sm (fun k h1 h2 => Ext_sm hx (show ¬ (k = 3 ∨ k = 4 ∨ (1000 + 3 * nu ≤ k ∧ k ≤ 1000 + 3 * nu + 2)) by omega)) hMo), ?_⟩
    rintro r6 u6 (⟨h, -⟩ | ⟨-, h, -⟩ | ⟨-, -, rfl, g2, rfl, hm, hf⟩)
    · exact absurd ⟨ho, hk, hd0⟩ h
    · omega
    · exact ⟨L, a, g2, _, _, _, rfl, Rel_mk (A := (va_up (va_up (va_up (va_up (va_up (va_up A 15 (upd (A 15) nu o)) 16 (upd (A 16) nu (nI d))) 17 (upd (A 17) nu 100000)) 18 (upd (A 18) nu 1)) 19 (upd (A 19) (9 * nu) (nI d))) 20 (upd (A 20) (9 * nu) kd))) (nu := nu + 1) (out_CR (CR_unit (by omega) rfl hn hx hL e3 hU hC)) (out_O h70) hf hm ⟨f1, f3, rfl, f21, f26, f32, hCh, hln, UR_unit hUR ho hk (by omega) rfl rfl rfl rfl rfl rfl, hMv, hBl, by omega, hbil⟩, rfl, fun _ => out_v _ _⟩
  · rcases hp with ⟨-, hp⟩ | ⟨h, -⟩
    · refine ⟨Ls, ad, G, rfl, hC.2.2.2.2.2.2.2.2.2.2.2.2.2.2.2.2.2.2.2, hMo, ?_⟩
      rintro r6 u6 (⟨hn, g2, rfl, hm, hf⟩ | ⟨h, -⟩ | ⟨h, -⟩)
      · exact fin_same hC hM hOu hm hf rfl (fun h => absurd h (by decide))
      · exact absurd h hp
      · exact absurd h hp
    · exact absurd h (by decide)
  · rcases hp with ⟨h, -⟩ | ⟨-, hp, h4⟩
    · exact absurd h (by decide)
    · refine ⟨Ls, ad, G, rfl, hC.2.2.2.2.2.2.2.2.2.2.2.2.2.2.2.2.2.2.2, hMo, ?_⟩
      rintro r6 u6 (⟨hn, -⟩ | ⟨-, -, g2, rfl, hm, hf⟩ | ⟨-, h, -⟩)
      · exact absurd hp hn
      · exact fin_same hC hM hOu hm hf rfl (fun h => absurd h (by decide))
      · omega

theorem ur_last {i : Nat} (hU : UR A nu uo uf ul ug ut uk ud) (hi : i < nu) : (A 17 i = 100000 ↔ ug i = 0) ∧ A 19 (9 * i + ut i - 1) = ud i (ut i - 1) ∧ A 20 (9 * i + ut i - 1) = uk i (ut i - 1) ∧ A 16 i = nI (uf i) ∧ nI (uf i) ≤ ud i (ut i - 1) ∧ uf i < 3600 ∧ ul i < 3600 := by
  obtain ⟨h1, h2, h3, h4, h5, h6, h7, h8, h9, h10, h11⟩ := hU i hi
  obtain ⟨q1, q2, -, -, q3⟩ := h11 (ut i - 1) (by omega)
  rw [show 9 * i + ut i - 1 = 9 * i + (ut i - 1) by omega]
  refine ⟨?_, q1, q2, h3, q3, h4, h5⟩
  rcases h6 with ⟨a, b, -⟩ | ⟨a, b⟩
  · rw [a, b]; exact ⟨fun _ => rfl, fun _ => rfl⟩
  · rw [a, b, show (100000 : Int32) = nI 100000 from rfl, nI_eq (by omega) (by decide)]
    exact ⟨fun h => by omega, fun h => absurd h (by decide)⟩
theorem nu_in {i : Nat} (hi : i < nu) (h : nu ≤ 24) : inR (nI i) (nI nu - 1) := len_in hi (by omega)
theorem i_inj {i j : Nat} (hi : i < nu) (hj : j < nu) (h : nu ≤ 24) (e : nI i = nI j) : i = j := (nI_eq (by omega) (by omega)).mp e

theorem hp_change (hOu : OutAt y Ls G lo) (hnu : nu ≤ 24) {a0 kd da : Int32} : ∀ r u, cP_change y Ls ad G nu uo uf ul ug ut uk ud a0 kd da r u → ∃ L a g, u = wl L a g ∧ 70 ∈ L ∧ a 70 = ad 70 ∧ g 70 = G 70 ∧ (fun v L a g => ∃ i, i < nu ∧ a0 = nI i ∧ (inR kd 4 ∧ inR da 3599) ∧ (ug i = 0 ∧ ud i (ut i - 1) ≤ da) ∧ ut i < 9 ∧ ((v = 0 ∧ uk i (ut i - 1) = kd) ∨ (v = 1 ∧ ¬ uk i (ut i - 1) = kd)) ∧ Ls = L ∧ ad = a ∧ UnitAt y Ls ad g (1000 + 3 * i) (uo i) (nI (uf i)) (nI (ul i)) (ug i) (ut i + 1) (upd (uk i) (ut i) kd) (upd (ud i) (ut i) da) ∧ ∀ j, (j < 1000 + 3 * i ∨ 1000 + 3 * i + 2 < j) → g j = G j) r L a g := fun r u ⟨i, h1, h2, h3, h4, h5, h6, g, h7, h8, h9⟩ => ⟨Ls, ad, g, h7, hOu.1, rfl, h9 70 (by omega), i, h1, h2, h3, h4, h5, h6, rfl, rfl, h8, h9⟩
theorem st_change (hC : CR y df qa Ls ad G ch dr st ha mi dO dD dP nd li ow (A 2) len nu uo uf ul ug ut uk ud nm (A 22) (A 23) (A 24) (A 25) nl (A 27) (A 28) (A 29) (A 30) (A 33) pn) (hM : MR n F A st ha mi dO dD dP nd li ow len ln nu uo uf ul ug ut uk ud nm nl pn) (hMo : ModelAt y Ls ad G F A) (hOu : OutAt y Ls G lo) {a0 kd da : Int32} {r5 : Int32} {u5 : va_W} (hw : wRet y ad lo (fun v L a g => ∃ i, i < nu ∧ a0 = nI i ∧ (inR kd 4 ∧ inR da 3599) ∧ (ug i = 0 ∧ ud i (ut i - 1) ≤ da) ∧ ut i < 9 ∧ ((v = 0 ∧ uk i (ut i - 1) = kd) ∨ (v = 1 ∧ ¬ uk i (ut i - 1) = kd)) ∧ Ls = L ∧ ad = a ∧ UnitAt y Ls ad g (1000 + 3 * i) (uo i) (nI (uf i)) (nI (ul i)) (ug i) (ut i + 1) (upd (uk i) (ut i) kd) (upd (ud i) (ut i) da) ∧ ∀ j, (j < 1000 + 3 * i ∨ 1000 + 3 * i + 2 < j) → g j = G j) (fun v => if v = 0 then 0 else 1) r5 u5 ∨ (cX_change nu ug ut ud a0 kd da 2 ∧ r5 = 1 ∧ u5 = wl Ls ad G) ∨ (cX_change nu ug ut ud a0 kd da 0 ∧ r5 = 2 ∧ u5 = wl Ls ad G) ∨ (cX_change nu ug ut ud a0 kd da 3 ∧ r5 = 3 ∧ u5 = wl Ls ad G) ∨ (cX_change nu ug ut ud a0 kd da 1 ∧ r5 = 4 ∧ u5 = wl Ls ad G)) : StR y F A qa.2.2 (fun L a g => mP_change y L a g F A nu ut a0 kd da) (fun r6 u6 => FinR y df qa n (fun v => if v = 0 then 0 else 1) r5 r6 u6) u5 := by
  obtain ⟨f1, f3, f14, f21, f26, f32, hCh, hln, hUR, hMv, hBl, hnl, hbil⟩ := id hM
  have hnu : nu ≤ 24 := hC.2.2.2.2.2.2.2.2.2.2.2.2.2.2.2.1
  rcases hw with ⟨rfl, v, L, a, g, ⟨i, hi, rfl, hr, hok, ht, hv, rfl, rfl, hU, hfr⟩, h70, -, rfl⟩ | ⟨hp, rfl, rfl⟩ | ⟨hp, rfl, rfl⟩ | ⟨hp, rfl, rfl⟩ | ⟨hp, rfl, rfl⟩
  · refine ⟨Ls, ad, _, rfl, hC.2.2.2.2.2.2.2.2.2.2.2.2.2.2.2.2.2.2.2, out_M (ModelAt_fr hMo (fun j h1 h2 => hfr j (by omega))), ?_⟩
    obtain ⟨q1, q2, q3, -, -, -, q7⟩ := ur_last hUR hi
    rintro r6 u6 (⟨h, -⟩ | ⟨-, h, -⟩ | ⟨i1, hi1, e1, -, (⟨hl, -⟩ | ⟨-, h9, -⟩ | ⟨-, -, hr6, g2, rfl, hm, hf⟩)⟩)
    · exact absurd (nu_in hi hnu) h
    · exact absurd hr h
    · obtain rfl := i_inj hi hi1 hnu e1
      exfalso
      rw [q1, q2] at hl
      rcases hl with h | h
      · exact h hok.1
      · exact Int32.not_lt.mpr hok.2 h
    · obtain rfl := i_inj hi hi1 hnu e1
      omega
    · obtain rfl := i_inj hi hi1 hnu e1
      rw [q3] at hr6
      refine ⟨Ls, ad, g2, _, _, _, rfl, Rel_mk (A := (va_up (va_up (va_up A 18 (upd (A 18) i (nI (ut i + 1)))) 19 (upd (A 19) (9 * i + ut i) da)) 20 (upd (A 20) (9 * i + ut i) kd))) (out_CR (CR_unit1 hi q7 hU hfr hC)) (out_O h70) hf hm ⟨f1, f3, f14, f21, f26, f32, hCh, hln, UR_change hUR hi ht hr.1 hr.2 hok.2 rfl rfl rfl rfl rfl rfl, hMv, hBl, by omega, hbil⟩, rfl, fun _ => (out_v _ _).trans ?_⟩
      rcases hv with ⟨rfl, h1⟩ | ⟨rfl, h1⟩ <;> rcases hr6 with ⟨rfl, h2⟩ | ⟨rfl, h2⟩
      · rfl
      · exact absurd h1 h2
      · exact absurd h2 h1
      · rfl
  · rcases hp with ⟨-, hp⟩ | ⟨h, -⟩ | ⟨h, -⟩ | ⟨h, -⟩
    · refine ⟨Ls, ad, G, rfl, hC.2.2.2.2.2.2.2.2.2.2.2.2.2.2.2.2.2.2.2, hMo, ?_⟩
      rintro r6 u6 (⟨hn, g2, rfl, hm, hf⟩ | ⟨h, -⟩ | ⟨i1, hi1, rfl, -⟩)
      · exact fin_same hC hM hOu hm hf rfl (fun h => absurd h (by decide))
      · exact absurd h hp
      · exact absurd (nu_in hi1 hnu) hp
    · exact absurd h (by decide)
    · exact absurd h (by decide)
    · exact absurd h (by decide)
  · rcases hp with ⟨h, -⟩ | ⟨-, hp, hp2⟩ | ⟨h, -⟩ | ⟨h, -⟩
    · exact absurd h (by decide)
    · refine ⟨Ls, ad, G, rfl, hC.2.2.2.2.2.2.2.2.2.2.2.2.2.2.2.2.2.2.2, hMo, ?_⟩
      rintro r6 u6 (⟨h, -⟩ | ⟨-, -, g2, rfl, hm, hf⟩ | ⟨i1, hi1, -, h, -⟩)
      · exact absurd hp h
      · exact fin_same hC hM hOu hm hf rfl (fun h => absurd h (by decide))
      · exact absurd h hp2
    · exact absurd h (by decide)
    · exact absurd h (by decide)
  · rcases hp with ⟨h, -⟩ | ⟨h, -⟩ | ⟨-, i, hi, rfl, hr, hlate⟩ | ⟨h, -⟩
    · exact absurd h (by decide)
    · exact absurd h (by decide)
    · refine ⟨Ls, ad, G, rfl, hC.2.2.2.2.2.2.2.2.2.2.2.2.2.2.2.2.2.2.2, hMo, ?_⟩
      obtain ⟨q1, q2, q3, -⟩ := ur_last hUR hi
      rintro r6 u6 (⟨h, -⟩ | ⟨-, h, -⟩ | ⟨i1, hi1, e1, -, (⟨-, g2, rfl, hm, hf⟩ | ⟨hok, -⟩ | ⟨hok, -⟩)⟩)
      · exact absurd (nu_in hi hnu) h
      · exact absurd hr h
      · exact fin_same hC hM hOu hm hf rfl (fun h => absurd h (by decide))
      · obtain rfl := i_inj hi hi1 hnu e1
        exfalso
        rw [q1, q2] at hok
        rcases hlate with h | h
        · exact h hok.1
        · exact Int32.not_lt.mpr hok.2 h
      · obtain rfl := i_inj hi hi1 hnu e1
        exfalso
        rw [q1, q2] at hok
        rcases hlate with h | h
        · exact h hok.1
        · exact Int32.not_lt.mpr hok.2 h
    · exact absurd h (by decide)
  · rcases hp with ⟨h, -⟩ | ⟨h, -⟩ | ⟨h, -⟩ | ⟨-, i, hi, rfl, hr, hok, h9⟩
    · exact absurd h (by decide)
    · exact absurd h (by decide)
    · exact absurd h (by decide)
    · refine ⟨Ls, ad, G, rfl, hC.2.2.2.2.2.2.2.2.2.2.2.2.2.2.2.2.2.2.2, hMo, ?_⟩
      obtain ⟨q1, q2, q3, -⟩ := ur_last hUR hi
      rintro r6 u6 (⟨h, -⟩ | ⟨-, h, -⟩ | ⟨i1, hi1, e1, -, (⟨hl, -⟩ | ⟨-, -, g2, rfl, hm, hf⟩ | ⟨-, h, -⟩)⟩)
      · exact absurd (nu_in hi hnu) h
      · exact absurd hr h
      · obtain rfl := i_inj hi hi1 hnu e1
        exfalso
        rw [q1, q2] at hl
        rcases hl with h | h
        · exact h hok.1
        · exact Int32.not_lt.mpr hok.2 h
      · exact fin_same hC hM hOu hm hf rfl (fun h => absurd h (by decide))
      · obtain rfl := i_inj hi hi1 hnu e1
        omega

theorem hp_gone (hOu : OutAt y Ls G lo) (hnu : nu ≤ 24) {a0 da : Int32} : ∀ r u, cP_gone y Ls ad G nu uo uf ug ut uk ud a0 da r u → ∃ L a g, u = wl L a g ∧ 70 ∈ L ∧ a 70 = ad 70 ∧ g 70 = G 70 ∧ (fun v L a g => ∃ i, i < nu ∧ a0 = nI i ∧ inR da 3599 ∧ (ug i = 0 ∧ ud i (ut i - 1) ≤ da) ∧ v = mxI 0 (mnI 3599 da - mxI 0 (nI (uf i)) + 1) ∧ Ls = L ∧ ad = a ∧ UnitAt y Ls ad g (1000 + 3 * i) (uo i) (nI (uf i)) da 1 (ut i) (uk i) (ud i) ∧ ∀ j, (j < 1000 + 3 * i ∨ 1000 + 3 * i + 2 < j) → g j = G j) r L a g := fun r u ⟨i, h1, h2, h3, h4, h5, g, h7, h8, h9⟩ => ⟨Ls, ad, g, h7, hOu.1, rfl, h9 70 (by omega), i, h1, h2, h3, h4, h5, rfl, rfl, h8, h9⟩
theorem st_gone (hC : CR y df qa Ls ad G ch dr st ha mi dO dD dP nd li ow (A 2) len nu uo uf ul ug ut uk ud nm (A 22) (A 23) (A 24) (A 25) nl (A 27) (A 28) (A 29) (A 30) (A 33) pn) (hM : MR n F A st ha mi dO dD dP nd li ow len ln nu uo uf ul ug ut uk ud nm nl pn) (hMo : ModelAt y Ls ad G F A) (hOu : OutAt y Ls G lo) {a0 da : Int32} {r5 : Int32} {u5 : va_W} (hw : wRet y ad lo (fun v L a g => ∃ i, i < nu ∧ a0 = nI i ∧ inR da 3599 ∧ (ug i = 0 ∧ ud i (ut i - 1) ≤ da) ∧ v = mxI 0 (mnI 3599 da - mxI 0 (nI (uf i)) + 1) ∧ Ls = L ∧ ad = a ∧ UnitAt y Ls ad g (1000 + 3 * i) (uo i) (nI (uf i)) da 1 (ut i) (uk i) (ud i) ∧ ∀ j, (j < 1000 + 3 * i ∨ 1000 + 3 * i + 2 < j) → g j = G j) (fun v => v.toInt64) r5 u5 ∨ (cX_gone nu ug ut ud a0 da 2 ∧ r5 = 1 ∧ u5 = wl Ls ad G) ∨ (cX_gone nu ug ut ud a0 da 0 ∧ r5 = 2 ∧ u5 = wl Ls ad G) ∨ (cX_gone nu ug ut ud a0 da 3 ∧ r5 = 3 ∧ u5 = wl Ls ad G)) : StR y F A qa.2.2 (fun L a g => mP_gone y L a g F A nu ut a0 da) (fun r6 u6 => FinR y df qa n (fun v => v.toInt64) r5 r6 u6) u5 := by
  obtain ⟨f1, f3, f14, f21, f26, f32, hCh, hln, hUR, hMv, hBl, hnl, hbil⟩ := id hM
  have hnu : nu ≤ 24 := hC.2.2.2.2.2.2.2.2.2.2.2.2.2.2.2.1
  rcases hw with ⟨rfl, v, L, a, g, ⟨i, hi, rfl, hr, hok, rfl, rfl, rfl, hU, hfr⟩, h70, -, rfl⟩ | ⟨hp, rfl, rfl⟩ | ⟨hp, rfl, rfl⟩ | ⟨hp, rfl, rfl⟩
  · refine ⟨Ls, ad, _, rfl, hC.2.2.2.2.2.2.2.2.2.2.2.2.2.2.2.2.2.2.2, out_M (ModelAt_fr hMo (fun j h1 h2 => hfr j (by omega))), ?_⟩
    obtain ⟨q1, q2, q3, q4, q5, q6, q7⟩ := ur_last hUR hi
    rintro r6 u6 (⟨h, -⟩ | ⟨-, h, -⟩ | ⟨i1, hi1, e1, -, (⟨hl, -⟩ | ⟨-, rfl, g2, rfl, hm, hf⟩)⟩)
    · exact absurd (nu_in hi hnu) h
    · exact absurd hr h
    · obtain rfl := i_inj hi hi1 hnu e1
      exfalso
      rw [q1, q2] at hl
      rcases hl with h | h
      · exact h hok.1
      · exact Int32.not_lt.mpr hok.2 h
    · obtain rfl := i_inj hi hi1 hnu e1
      obtain ⟨d, hd, rfl⟩ := in_nI (n := 3599) rfl hr
      have hfd : uf i ≤ d := (nI_leI (by omega) (by omega)).mp (Int32.le_trans q5 hok.2)
      refine ⟨Ls, ad, g2, _, _, _, rfl, Rel_mk (A := va_up A 17 (upd (A 17) i (nI d))) (out_CR (CR_unit1 hi (by omega) hU hfr hC)) (out_O h70) hf hm ⟨f1, f3, f14, f21, f26, f32, hCh, hln, UR_gone hUR hi (by omega) rfl rfl rfl rfl rfl rfl, hMv, hBl, by omega, hbil⟩, rfl, fun _ => (out_v _ _).trans ?_⟩
      rw [gone_eq hd hfd, q4]
  · rcases hp with ⟨-, hp⟩ | ⟨h, -⟩ | ⟨h, -⟩
    · refine ⟨Ls, ad, G, rfl, hC.2.2.2.2.2.2.2.2.2.2.2.2.2.2.2.2.2.2.2, hMo, ?_⟩
      rintro r6 u6 (⟨hn, g2, rfl, hm, hf⟩ | ⟨h, -⟩ | ⟨i1, hi1, rfl, -⟩)
      · exact fin_same hC hM hOu hm hf rfl (fun h => absurd h (by decide))
      · exact absurd h hp
      · exact absurd (nu_in hi1 hnu) hp
    · exact absurd h (by decide)
    · exact absurd h (by decide)
  · rcases hp with ⟨h, -⟩ | ⟨-, hp, hp2⟩ | ⟨h, -⟩
    · exact absurd h (by decide)
    · refine ⟨Ls, ad, G, rfl, hC.2.2.2.2.2.2.2.2.2.2.2.2.2.2.2.2.2.2.2, hMo, ?_⟩
      rintro r6 u6 (⟨h, -⟩ | ⟨-, -, g2, rfl, hm, hf⟩ | ⟨i1, hi1, -, h, -⟩)
      · exact absurd hp h
      · exact fin_same hC hM hOu hm hf rfl (fun h => absurd h (by decide))
      · exact absurd h hp2
    · exact absurd h (by decide)
  · rcases hp with ⟨h, -⟩ | ⟨h, -⟩ | ⟨-, i, hi, rfl, hr, hlate⟩
    · exact absurd h (by decide)
    · exact absurd h (by decide)
    · refine ⟨Ls, ad, G, rfl, hC.2.2.2.2.2.2.2.2.2.2.2.2.2.2.2.2.2.2.2, hMo, ?_⟩
      obtain ⟨q1, q2, q3, -⟩ := ur_last hUR hi
      rintro r6 u6 (⟨h, -⟩ | ⟨-, h, -⟩ | ⟨i1, hi1, e1, -, (⟨-, g2, rfl, hm, hf⟩ | ⟨hok, -⟩)⟩)
      · exact absurd (nu_in hi hnu) h
      · exact absurd hr h
      · exact fin_same hC hM hOu hm hf rfl (fun h => absurd h (by decide))
      · obtain rfl := i_inj hi hi1 hnu e1
        exfalso
        rw [q1, q2] at hok
        rcases hlate with h | h
        · exact h hok.1
        · exact Int32.not_lt.mpr hok.2 h

theorem hp_move (hOu : OutAt y Ls G lo) {o kd da pc0 : Int32} : ∀ r u, cP_move y Ls ad G nm (A 22) (A 23) (A 24) (A 25) o kd da pc0 r u → ∃ L a g, u = wl L a g ∧ 70 ∈ L ∧ a 70 = ad 70 ∧ g 70 = G 70 ∧ (fun v L a g => (inR o 7 ∧ inR kd 4 ∧ inR da 3599 ∧ (1 ≤ pc0 ∧ pc0 ≤ 100)) ∧ nm < 60 ∧ v = nI (cnt (upd (A 22) nm o) o (nm + 1)) ∧ Ext Ls ad G L a g (fun k => k = 5 ∨ k = 5 + 1 ∨ k = 2000 + nm) ∧ a 5 = ad 5 ∧ MovesAt y L a g (nm + 1) (upd (A 22) nm o) (upd (A 23) nm kd) (upd (A 24) nm da) (upd (A 25) nm pc0)) r L a g := fun r u ⟨h1, h2, h3, L, a, g, h4, h5, h6, h7⟩ => ⟨L, a, g, h4, h5.1 70 hOu.1, (h5.2.2 70 (show ¬ (70 = 5 ∨ 70 = 5 + 1 ∨ 70 = 2000 + nm) by omega)).1, (h5.2.2 70 (show ¬ (70 = 5 ∨ 70 = 5 + 1 ∨ 70 = 2000 + nm) by omega)).2, h1, h2, h3, h5, h6, h7⟩
theorem st_move (hC : CR y df qa Ls ad G ch dr st ha mi dO dD dP nd li ow (A 2) len nu uo uf ul ug ut uk ud nm (A 22) (A 23) (A 24) (A 25) nl (A 27) (A 28) (A 29) (A 30) (A 33) pn) (hM : MR n F A st ha mi dO dD dP nd li ow len ln nu uo uf ul ug ut uk ud nm nl pn) (hMo : ModelAt y Ls ad G F A) (hOu : OutAt y Ls G lo) {o kd da pc0 : Int32} {r5 : Int32} {u5 : va_W} (hw : wRet y ad lo (fun v L a g => (inR o 7 ∧ inR kd 4 ∧ inR da 3599 ∧ (1 ≤ pc0 ∧ pc0 ≤ 100)) ∧ nm < 60 ∧ v = nI (cnt (upd (A 22) nm o) o (nm + 1)) ∧ Ext Ls ad G L a g (fun k => k = 5 ∨ k = 5 + 1 ∨ k = 2000 + nm) ∧ a 5 = ad 5 ∧ MovesAt y L a g (nm + 1) (upd (A 22) nm o) (upd (A 23) nm kd) (upd (A 24) nm da) (upd (A 25) nm pc0)) (fun v => v.toInt64) r5 u5 ∨ (cX_move nm o kd da pc0 0 ∧ r5 = 1 ∧ u5 = wl Ls ad G) ∨ (cX_move nm o kd da pc0 1 ∧ r5 = 2 ∧ u5 = wl Ls ad G)) : StR y F A qa.2.2 (fun L a g => mP_move y L a g F A nm o kd da pc0) (fun r6 u6 => FinR y df qa n (fun v => v.toInt64) r5 r6 u6) u5 := by
  obtain ⟨f1, f3, f14, f21, f26, f32, hCh, hln, hUR, hMv, hBl, hnl, hbil⟩ := id hM
  rcases hw with ⟨rfl, v, L, a, g, ⟨hr, hn, rfl, hx, e5, hMs⟩, h70, -, rfl⟩ | ⟨hp, rfl, rfl⟩ | ⟨hp, rfl, rfl⟩
  · refine ⟨L, a, _, rfl, (hx.2.2 100 (show ¬ (100 = 5 ∨ 100 = 5 + 1 ∨ 100 = 2000 + nm) by omega)).1.trans hC.2.2.2.2.2.2.2.2.2.2.2.2.2.2.2.2.2.2.2, out_M (ModelAt_sm (fun k h1 h2 => Ext_sm hx (show ¬ (k = 5 ∨ k = 5 + 1 ∨ k = 2000 + nm) by omega)) hMo), ?_⟩
    rintro r6 u6 (⟨h, -⟩ | ⟨-, h, -⟩ | ⟨-, -, rfl, g2, rfl, hm, hf⟩)
    · exact absurd hr h
    · omega
    · exact ⟨L, a, g2, _, _, _, rfl, Rel_mk (A := (va_up (va_up (va_up (va_up A 22 (upd (A 22) nm o)) 23 (upd (A 23) nm kd)) 24 (upd (A 24) nm da)) 25 (upd (A 25) nm pc0))) (nm := nm + 1) (out_CR (CR_move hn hx e5 hMs hC)) (out_O h70) hf hm ⟨f1, f3, f14, rfl, f26, f32, hCh, hln, hUR, MvR_add hMv hr.2.1 hr.2.2.1 ⟨Int32.le_trans (by decide) hr.2.2.2.1, hr.2.2.2.2⟩, hBl, by omega, hbil⟩, rfl, fun _ => out_v _ _⟩
  · rcases hp with ⟨-, hp⟩ | ⟨h, -⟩
    · refine ⟨Ls, ad, G, rfl, hC.2.2.2.2.2.2.2.2.2.2.2.2.2.2.2.2.2.2.2, hMo, ?_⟩
      rintro r6 u6 (⟨hn, g2, rfl, hm, hf⟩ | ⟨h, -⟩ | ⟨h, -⟩)
      · exact fin_same hC hM hOu hm hf rfl (fun h => absurd h (by decide))
      · exact absurd h hp
      · exact absurd h hp
    · exact absurd h (by decide)
  · rcases hp with ⟨h, -⟩ | ⟨-, hp, h4⟩
    · exact absurd h (by decide)
    · refine ⟨Ls, ad, G, rfl, hC.2.2.2.2.2.2.2.2.2.2.2.2.2.2.2.2.2.2.2, hMo, ?_⟩
      rintro r6 u6 (⟨hn, -⟩ | ⟨-, -, g2, rfl, hm, hf⟩ | ⟨-, h, -⟩)
      · exact absurd hp hn
      · exact fin_same hC hM hOu hm hf rfl (fun h => absurd h (by decide))
      · omega

theorem bil_add {o9 m0 : Nat} {A31 bo bm : Nat → Int32} {nl : Nat} (ho : o9 < 8) (hm : m0 < 120) (h : ∀ o m, o < 8 → m < 120 → (A31 (120 * o + m) = 0 ↔ ¬ hasD bo bm (nI o) (nI m) nl)) : ∀ o m, o < 8 → m < 120 → (upd A31 (120 * o9 + m0) (vp_nar .boolean 1) (120 * o + m) = 0 ↔ ¬ hasD (upd bo nl (nI o9)) (upd bm nl (nI m0)) (nI o) (nI m) (nl + 1)) := by
  intro o m h1 h2
  rw [hasD_up]
  by_cases e : o = o9 ∧ m = m0
  · obtain ⟨rfl, rfl⟩ := e
    rw [pk_us]
    exact ⟨fun h => absurd h (by decide), fun h => absurd (Or.inr ⟨rfl, rfl⟩) h⟩
  · rw [pk_un (by omega), h o m h1 h2]
    refine ⟨fun h3 h4 => h4.elim h3 (fun h5 => e ⟨?_, ?_⟩), fun h3 h4 => h3 (Or.inl h4)⟩
    · exact ((nI_eq (by omega) (by omega)).mp h5.1).symm
    · exact ((nI_eq (by omega) (by omega)).mp h5.2).symm
theorem bil_same {o9 m0 : Nat} {A31 bo bm : Nat → Int32} {nl : Nat} (hd : hasD bo bm (nI o9) (nI m0) nl) (h : ∀ o m, o < 8 → m < 120 → (A31 (120 * o + m) = 0 ↔ ¬ hasD bo bm (nI o) (nI m) nl)) : ∀ o m, o < 8 → m < 120 → (A31 (120 * o + m) = 0 ↔ ¬ hasD (upd bo nl (nI o9)) (upd bm nl (nI m0)) (nI o) (nI m) (nl + 1)) := by
  intro o m h1 h2
  rw [hasD_up, h o m h1 h2]
  refine ⟨fun h3 h4 => h4.elim h3 (fun h5 => h3 (by rw [← h5.1, ← h5.2]; exact hd)), fun h3 h4 => h3 (Or.inl h4)⟩
theorem i_back (a b : Int32) : a + (b - a) = b := by rw [Int32.add_comm, Int32.sub_add_cancel]

theorem hp_bill (hOu : OutAt y Ls G lo) {o mo0 : Int32} : ∀ r u, cP_bill y Ls ad G st ha mi dO dD dP nd nu uo uf ul ut uk ud nm (A 22) (A 23) (A 24) (A 25) nl (A 27) (A 28) (A 29) (A 30) o mo0 r u → ∃ L a g, u = wl L a g ∧ 70 ∈ L ∧ a 70 = ad 70 ∧ g 70 = G 70 ∧ (fun v L a g => inR o 7 ∧ ¬ hasD (A 27) (A 28) o mo0 nl ∧ (∃ m0, m0 < 120 ∧ mo0 = nI m0 ∧ v = sumX st ha mi dO dD dP nd nu uo uf ul ut uk ud nm (A 22) (A 23) (A 24) (A 25) o o m0) ∧ Ext Ls ad G L a g (fun k => k = 8 ∨ k = 8 + 1 ∨ k = 3000 + nl) ∧ a 8 = ad 8 ∧ BillsAt y L a g (nl + 1) (upd (A 27) nl o) (upd (A 28) nl mo0) (upd (A 29) nl v) (upd (A 30) nl 0)) r L a g := fun r u ⟨h1, _, h2, h3, L, a, g, h4, h5, h6, h7⟩ => ⟨L, a, g, h4, h5.1 70 hOu.1, (h5.2.2 70 (show ¬ (70 = 8 ∨ 70 = 8 + 1 ∨ 70 = 3000 + nl) by omega)).1, (h5.2.2 70 (show ¬ (70 = 8 ∨ 70 = 8 + 1 ∨ 70 = 3000 + nl) by omega)).2, h1, h2, h3, h5, h6, h7⟩
theorem st_bill (hC : CR y df qa Ls ad G ch dr st ha mi dO dD dP nd li ow (A 2) len nu uo uf ul ug ut uk ud nm (A 22) (A 23) (A 24) (A 25) nl (A 27) (A 28) (A 29) (A 30) (A 33) pn) (hM : MR n F A st ha mi dO dD dP nd li ow len ln nu uo uf ul ug ut uk ud nm nl pn) (hMo : ModelAt y Ls ad G F A) (hOu : OutAt y Ls G lo) {o mo0 : Int32} {r5 : Int32} {u5 : va_W} (hw : wRet y ad lo (fun v L a g => inR o 7 ∧ ¬ hasD (A 27) (A 28) o mo0 nl ∧ (∃ m0, m0 < 120 ∧ mo0 = nI m0 ∧ v = sumX st ha mi dO dD dP nd nu uo uf ul ut uk ud nm (A 22) (A 23) (A 24) (A 25) o o m0) ∧ Ext Ls ad G L a g (fun k => k = 8 ∨ k = 8 + 1 ∨ k = 3000 + nl) ∧ a 8 = ad 8 ∧ BillsAt y L a g (nl + 1) (upd (A 27) nl o) (upd (A 28) nl mo0) (upd (A 29) nl v) (upd (A 30) nl 0)) (fun v => v.toInt64) r5 u5 ∨ (cX_bill nl (A 27) (A 28) o mo0 0 ∧ r5 = 1 ∧ u5 = wl Ls ad G) ∨ (cX_bill nl (A 27) (A 28) o mo0 3 ∧ r5 = 2 ∧ u5 = wl Ls ad G)) : StR y F A qa.2.2 (fun L a g => mP_bill y L a g F A nu ln nm ut nl o mo0) (fun r6 u6 => FinR y df qa n (fun v => v.toInt64) r5 r6 u6) u5 := by
  obtain ⟨f1, f3, f14, f21, f26, f32, hCh, hln, hUR, hMv, hBl, hnl, hbil⟩ := id hM
  have hnu : nu ≤ 24 := hC.2.2.2.2.2.2.2.2.2.2.2.2.2.2.2.1
  have hnm : nm ≤ 60 := hC.2.2.2.2.2.2.2.2.2.2.2.2.2.2.2.2.1
  rcases hw with ⟨rfl, v, L, a, g, ⟨ho, hd, ⟨m0, hm0, rfl, rfl⟩, hx, e8, hBs⟩, h70, -, rfl⟩ | ⟨hp, rfl, rfl⟩ | ⟨hp, rfl, rfl⟩
  · refine ⟨L, a, _, rfl, (hx.2.2 100 (show ¬ (100 = 8 ∨ 100 = 8 + 1 ∨ 100 = 3000 + nl) by omega)).1.trans hC.2.2.2.2.2.2.2.2.2.2.2.2.2.2.2.2.2.2.2, out_M (ModelAt_sm (fun k h1 h2 => Ext_sm hx (show ¬ (k = 8 ∨ k = 8 + 1 ∨ k = 3000 + nl) by omega)) hMo), ?_⟩
    rintro r6 u6 (⟨hn, -⟩ | ⟨o9, m1, ho9, hm1, rfl, e1, (⟨h, -⟩ | ⟨-, rfl, g2, rfl, hm, hf⟩)⟩)
    · exact absurd ⟨ho, in119 hm0⟩ hn
    · obtain rfl := m_inj hm0 hm1 e1
      exact absurd ((hbil o9 m0 ho9 hm0).mpr hd) h
    · obtain rfl := m_inj hm0 hm1 e1
      rw [sum_eq hUR hCh ho hMv (nI o9) hm0] at hm ⊢
      have hb := sum_bnd hUR hnu hCh ho hnm (mo := A 22) hMv (nI o9) m0
      exact ⟨L, a, g2, _, _, _, rfl, Rel_mk (A := (va_up (va_up (va_up (va_up (va_up A 31 (upd (A 31) (120 * o9 + m0) (vp_nar .boolean 1))) 27 (upd (A 27) nl (nI o9))) 28 (upd (A 28) nl (nI m0))) 29 (upd (A 29) nl (sumX st ha mi dO dD dP nd nu uo uf ul ut uk ud nm (A 22) (A 23) (A 24) (A 25) (nI o9) (nI o9) m0))) 30 (upd (A 30) nl 0))) (nl := nl + 1) (out_CR (CR_bill hx e8 hBs hC)) (out_O h70) hf hm ⟨f1, f3, f14, f21, rfl, f32, hCh, hln, hUR, hMv, BlR_add hBl hm0 (by rw [cM_none hd, Int32.zero_add]; exact hb), by omega, bil_add ho9 hm0 hbil⟩, rfl, fun _ => out_v _ _⟩
  · rcases hp with ⟨-, hp⟩ | ⟨h, -⟩
    · refine ⟨Ls, ad, G, rfl, hC.2.2.2.2.2.2.2.2.2.2.2.2.2.2.2.2.2.2.2, hMo, ?_⟩
      rintro r6 u6 (⟨hn, g2, rfl, hm, hf⟩ | ⟨o9, m1, ho9, hm1, rfl, rfl, -⟩)
      · exact fin_same hC hM hOu hm hf rfl (fun h => absurd h (by decide))
      · exact absurd ⟨nI_in0 (n := 7) rfl (by decide) (by omega), in119 hm1⟩ hp
    · exact absurd h (by decide)
  · rcases hp with ⟨h, -⟩ | ⟨-, ho, hm0, hd⟩
    · exact absurd h (by decide)
    · refine ⟨Ls, ad, G, rfl, hC.2.2.2.2.2.2.2.2.2.2.2.2.2.2.2.2.2.2.2, hMo, ?_⟩
      rintro r6 u6 (⟨hn, -⟩ | ⟨o9, m1, ho9, hm1, rfl, rfl, (⟨-, g2, rfl, hm, hf⟩ | ⟨h, -⟩)⟩)
      · exact absurd ⟨ho, hm0⟩ hn
      · exact fin_same hC hM hOu hm hf rfl (fun h => absurd h (by decide))
      · exact absurd hd ((hbil o9 m1 ho9 hm1).mp h)

theorem hp_correct (hOu : OutAt y Ls G lo) {o mo0 : Int32} : ∀ r u, cP_correct y Ls ad G st ha mi dO dD dP nd nu uo uf ul ut uk ud nm (A 22) (A 23) (A 24) (A 25) nl (A 27) (A 28) (A 29) (A 30) o mo0 r u → ∃ L a g, u = wl L a g ∧ 70 ∈ L ∧ a 70 = ad 70 ∧ g 70 = G 70 ∧ (fun v L a g => inR o 7 ∧ hasD (A 27) (A 28) o mo0 nl ∧ (∃ m0, m0 < 120 ∧ mo0 = nI m0 ∧ v = sumX st ha mi dO dD dP nd nu uo uf ul ut uk ud nm (A 22) (A 23) (A 24) (A 25) o o m0 - cM (A 27) (A 28) (A 29) o mo0 nl) ∧ ((v = 0 ∧ Ls = L ∧ ad = a ∧ G = g) ∨ (¬ v = 0 ∧ Ext Ls ad G L a g (fun k => k = 8 ∨ k = 8 + 1 ∨ k = 3000 + nl) ∧ a 8 = ad 8 ∧ BillsAt y L a g (nl + 1) (upd (A 27) nl o) (upd (A 28) nl mo0) (upd (A 29) nl v) (upd (A 30) nl 1)))) r L a g := fun r u ⟨h1, _, h2, h3, h4⟩ => by
  rcases h4 with ⟨h0, h5⟩ | ⟨h0, L, a, g, h4, h5, h6, h7⟩
  · exact ⟨Ls, ad, G, h5, hOu.1, rfl, rfl, h1, h2, h3, Or.inl ⟨h0, rfl, rfl, rfl⟩⟩
  · exact ⟨L, a, g, h4, h5.1 70 hOu.1, (h5.2.2 70 (show ¬ (70 = 8 ∨ 70 = 8 + 1 ∨ 70 = 3000 + nl) by omega)).1, (h5.2.2 70 (show ¬ (70 = 8 ∨ 70 = 8 + 1 ∨ 70 = 3000 + nl) by omega)).2, h1, h2, h3, Or.inr ⟨h0, h5, h6, h7⟩⟩
theorem st_correct (hC : CR y df qa Ls ad G ch dr st ha mi dO dD dP nd li ow (A 2) len nu uo uf ul ug ut uk ud nm (A 22) (A 23) (A 24) (A 25) nl (A 27) (A 28) (A 29) (A 30) (A 33) pn) (hM : MR n F A st ha mi dO dD dP nd li ow len ln nu uo uf ul ug ut uk ud nm nl pn) (hMo : ModelAt y Ls ad G F A) (hOu : OutAt y Ls G lo) {o mo0 : Int32} {r5 : Int32} {u5 : va_W} (hw : wRet y ad lo (fun v L a g => inR o 7 ∧ hasD (A 27) (A 28) o mo0 nl ∧ (∃ m0, m0 < 120 ∧ mo0 = nI m0 ∧ v = sumX st ha mi dO dD dP nd nu uo uf ul ut uk ud nm (A 22) (A 23) (A 24) (A 25) o o m0 - cM (A 27) (A 28) (A 29) o mo0 nl) ∧ ((v = 0 ∧ Ls = L ∧ ad = a ∧ G = g) ∨ (¬ v = 0 ∧ Ext Ls ad G L a g (fun k => k = 8 ∨ k = 8 + 1 ∨ k = 3000 + nl) ∧ a 8 = ad 8 ∧ BillsAt y L a g (nl + 1) (upd (A 27) nl o) (upd (A 28) nl mo0) (upd (A 29) nl v) (upd (A 30) nl 1)))) (fun v => v.toInt64) r5 u5 ∨ (cX_correct nl (A 27) (A 28) o mo0 0 ∧ r5 = 1 ∧ u5 = wl Ls ad G) ∨ (cX_correct nl (A 27) (A 28) o mo0 3 ∧ r5 = 2 ∧ u5 = wl Ls ad G)) : StR y F A qa.2.2 (fun L a g => mP_correct y L a g F A nu ln nm ut nl o mo0) (fun r6 u6 => FinR y df qa n (fun v => v.toInt64) r5 r6 u6) u5 := by
  obtain ⟨f1, f3, f14, f21, f26, f32, hCh, hln, hUR, hMv, hBl, hnl, hbil⟩ := id hM
  have hnu : nu ≤ 24 := hC.2.2.2.2.2.2.2.2.2.2.2.2.2.2.2.1
  have hnm : nm ≤ 60 := hC.2.2.2.2.2.2.2.2.2.2.2.2.2.2.2.2.1
  rcases hw with ⟨rfl, v, L, a, g, ⟨ho, hd, ⟨m0, hm0, rfl, rfl⟩, (⟨hv, rfl, rfl, rfl⟩ | ⟨hv, hx, e8, hBs⟩)⟩, h70, -, rfl⟩ | ⟨hp, rfl, rfl⟩ | ⟨hp, rfl, rfl⟩
  · refine ⟨Ls, ad, _, rfl, hC.2.2.2.2.2.2.2.2.2.2.2.2.2.2.2.2.2.2.2, out_M hMo, ?_⟩
    rintro r6 u6 (⟨hn, -⟩ | ⟨o9, m1, ho9, hm1, rfl, e1, (⟨h, -⟩ | ⟨-, h6, (⟨h0, g2, rfl, hm, hf⟩ | ⟨h0, -⟩)⟩)⟩)
    · exact absurd ⟨ho, in119 hm0⟩ hn
    · obtain rfl := m_inj hm0 hm1 e1
      exact absurd hd ((hbil o9 m0 ho9 hm0).mp h)
    · obtain rfl := m_inj hm0 hm1 e1
      rw [sum_eq hUR hCh ho hMv (nI o9) hm0] at h6
      exact fin_same (out_CR hC) hM (out_O h70) hm hf rfl (fun _ => (out_v _ _).trans (by rw [h6]))
    · obtain rfl := m_inj hm0 hm1 e1
      rw [sum_eq hUR hCh ho hMv (nI o9) hm0] at h6
      exact absurd (h6.trans hv) h0
  · refine ⟨L, a, _, rfl, (hx.2.2 100 (show ¬ (100 = 8 ∨ 100 = 8 + 1 ∨ 100 = 3000 + nl) by omega)).1.trans hC.2.2.2.2.2.2.2.2.2.2.2.2.2.2.2.2.2.2.2, out_M (ModelAt_sm (fun k h1 h2 => Ext_sm hx (show ¬ (k = 8 ∨ k = 8 + 1 ∨ k = 3000 + nl) by omega)) hMo), ?_⟩
    rintro r6 u6 (⟨hn, -⟩ | ⟨o9, m1, ho9, hm1, rfl, e1, (⟨h, -⟩ | ⟨-, h6, (⟨h0, -⟩ | ⟨h0, g2, rfl, hm, hf⟩)⟩)⟩)
    · exact absurd ⟨ho, in119 hm0⟩ hn
    · obtain rfl := m_inj hm0 hm1 e1
      exact absurd hd ((hbil o9 m0 ho9 hm0).mp h)
    · obtain rfl := m_inj hm0 hm1 e1
      rw [sum_eq hUR hCh ho hMv (nI o9) hm0] at h6
      exact absurd (h6.symm.trans h0) hv
    · obtain rfl := m_inj hm0 hm1 e1
      rw [sum_eq hUR hCh ho hMv (nI o9) hm0] at h6
      subst h6
      have hb := sum_bnd hUR hnu hCh ho hnm (mo := A 22) hMv (nI o9) m0
      exact ⟨L, a, g2, _, _, _, rfl, Rel_mk (A := (va_up (va_up (va_up (va_up A 27 (upd (A 27) nl (nI o9))) 28 (upd (A 28) nl (nI m0))) 29 (upd (A 29) nl (sumX st ha mi dO dD dP nd nu uo uf ul ut uk ud nm (A 22) (A 23) (A 24) (A 25) (nI o9) (nI o9) m0 - cM (A 27) (A 28) (A 29) (nI o9) (nI m0) nl))) 30 (upd (A 30) nl 1))) (nl := nl + 1) (out_CR (CR_bill hx e8 hBs hC)) (out_O h70) hf hm ⟨f1, f3, f14, f21, rfl, f32, hCh, hln, hUR, hMv, BlR_add hBl hm0 (by rw [i_back]; exact hb), by omega, bil_same hd hbil⟩, rfl, fun _ => out_v _ _⟩
  · rcases hp with ⟨-, hp⟩ | ⟨h, -⟩
    · refine ⟨Ls, ad, G, rfl, hC.2.2.2.2.2.2.2.2.2.2.2.2.2.2.2.2.2.2.2, hMo, ?_⟩
      rintro r6 u6 (⟨hn, g2, rfl, hm, hf⟩ | ⟨o9, m1, ho9, hm1, rfl, rfl, -⟩)
      · exact fin_same hC hM hOu hm hf rfl (fun h => absurd h (by decide))
      · exact absurd ⟨nI_in0 (n := 7) rfl (by decide) (by omega), in119 hm1⟩ hp
    · exact absurd h (by decide)
  · rcases hp with ⟨h, -⟩ | ⟨-, ho, hm0, hd⟩
    · exact absurd h (by decide)
    · refine ⟨Ls, ad, G, rfl, hC.2.2.2.2.2.2.2.2.2.2.2.2.2.2.2.2.2.2.2, hMo, ?_⟩
      rintro r6 u6 (⟨hn, -⟩ | ⟨o9, m1, ho9, hm1, rfl, rfl, (⟨-, g2, rfl, hm, hf⟩ | ⟨h, -⟩)⟩)
      · exact absurd ⟨ho, hm0⟩ hn
      · exact fin_same hC hM hOu hm hf rfl (fun h => absurd h (by decide))
      · exact absurd ((hbil o9 m1 ho9 hm1).mpr hd) h

theorem st_read (hC : CR y df qa Ls ad G ch dr st ha mi dO dD dP nd li ow (A 2) len nu uo uf ul ug ut uk ud nm (A 22) (A 23) (A 24) (A 25) nl (A 27) (A 28) (A 29) (A 30) (A 33) pn) (hM : MR n F A st ha mi dO dD dP nd li ow len ln nu uo uf ul ug ut uk ud nm nl pn) (hMo : ModelAt y Ls ad G F A) (hOu : OutAt y Ls G lo) {d2 : DS} {r5 : Int32} {u5 : va_W} (hw : cP_read y Ls ad G ch dr (A 2) len 0 d2.2.2.2.2.1 d2.2.2.2.2.2.1 d2.2.2.2.2.2.2.1 r5 u5) : StR y F A qa.2.2 (fun L a g => mP_read y L a g F A len) (fun r6 u6 => FinE y df qa n r5 r6 u6) u5 := by
  obtain ⟨f1, f3, f14, f21, f26, f32, hCh, hln, hUR, hMv, hBl, hnl, hbil⟩ := id hM
  have hdr : 2 < dr ∧ dr < 60 := by have := hC.2.1; omega
  obtain ⟨st2, ha2, mi2, ⟨z1, z2, z3⟩, i, hi, hall, hw⟩ := hw
  have h0 : RdR (0, st2, ha2, mi2, d2.2.2.2.2.1, d2.2.2.2.2.2.1, d2.2.2.2.2.2.2.1, 0, 0, 0) (0, A 9, A 10, A 11, A 12) 0 := ⟨rfl, ChR_0 z1 z2 z3⟩
  rcases hw with ⟨hend, rfl, g, rfl, hX, hT, hD, hfr⟩ | ⟨hend, hbad, rfl, g, d, rfl, hX, hT, hD, hfr⟩
  · refine ⟨Ls, ad, g, rfl, hC.2.2.2.2.2.2.2.2.2.2.2.2.2.2.2.2.2.2.2, ModelAt_fr hMo (fun j h1 h2 => hfr j (by omega) (by omega) (by omega) (by omega)), ?_⟩
    rintro r6 u6 ⟨j, hj, hall2, (⟨hend2, rfl, g2, F2, A2, rfl, hm, hf, hF0, hF1, hF, hA, hF3, hnew⟩ | ⟨hend2, hbad2, -⟩)⟩
    · obtain ⟨rfl, hRd⟩ := read_eq h0 hi hj hall (Or.inl hend) hall2 (Or.inl hend2)
      have e2 : A2 2 = A 2 := hA 2 (by decide) (by decide) (by decide) (by decide) (by decide) (by decide) (by decide) (by decide)
      have e15 : A2 15 = A 15 := hA 15 (by decide) (by decide) (by decide) (by decide) (by decide) (by decide) (by decide) (by decide)
      have e16 : A2 16 = A 16 := hA 16 (by decide) (by decide) (by decide) (by decide) (by decide) (by decide) (by decide) (by decide)
      have e17 : A2 17 = A 17 := hA 17 (by decide) (by decide) (by decide) (by decide) (by decide) (by decide) (by decide) (by decide)
      have e18 : A2 18 = A 18 := hA 18 (by decide) (by decide) (by decide) (by decide) (by decide) (by decide) (by decide) (by decide)
      have e19 : A2 19 = A 19 := hA 19 (by decide) (by decide) (by decide) (by decide) (by decide) (by decide) (by decide) (by decide)
      have e20 : A2 20 = A 20 := hA 20 (by decide) (by decide) (by decide) (by decide) (by decide) (by decide) (by decide) (by decide)
      have e22 : A2 22 = A 22 := hA 22 (by decide) (by decide) (by decide) (by decide) (by decide) (by decide) (by decide) (by decide)
      have e23 : A2 23 = A 23 := hA 23 (by decide) (by decide) (by decide) (by decide) (by decide) (by decide) (by decide) (by decide)
      have e24 : A2 24 = A 24 := hA 24 (by decide) (by decide) (by decide) (by decide) (by decide) (by decide) (by decide) (by decide)
      have e25 : A2 25 = A 25 := hA 25 (by decide) (by decide) (by decide) (by decide) (by decide) (by decide) (by decide) (by decide)
      have e27 : A2 27 = A 27 := hA 27 (by decide) (by decide) (by decide) (by decide) (by decide) (by decide) (by decide) (by decide)
      have e28 : A2 28 = A 28 := hA 28 (by decide) (by decide) (by decide) (by decide) (by decide) (by decide) (by decide) (by decide)
      have e29 : A2 29 = A 29 := hA 29 (by decide) (by decide) (by decide) (by decide) (by decide) (by decide) (by decide) (by decide)
      have e30 : A2 30 = A 30 := hA 30 (by decide) (by decide) (by decide) (by decide) (by decide) (by decide) (by decide) (by decide)
      have e31 : A2 31 = A 31 := hA 31 (by decide) (by decide) (by decide) (by decide) (by decide) (by decide) (by decide) (by decide)
      have e33 : A2 33 = A 33 := hA 33 (by decide) (by decide) (by decide) (by decide) (by decide) (by decide) (by decide) (by decide)
      have f14b : F2 14 = F 14 := hF 14 (by decide) (by decide) (by decide) (by decide) (by decide)
      have f21b : F2 21 = F 21 := hF 21 (by decide) (by decide) (by decide) (by decide) (by decide)
      have f26b : F2 26 = F 26 := hF 26 (by decide) (by decide) (by decide) (by decide) (by decide)
      have f32b : F2 32 = F 32 := hF 32 (by decide) (by decide) (by decide) (by decide) (by decide)
      have hCh2 := ChR_c (L2 := A2 4) (O2 := A2 5) (Wh2 := A2 6) (Mu2 := A2 7) (fun k hk => ⟨((hnew k hk).1).symm, ((hnew k hk).2.1).symm, ((hnew k hk).2.2.1).symm, ((hnew k hk).2.2.2).symm⟩) hRd.2
      exact ⟨Ls, ad, g2, F2, A2, lo, rfl, Rel_mk (A := A2) (len := 0) (by rw [e2, e22, e23, e24, e25, e27, e28, e29, e30, e33]; exact CR_read1 hX hT hD hfr hC) ⟨hOu.1, (hfr 70 (by omega) (by omega) (by omega) (by omega)).trans hOu.2⟩ hf hm ⟨hF1, hF3, by rw [f14b, f14], by rw [f21b, f21], by rw [f26b, f26], by rw [f32b, f32], hCh2, hi, fun u hu => by rw [e15, e16, e17, e18, e19, e20]; exact hUR u hu, by rw [e23, e24, e25]; exact hMv, by rw [e27, e28, e29]; exact hBl, by omega, by rw [e27, e28, e31]; exact hbil⟩, rfl⟩
    · exfalso
      obtain ⟨rfl, hRd⟩ := read_eq h0 hi hj hall (Or.inl hend) hall2 (Or.inr ⟨hend2, hbad2⟩)
      rw [hRd.1] at hend
      omega
  · refine ⟨Ls, ad, g, rfl, hC.2.2.2.2.2.2.2.2.2.2.2.2.2.2.2.2.2.2.2, ModelAt_fr hMo (fun j h1 h2 => hfr j (by omega) (by omega) (by omega) (by omega)), ?_⟩
    rintro r6 u6 ⟨j, hj, hall2, (⟨hend2, -⟩ | ⟨hend2, hbad2, rfl, g2, F2, A2, rfl, hm, hf, hF0, hF1, hF, hA, hF3, e4, e5, e6, e7⟩)⟩
    · exfalso
      obtain ⟨rfl, hRd⟩ := read_eq h0 hi hj hall (Or.inr ⟨hend, hbad⟩) hall2 (Or.inl hend2)
      rw [hRd.1] at hend
      omega
    · obtain ⟨rfl, hRd⟩ := read_eq h0 hi hj hall (Or.inr ⟨hend, hbad⟩) hall2 (Or.inr ⟨hend2, hbad2⟩)
      have e2 : A2 2 = A 2 := hA 2 (by decide) (by decide) (by decide) (by decide) (by decide) (by decide) (by decide) (by decide)
      have e15 : A2 15 = A 15 := hA 15 (by decide) (by decide) (by decide) (by decide) (by decide) (by decide) (by decide) (by decide)
      have e16 : A2 16 = A 16 := hA 16 (by decide) (by decide) (by decide) (by decide) (by decide) (by decide) (by decide) (by decide)
      have e17 : A2 17 = A 17 := hA 17 (by decide) (by decide) (by decide) (by decide) (by decide) (by decide) (by decide) (by decide)
      have e18 : A2 18 = A 18 := hA 18 (by decide) (by decide) (by decide) (by decide) (by decide) (by decide) (by decide) (by decide)
      have e19 : A2 19 = A 19 := hA 19 (by decide) (by decide) (by decide) (by decide) (by decide) (by decide) (by decide) (by decide)
      have e20 : A2 20 = A 20 := hA 20 (by decide) (by decide) (by decide) (by decide) (by decide) (by decide) (by decide) (by decide)
      have e22 : A2 22 = A 22 := hA 22 (by decide) (by decide) (by decide) (by decide) (by decide) (by decide) (by decide) (by decide)
      have e23 : A2 23 = A 23 := hA 23 (by decide) (by decide) (by decide) (by decide) (by decide) (by decide) (by decide) (by decide)
      have e24 : A2 24 = A 24 := hA 24 (by decide) (by decide) (by decide) (by decide) (by decide) (by decide) (by decide) (by decide)
      have e25 : A2 25 = A 25 := hA 25 (by decide) (by decide) (by decide) (by decide) (by decide) (by decide) (by decide) (by decide)
      have e27 : A2 27 = A 27 := hA 27 (by decide) (by decide) (by decide) (by decide) (by decide) (by decide) (by decide) (by decide)
      have e28 : A2 28 = A 28 := hA 28 (by decide) (by decide) (by decide) (by decide) (by decide) (by decide) (by decide) (by decide)
      have e29 : A2 29 = A 29 := hA 29 (by decide) (by decide) (by decide) (by decide) (by decide) (by decide) (by decide) (by decide)
      have e30 : A2 30 = A 30 := hA 30 (by decide) (by decide) (by decide) (by decide) (by decide) (by decide) (by decide) (by decide)
      have e31 : A2 31 = A 31 := hA 31 (by decide) (by decide) (by decide) (by decide) (by decide) (by decide) (by decide) (by decide)
      have e33 : A2 33 = A 33 := hA 33 (by decide) (by decide) (by decide) (by decide) (by decide) (by decide) (by decide) (by decide)
      have f14b : F2 14 = F 14 := hF 14 (by decide) (by decide) (by decide) (by decide) (by decide)
      have f21b : F2 21 = F 21 := hF 21 (by decide) (by decide) (by decide) (by decide) (by decide)
      have f26b : F2 26 = F 26 := hF 26 (by decide) (by decide) (by decide) (by decide) (by decide)
      have f32b : F2 32 = F 32 := hF 32 (by decide) (by decide) (by decide) (by decide) (by decide)
      exact ⟨Ls, ad, g2, F2, A2, lo, rfl, Rel_mk (A := A2) (len := 0) (by rw [e2, e22, e23, e24, e25, e27, e28, e29, e30, e33]; exact CR_read0 hX hT hD hfr hC) ⟨hOu.1, (hfr 70 (by omega) (by omega) (by omega) (by omega)).trans hOu.2⟩ hf hm ⟨hF1, hF3.trans f3, by rw [f14b, f14], by rw [f21b, f21], by rw [f26b, f26], by rw [f32b, f32], by rw [e4, e5, e6, e7]; exact hCh, hln, fun u hu => by rw [e15, e16, e17, e18, e19, e20]; exact hUR u hu, by rw [e23, e24, e25]; exact hMv, by rw [e27, e28, e29]; exact hBl, by omega, by rw [e27, e28, e31]; exact hbil⟩, by rw [hRd.1]⟩

theorem st_count (hC : CR y df qa Ls ad G ch dr st ha mi dO dD dP nd li ow (A 2) len nu uo uf ul ug ut uk ud nm (A 22) (A 23) (A 24) (A 25) nl (A 27) (A 28) (A 29) (A 30) (A 33) pn) (hM : MR n F A st ha mi dO dD dP nd li ow len ln nu uo uf ul ug ut uk ud nm nl pn) (hMo : ModelAt y Ls ad G F A) (hOu : OutAt y Ls G lo) {wh r5 : Int32} (h5 : r5 = cnV (nI len) li (nI nu) (nI (cnt ug 0 nu)) (nI nm) (nI pn) ow wh) : ∀ r6 u6, (fun L a g => mP_count y L a g F A len ln nu nm pn wh) Ls ad G r6 u6 → FinE y df qa n r5 r6 u6 := by
  obtain ⟨f1, f3, f14, f21, f26, f32, hCh, hln, hUR, hMv, hBl, hnl, hbil⟩ := id hM
  rintro r6 u6 ⟨rfl, g2, rfl, hm, hf⟩
  refine ⟨Ls, ad, g2, _, A, lo, rfl, Rel_mk hC hOu hf hm (MR_0 hM), ?_⟩
  rw [h5, th_eq hUR, hCh.2.2.2.1, hCh.2.2.2.2.1]

end
