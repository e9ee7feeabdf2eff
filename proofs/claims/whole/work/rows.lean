section
-- ===== PART A: goes FIRST, ahead of the names: the tables' words, and 'selects' of the private methods out of them =====
/-- a private method of a class that the tables say can be made, by its rows of tables_1 -/
def lw_okq (q : MethodName × Nat) : Prop := (q.1.cls ≠ "java/lang/invoke/MethodHandle" ∧ q.1.cls ≠ "java/lang/invoke/VarHandle") ∧ Cond.instantiable q.1.cls q.2 ∈ tables_1 ∧ Cond.privateMethod q.1 ∈ tables_1 ∧ Cond.instanceMethod q.1 ∈ tables_1
theorem lw_p0 : lw_okq (⟨"StorageCharge$Charges", "clear", "()V"⟩, 9) := ⟨⟨by decide +kernel, by decide +kernel⟩, List.mem_of_getElem? (i := 57) (by decide +kernel), List.mem_of_getElem? (i := 63) (by decide +kernel), List.mem_of_getElem? (i := 64) (by decide +kernel)⟩
theorem lw_p1 : lw_okq (⟨"StorageCharge", "readLines", "()I"⟩, 7) := ⟨⟨by decide +kernel, by decide +kernel⟩, List.mem_of_getElem? (i := 30) (by decide +kernel), List.mem_of_getElem? (i := 182) (by decide +kernel), List.mem_of_getElem? (i := 183) (by decide +kernel)⟩
theorem lw_p2 : lw_okq (⟨"StorageCharge", "readLine", "()Z"⟩, 7) := ⟨⟨by decide +kernel, by decide +kernel⟩, List.mem_of_getElem? (i := 30) (by decide +kernel), List.mem_of_getElem? (i := 190) (by decide +kernel), List.mem_of_getElem? (i := 191) (by decide +kernel)⟩
theorem lw_p3 : lw_okq (⟨"StorageCharge$Charges", "tellOf", "(IIII)Z"⟩, 9) := ⟨⟨by decide +kernel, by decide +kernel⟩, List.mem_of_getElem? (i := 57) (by decide +kernel), List.mem_of_getElem? (i := 215) (by decide +kernel), List.mem_of_getElem? (i := 216) (by decide +kernel)⟩
theorem lw_p4 : lw_okq (⟨"StorageCharge$Charges", "tellDiscount", "(III)Z"⟩, 9) := ⟨⟨by decide +kernel, by decide +kernel⟩, List.mem_of_getElem? (i := 57) (by decide +kernel), List.mem_of_getElem? (i := 225) (by decide +kernel), List.mem_of_getElem? (i := 226) (by decide +kernel)⟩
theorem lw_p5 : lw_okq (⟨"StorageCharge$Charges", "hasDiscount", "(II)Z"⟩, 9) := ⟨⟨by decide +kernel, by decide +kernel⟩, List.mem_of_getElem? (i := 57) (by decide +kernel), List.mem_of_getElem? (i := 229) (by decide +kernel), List.mem_of_getElem? (i := 230) (by decide +kernel)⟩
theorem lw_p6 : lw_okq (⟨"StorageCharge", "unitsStillThere", "()I"⟩, 7) := ⟨⟨by decide +kernel, by decide +kernel⟩, List.mem_of_getElem? (i := 30) (by decide +kernel), List.mem_of_getElem? (i := 245) (by decide +kernel), List.mem_of_getElem? (i := 246) (by decide +kernel)⟩
theorem lw_p7 : lw_okq (⟨"java/lang/Throwable", "fillInStackTrace", "(I)Ljava/lang/Throwable;"⟩, 6) := ⟨⟨by decide +kernel, by decide +kernel⟩, List.mem_of_getElem? (i := 315) (by decide +kernel), List.mem_of_getElem? (i := 313) (by decide +kernel), List.mem_of_getElem? (i := 314) (by decide +kernel)⟩
theorem lw_p8 : lw_okq (⟨"java/util/ArrayList", "add", "(Ljava/lang/Object;[Ljava/lang/Object;I)V"⟩, 3) := ⟨⟨by decide +kernel, by decide +kernel⟩, List.mem_of_getElem? (i := 101) (by decide +kernel), List.mem_of_getElem? (i := 425) (by decide +kernel), List.mem_of_getElem? (i := 426) (by decide +kernel)⟩
theorem lw_p9 : lw_okq (⟨"java/util/ArrayList", "grow", "()[Ljava/lang/Object;"⟩, 3) := ⟨⟨by decide +kernel, by decide +kernel⟩, List.mem_of_getElem? (i := 101) (by decide +kernel), List.mem_of_getElem? (i := 429) (by decide +kernel), List.mem_of_getElem? (i := 430) (by decide +kernel)⟩
theorem lw_p10 : lw_okq (⟨"java/util/ArrayList", "grow", "(I)[Ljava/lang/Object;"⟩, 3) := ⟨⟨by decide +kernel, by decide +kernel⟩, List.mem_of_getElem? (i := 101) (by decide +kernel), List.mem_of_getElem? (i := 433) (by decide +kernel), List.mem_of_getElem? (i := 434) (by decide +kernel)⟩
theorem lw_p11 : lw_okq (⟨"StorageCharge", "checkUnit", "(I)V"⟩, 7) := ⟨⟨by decide +kernel, by decide +kernel⟩, List.mem_of_getElem? (i := 30) (by decide +kernel), List.mem_of_getElem? (i := 493) (by decide +kernel), List.mem_of_getElem? (i := 494) (by decide +kernel)⟩
theorem lw_p12 : lw_okq (⟨"StorageCharge", "movesOf", "(I)I"⟩, 7) := ⟨⟨by decide +kernel, by decide +kernel⟩, List.mem_of_getElem? (i := 30) (by decide +kernel), List.mem_of_getElem? (i := 600) (by decide +kernel), List.mem_of_getElem? (i := 601) (by decide +kernel)⟩
theorem lw_p13 : lw_okq (⟨"StorageCharge", "sumBy", "(III)I"⟩, 7) := ⟨⟨by decide +kernel, by decide +kernel⟩, List.mem_of_getElem? (i := 30) (by decide +kernel), List.mem_of_getElem? (i := 615) (by decide +kernel), List.mem_of_getElem? (i := 616) (by decide +kernel)⟩
theorem lw_p14 : lw_okq (⟨"StorageCharge", "storageBy", "(III)I"⟩, 7) := ⟨⟨by decide +kernel, by decide +kernel⟩, List.mem_of_getElem? (i := 30) (by decide +kernel), List.mem_of_getElem? (i := 619) (by decide +kernel), List.mem_of_getElem? (i := 620) (by decide +kernel)⟩
theorem lw_p15 : lw_okq (⟨"StorageCharge", "storageOfUnit", "(ILStorageCharge$Unit;I)I"⟩, 7) := ⟨⟨by decide +kernel, by decide +kernel⟩, List.mem_of_getElem? (i := 30) (by decide +kernel), List.mem_of_getElem? (i := 623) (by decide +kernel), List.mem_of_getElem? (i := 624) (by decide +kernel)⟩
def lw_privs_1 : List (MethodName × Nat) := [(⟨"StorageCharge$Charges", "clear", "()V"⟩, 9), (⟨"StorageCharge", "readLines", "()I"⟩, 7), (⟨"StorageCharge", "readLine", "()Z"⟩, 7), (⟨"StorageCharge$Charges", "tellOf", "(IIII)Z"⟩, 9), (⟨"StorageCharge$Charges", "tellDiscount", "(III)Z"⟩, 9), (⟨"StorageCharge$Charges", "hasDiscount", "(II)Z"⟩, 9), (⟨"StorageCharge", "unitsStillThere", "()I"⟩, 7), (⟨"java/lang/Throwable", "fillInStackTrace", "(I)Ljava/lang/Throwable;"⟩, 6), (⟨"java/util/ArrayList", "add", "(Ljava/lang/Object;[Ljava/lang/Object;I)V"⟩, 3), (⟨"java/util/ArrayList", "grow", "()[Ljava/lang/Object;"⟩, 3), (⟨"java/util/ArrayList", "grow", "(I)[Ljava/lang/Object;"⟩, 3), (⟨"StorageCharge", "checkUnit", "(I)V"⟩, 7), (⟨"StorageCharge", "movesOf", "(I)I"⟩, 7), (⟨"StorageCharge", "sumBy", "(III)I"⟩, 7), (⟨"StorageCharge", "storageBy", "(III)I"⟩, 7), (⟨"StorageCharge", "storageOfUnit", "(ILStorageCharge$Unit;I)I"⟩, 7)]
theorem lw_r1 : ∀ q ∈ lw_privs_1, lw_okq q := List.forall_mem_cons.mpr ⟨lw_p0, List.forall_mem_cons.mpr ⟨lw_p1, List.forall_mem_cons.mpr ⟨lw_p2, List.forall_mem_cons.mpr ⟨lw_p3, List.forall_mem_cons.mpr ⟨lw_p4, List.forall_mem_cons.mpr ⟨lw_p5, List.forall_mem_cons.mpr ⟨lw_p6, List.forall_mem_cons.mpr ⟨lw_p7, List.forall_mem_cons.mpr ⟨lw_p8, List.forall_mem_cons.mpr ⟨lw_p9, List.forall_mem_cons.mpr ⟨lw_p10, List.forall_mem_cons.mpr ⟨lw_p11, List.forall_mem_cons.mpr ⟨lw_p12, List.forall_mem_cons.mpr ⟨lw_p13, List.forall_mem_cons.mpr ⟨lw_p14, List.forall_mem_cons.mpr ⟨lw_p15, fun _ h => absurd h List.not_mem_nil⟩⟩⟩⟩⟩⟩⟩⟩⟩⟩⟩⟩⟩⟩⟩⟩
theorem lw_p16 : lw_okq (⟨"StorageCharge", "unitDays", "(II)I"⟩, 7) := ⟨⟨by decide +kernel, by decide +kernel⟩, List.mem_of_getElem? (i := 30) (by decide +kernel), List.mem_of_getElem? (i := 646) (by decide +kernel), List.mem_of_getElem? (i := 647) (by decide +kernel)⟩
theorem lw_p17 : lw_okq (⟨"StorageCharge", "handlingBy", "(III)I"⟩, 7) := ⟨⟨by decide +kernel, by decide +kernel⟩, List.mem_of_getElem? (i := 30) (by decide +kernel), List.mem_of_getElem? (i := 654) (by decide +kernel), List.mem_of_getElem? (i := 655) (by decide +kernel)⟩
theorem lw_p18 : lw_okq (⟨"StorageCharge$Paper", "put", "(I)V"⟩, 2) := ⟨⟨by decide +kernel, by decide +kernel⟩, List.mem_of_getElem? (i := 140) (by decide +kernel), List.mem_of_getElem? (i := 804) (by decide +kernel), List.mem_of_getElem? (i := 805) (by decide +kernel)⟩
theorem lw_p19 : lw_okq (⟨"StorageCharge$Paper", "putNumber", "(I)V"⟩, 2) := ⟨⟨by decide +kernel, by decide +kernel⟩, List.mem_of_getElem? (i := 140) (by decide +kernel), List.mem_of_getElem? (i := 808) (by decide +kernel), List.mem_of_getElem? (i := 809) (by decide +kernel)⟩
theorem lw_p20 : lw_okq (⟨"StorageChargeModel", "line", "()Z"⟩, 34) := ⟨⟨by decide +kernel, by decide +kernel⟩, List.mem_of_getElem? (i := 847) (by decide +kernel), List.mem_of_getElem? (i := 972) (by decide +kernel), List.mem_of_getElem? (i := 973) (by decide +kernel)⟩
theorem lw_p21 : lw_okq (⟨"StorageChargeModel", "next", "()I"⟩, 34) := ⟨⟨by decide +kernel, by decide +kernel⟩, List.mem_of_getElem? (i := 847) (by decide +kernel), List.mem_of_getElem? (i := 976) (by decide +kernel), List.mem_of_getElem? (i := 977) (by decide +kernel)⟩
theorem lw_p22 : lw_okq (⟨"StorageChargeModel", "number", "()I"⟩, 34) := ⟨⟨by decide +kernel, by decide +kernel⟩, List.mem_of_getElem? (i := 847) (by decide +kernel), List.mem_of_getElem? (i := 980) (by decide +kernel), List.mem_of_getElem? (i := 981) (by decide +kernel)⟩
theorem lw_p23 : lw_okq (⟨"StorageChargeModel", "isAgain", "(III)Z"⟩, 34) := ⟨⟨by decide +kernel, by decide +kernel⟩, List.mem_of_getElem? (i := 847) (by decide +kernel), List.mem_of_getElem? (i := 990) (by decide +kernel), List.mem_of_getElem? (i := 991) (by decide +kernel)⟩
theorem lw_p24 : lw_okq (⟨"StorageChargeModel", "isUnit", "(I)Z"⟩, 34) := ⟨⟨by decide +kernel, by decide +kernel⟩, List.mem_of_getElem? (i := 847) (by decide +kernel), List.mem_of_getElem? (i := 1006) (by decide +kernel), List.mem_of_getElem? (i := 1007) (by decide +kernel)⟩
theorem lw_p25 : lw_okq (⟨"StorageChargeModel", "isLate", "(II)Z"⟩, 34) := ⟨⟨by decide +kernel, by decide +kernel⟩, List.mem_of_getElem? (i := 847) (by decide +kernel), List.mem_of_getElem? (i := 1010) (by decide +kernel), List.mem_of_getElem? (i := 1011) (by decide +kernel)⟩
theorem lw_p26 : lw_okq (⟨"StorageChargeModel", "sumOf", "(III)I"⟩, 34) := ⟨⟨by decide +kernel, by decide +kernel⟩, List.mem_of_getElem? (i := 847) (by decide +kernel), List.mem_of_getElem? (i := 1029) (by decide +kernel), List.mem_of_getElem? (i := 1030) (by decide +kernel)⟩
theorem lw_p27 : lw_okq (⟨"StorageChargeModel", "storage", "(III)I"⟩, 34) := ⟨⟨by decide +kernel, by decide +kernel⟩, List.mem_of_getElem? (i := 847) (by decide +kernel), List.mem_of_getElem? (i := 1033) (by decide +kernel), List.mem_of_getElem? (i := 1034) (by decide +kernel)⟩
theorem lw_p28 : lw_okq (⟨"StorageChargeModel", "kindOn", "(II)I"⟩, 34) := ⟨⟨by decide +kernel, by decide +kernel⟩, List.mem_of_getElem? (i := 847) (by decide +kernel), List.mem_of_getElem? (i := 1037) (by decide +kernel), List.mem_of_getElem? (i := 1038) (by decide +kernel)⟩
theorem lw_p29 : lw_okq (⟨"StorageChargeModel", "cents", "(III)I"⟩, 34) := ⟨⟨by decide +kernel, by decide +kernel⟩, List.mem_of_getElem? (i := 847) (by decide +kernel), List.mem_of_getElem? (i := 1041) (by decide +kernel), List.mem_of_getElem? (i := 1042) (by decide +kernel)⟩
theorem lw_p30 : lw_okq (⟨"StorageChargeModel", "charge", "(III)I"⟩, 34) := ⟨⟨by decide +kernel, by decide +kernel⟩, List.mem_of_getElem? (i := 847) (by decide +kernel), List.mem_of_getElem? (i := 1045) (by decide +kernel), List.mem_of_getElem? (i := 1046) (by decide +kernel)⟩
theorem lw_p31 : lw_okq (⟨"StorageChargeModel", "unitDays", "(II)I"⟩, 34) := ⟨⟨by decide +kernel, by decide +kernel⟩, List.mem_of_getElem? (i := 847) (by decide +kernel), List.mem_of_getElem? (i := 1049) (by decide +kernel), List.mem_of_getElem? (i := 1050) (by decide +kernel)⟩
def lw_privs_2 : List (MethodName × Nat) := [(⟨"StorageCharge", "unitDays", "(II)I"⟩, 7), (⟨"StorageCharge", "handlingBy", "(III)I"⟩, 7), (⟨"StorageCharge$Paper", "put", "(I)V"⟩, 2), (⟨"StorageCharge$Paper", "putNumber", "(I)V"⟩, 2), (⟨"StorageChargeModel", "line", "()Z"⟩, 34), (⟨"StorageChargeModel", "next", "()I"⟩, 34), (⟨"StorageChargeModel", "number", "()I"⟩, 34), (⟨"StorageChargeModel", "isAgain", "(III)Z"⟩, 34), (⟨"StorageChargeModel", "isUnit", "(I)Z"⟩, 34), (⟨"StorageChargeModel", "isLate", "(II)Z"⟩, 34), (⟨"StorageChargeModel", "sumOf", "(III)I"⟩, 34), (⟨"StorageChargeModel", "storage", "(III)I"⟩, 34), (⟨"StorageChargeModel", "kindOn", "(II)I"⟩, 34), (⟨"StorageChargeModel", "cents", "(III)I"⟩, 34), (⟨"StorageChargeModel", "charge", "(III)I"⟩, 34), (⟨"StorageChargeModel", "unitDays", "(II)I"⟩, 34)]
theorem lw_r2 : ∀ q ∈ lw_privs_2, lw_okq q := List.forall_mem_cons.mpr ⟨lw_p16, List.forall_mem_cons.mpr ⟨lw_p17, List.forall_mem_cons.mpr ⟨lw_p18, List.forall_mem_cons.mpr ⟨lw_p19, List.forall_mem_cons.mpr ⟨lw_p20, List.forall_mem_cons.mpr ⟨lw_p21, List.forall_mem_cons.mpr ⟨lw_p22, List.forall_mem_cons.mpr ⟨lw_p23, List.forall_mem_cons.mpr ⟨lw_p24, List.forall_mem_cons.mpr ⟨lw_p25, List.forall_mem_cons.mpr ⟨lw_p26, List.forall_mem_cons.mpr ⟨lw_p27, List.forall_mem_cons.mpr ⟨lw_p28, List.forall_mem_cons.mpr ⟨lw_p29, List.forall_mem_cons.mpr ⟨lw_p30, List.forall_mem_cons.mpr ⟨lw_p31, fun _ h => absurd h List.not_mem_nil⟩⟩⟩⟩⟩⟩⟩⟩⟩⟩⟩⟩⟩⟩⟩⟩
theorem lw_p32 : lw_okq (⟨"StorageChargeModel", "handling", "(III)I"⟩, 34) := ⟨⟨by decide +kernel, by decide +kernel⟩, List.mem_of_getElem? (i := 847) (by decide +kernel), List.mem_of_getElem? (i := 1053) (by decide +kernel), List.mem_of_getElem? (i := 1054) (by decide +kernel)⟩
theorem lw_p33 : lw_okq (⟨"StorageChargeModel", "keep", "(IIIZ)V"⟩, 34) := ⟨⟨by decide +kernel, by decide +kernel⟩, List.mem_of_getElem? (i := 847) (by decide +kernel), List.mem_of_getElem? (i := 1073) (by decide +kernel), List.mem_of_getElem? (i := 1074) (by decide +kernel)⟩
theorem lw_p34 : lw_okq (⟨"StorageChargeModel", "rowOf", "(II)I"⟩, 34) := ⟨⟨by decide +kernel, by decide +kernel⟩, List.mem_of_getElem? (i := 847) (by decide +kernel), List.mem_of_getElem? (i := 1085) (by decide +kernel), List.mem_of_getElem? (i := 1086) (by decide +kernel)⟩
theorem lw_p35 : lw_okq (⟨"StorageChargeModel", "put", "(I)V"⟩, 34) := ⟨⟨by decide +kernel, by decide +kernel⟩, List.mem_of_getElem? (i := 847) (by decide +kernel), List.mem_of_getElem? (i := 1097) (by decide +kernel), List.mem_of_getElem? (i := 1098) (by decide +kernel)⟩
theorem lw_p36 : lw_okq (⟨"StorageChargeModel", "putNumber", "(I)V"⟩, 34) := ⟨⟨by decide +kernel, by decide +kernel⟩, List.mem_of_getElem? (i := 847) (by decide +kernel), List.mem_of_getElem? (i := 1101) (by decide +kernel), List.mem_of_getElem? (i := 1102) (by decide +kernel)⟩
def lw_privs_3 : List (MethodName × Nat) := [(⟨"StorageChargeModel", "handling", "(III)I"⟩, 34), (⟨"StorageChargeModel", "keep", "(IIIZ)V"⟩, 34), (⟨"StorageChargeModel", "rowOf", "(II)I"⟩, 34), (⟨"StorageChargeModel", "put", "(I)V"⟩, 34), (⟨"StorageChargeModel", "putNumber", "(I)V"⟩, 34)]
theorem lw_r3 : ∀ q ∈ lw_privs_3, lw_okq q := List.forall_mem_cons.mpr ⟨lw_p32, List.forall_mem_cons.mpr ⟨lw_p33, List.forall_mem_cons.mpr ⟨lw_p34, List.forall_mem_cons.mpr ⟨lw_p35, List.forall_mem_cons.mpr ⟨lw_p36, fun _ h => absurd h List.not_mem_nil⟩⟩⟩⟩⟩
def lw_privs : List (MethodName × Nat) := lw_privs_1 ++ (lw_privs_2 ++ (lw_privs_3))
def lw_tbl : List Cond := k2_sels lw_privs ++ tables_1
theorem lw_privs_ok : ∀ q ∈ lw_privs, lw_okq q := by
  show ∀ q ∈ lw_privs_1 ++ (lw_privs_2 ++ (lw_privs_3)), lw_okq q
  exact List.forall_mem_append.mpr ⟨lw_r1, List.forall_mem_append.mpr ⟨lw_r2, lw_r3⟩⟩
end
section
/-! ===== BEGIN words of one list among another's, by their places ===== -/
theorem goodIn_r {big : List Cond} (ws : List Cond) (ps : List Nat) (hp : ws = ps.filterMap (fun i => big[i]?)) (h : ws.all goodWord = true) : GoodIn big ws := by
  intro w hw
  have h1 := List.all_eq_true.mp h w hw
  rw [hp] at hw
  obtain ⟨i, -, hi⟩ := List.mem_filterMap.mp hw
  have hm : w ∈ big := by first | exact List.mem_of_getElem? hi | exact List.getElem?_mem hi
  exact ⟨hm, good_of_word h1⟩
theorem goodIn_app {big a b : List Cond} (ha : GoodIn big a) (hb : GoodIn big b) : GoodIn big (a ++ b) := fun w h => (List.mem_append.mp h).elim (ha w) (hb w)
theorem goodIn_ca {big a b : List Cond} {c : Cond} (ha : GoodIn big (c :: a)) (hb : GoodIn big b) : GoodIn big (c :: (a ++ b)) := fun w h => (List.mem_cons.mp h).elim (fun e => ha w (List.mem_cons.mpr (Or.inl e))) (fun h => (List.mem_append.mp h).elim (fun h => ha w (List.mem_cons.mpr (Or.inr h))) (hb w))
theorem goodIn_sub {big ws : List Cond} (hm : ∀ w ∈ ws, w ∈ big) (h : ws.all goodWord = true) : GoodIn big ws := fun w hw => ⟨hm w hw, good_of_word (List.all_eq_true.mp h w hw)⟩
/-! ===== END ===== -/

/-! ===== BEGIN exceptions that leave a method, and their catching by the caller (launches without stack traces) ===== -/
section VXA
/-! The laws vx_back, vx_callV, vx_callS, vx_callSW, vx_throw0, vx_throwS follow proofs of the library, with one case more: JvmDerived/Free/Laws.lean (Back.of_free), Shelf42/LK1.lean (callV, callS), Shelf/KitTraced.lean (throwNew0V, throwNewS). -/
/-- where a method has thrown q: the class by its name, the cell, what was written, the world -/
def vx_T (XC : String → State → State → Prop) (st : State) (q : Addr) (t : State) (mc ms : Nat) (free : Addr → Prop) : Prop :=
  ∃ (E : String) (ce : Cell) (L : List Loc), XC E st t ∧ t.heap[q]? = some ce ∧ ce.vm = .none ∧ st.vm.findClass E = some ce.cls ∧ st.WarmedH t.vm ∧ st.sameButNew ({ t with vm := st.vm } : State) L mc ms ∧ ∀ z ∈ L, free z.base
def vx_Q (Qc : Array Value → State → Outcome → State → Prop) (XC : String → State → State → Prop) (mc ms : Nat) (free : Addr → Prop) : Array Value → State → Outcome → State → Prop := fun a st o t =>
  (Qc a st o t ∧ ∃ L, FrameEnd st o t L mc ms ∧ ∀ q ∈ L, free q.base) ∨ ∃ q, o = .threw q ∧ vx_T XC st q t mc ms free
/-- a callee that returns or throws -/
def vx_Met (l : Launch) (y : MethodName) (ws : List Cond) (rm : Room) (Pc : Array Value → State → Prop) (Qc : Array Value → State → Outcome → State → Prop) (XC : String → State → State → Prop) (mc ms : Nat) (free : Addr → Prop) : Prop :=
  MetFree l y (headSpec ws rm) Pc (fun _ _ _ _ _ => True) (vx_Q Qc XC mc ms free)
def vx_Post (XC : String → State → State → Prop) (mc ms : Nat) (free : Addr → Prop) : Pt → Array Value → Addr → Pt → Prop := fun A a q B =>
  ∃ (g : JFrame) (mk : MethodId) (t : State) (L : List Loc) (E : String) (ce : Cell), B.U.heap = t.heap ∧ B.U.vm = t.vm ∧ XC E (A.U.calling g mk a) t ∧ t.heap[q]? = some ce ∧ ce.vm = .none ∧ A.U.vm.findClass E = some ce.cls ∧ B.locs = A.locs ++ L ∧ (∀ z ∈ L, free z.base) ∧ B.cells = A.cells + mc ∧ B.slots = A.slots + ms
def vx_Back (l : Launch) (R : Room) (p : Program) (e : Env) (below : List Frame) (s : State) (sargs : Array Value) (y : MethodName) (len W9 : Nat)
    (Pre : Pt → Array Value → Prop) (Post : Pt → Array Value → Option Value → Pt → Prop) (PostX : Pt → Array Value → Addr → Pt → Prop) : Prop :=
  ∀ (m : MethodId) (meth : Method) (c : Code) (A : Pt) (g : JFrame) (ig : Instr) (mk : MethodId) (a : Array Value),
    Stand p l e R s m sargs below meth c A.U A.locs A.cells A.slots → g.method = m → g.locals.size = c.maxLocals → decode c.code g.pc = .ok (ig, len) →
    2 * g.monitorRoom + (g.stack.map fun v => v.category).sum ≤ W9 → A.U.methodNamed? y = some mk → Pre A a →
    (∃ (v : Option Value) (B : Pt), Stand p l e R s m sargs below meth c B.U B.locs B.cells B.slots ∧ Post A a v B ∧
      Steps p.tables e below (doInvoke e (A.U.setTop g) [] mk a).1 (B.U.setTop { g with pc := g.pc + len, stack := v.toList ++ g.stack })) ∨
    (∃ (q : Addr) (B : Pt), Stand p l e R s m sargs below meth c B.U B.locs B.cells B.slots ∧ PostX A a q B ∧
      Steps p.tables e below (doInvoke e (A.U.setTop g) [] mk a).1 ((B.U.setTop g).pushFrame (.throwing q)))
section Payer
variable {l : Launch} {R : Room} {p : Program} {e : Env} {below : List Frame} {s : State} {sargs : Array Value} {y : MethodName} {len W9 : Nat}
theorem vx_back {ws : List Cond} {rm : Room} {Pc : Array Value → State → Prop} {Qc : Array Value → State → Outcome → State → Prop} {XC : String → State → State → Prop} {mc ms : Nat} {free : Addr → Prop} {bytes : ByteArray} {maxL : Nat} {ret : Option FieldType}
    (hM : vx_Met l y ws rm Pc Qc XC mc ms free) (hblind : FrameBlind Pc) (hrc : rm.cells = mc) (hrs : rm.slots = ms)
    (hframes : rm.frames + 1 ≤ R.frames) (hlocals : W9 + (maxL + 11) + rm.locals ≤ R.locals)
    (hws : ∀ w ∈ ws, ∀ a' U, s.WarmedH U.vm → w.before a' U = true) (hcode : Cond.code y bytes maxL ret ∈ ws) (hinit : ∀ a' U, s.WarmedH U.vm → (Cond.initialized y.cls).before a' U = true) :
    vx_Back l R p e below s sargs y len W9 (PreOf R mc ms Pc) (PostOf Qc mc ms free) (vx_Post XC mc ms free) := by
  intro m meth c A g ig mk a X hg hsize hdg hW hn hp
  have h1 : (headSpec ws rm).pre.before a A.U = true := atoms_intro fun w hw => hws w hw _ _ X.warmed
  have h2 : (Cond.code y bytes maxL ret).before a A.U = true := hws _ hcode _ _ X.warmed
  have h3 : (Cond.initialized y.cls).before a A.U = true := hinit _ _ X.warmed
  have h4 : A.cells + (headSpec ws rm).room.cells ≤ R.cells := by rw [show (headSpec ws rm).room.cells = mc from hrc]; exact hp.1
  have h5 : A.slots + (headSpec ws rm).room.slots ≤ R.slots := by rw [show (headSpec ws rm).room.slots = ms from hrs]; exact hp.2.1
  have hPc : Pc a (A.U.calling g mk a) := hblind _ _ _ _ hp.2.2
  obtain ⟨U, Ls, c0, s0⟩ := A
  dsimp only [Pt.U, Pt.locs, Pt.cells, Pt.slots] at h1 h2 h3 h4 h5 X hn hPc ⊢
  obtain ⟨methY, cY, hmY, hcY, -, hlY, -, -, -, -⟩ := Cond.code_spec hn h2
  obtain ⟨kY, hkY, -⟩ := className_of_methodNamed hn
  have hinitY : kY.init = .initialized := Cond.initialized_spec (findClass_of_methodNamed hn) hkY h3
  have h : At U g.method c below := by rw [hg]; exact X.here
  have hlocals9 : W9 + (maxL + 11) + (headSpec ws rm).room.locals ≤ R.locals := hlocals
  have happ : (headSpec ws rm).appliesLoose y e.platform (U.calling g mk a) = true :=
    Spec.appliesLoose_calling (g := g) h hdg hn hkY hinitY
      (X.room_calling (g := g) (R' := (headSpec ws rm).room) hsize hmY hcY hframes (by rw [hlY]; omega) h4 h5) h1
  obtain ⟨mid, hmid⟩ := h.above
  have hfr : (U.setTop g).frames = (.java g :: mid) ++ below := by rw [State.frames_setTop' g h.top, hmid]; rfl
  obtain ⟨o, s₂, hsteps, -, hend, hq⟩ := Steps.callFree hM p X.admits X.cas X.clock (acts := []) hfr happ hPc trivial
  have hq' : vx_Q Qc XC mc ms free a (U.calling g mk a) o s₂ := hq
  rw [State.frames_setTop' g h.top] at hend
  obtain ⟨g₀, hg0⟩ := Option.isSome_iff_exists.mp h.top
  obtain ⟨r, hr⟩ := State.topJava?_eq_some.mp hg0
  have hr' : (({ U with heap := s₂.heap, slotsUsed := s₂.slotsUsed } : State).setVm s₂.vm).frames = .java g₀ :: r := hr
  rcases hq' with ⟨hqc, L, hfe, hL⟩ | ⟨q, rfl, E, ce, L, hx, hce, hcv, hcl, hW₂, hsm, hL⟩
  · obtain ⟨⟨v, rfl⟩, hW₂, e2, q2, q3, q4, q5, q6⟩ := id hfe
    have e3 : s₂ = ({ (U.calling g mk a).setFrames s₂.frames with heap := s₂.heap, slotsUsed := s₂.slotsUsed } : State).setVm s₂.vm := by
      have : s₂ = ({ s₂ with vm := (U.calling g mk a).vm } : State).setVm s₂.vm := rfl
      rw [e2] at this
      exact this
    obtain ⟨c₂, i₂, len₂, hc₂, hd₂, hf₂⟩ := hend
    have hW' : U.WarmedH s₂.vm := hW₂
    have hcc : c₂ = c := by
      have h1 : s₂.code? g.method = U.code? g.method := by
        rw [State.code?_eq, State.code?_eq, hW'.alike.method?]
      exact Option.some.inj (hc₂.symm.trans (h1.trans h.code))
    subst hcc
    have hlen : len₂ = len := by rw [hdg] at hd₂; cases hd₂; rfl
    subst hlen
    have hs₂ : s₂ = (({ U with heap := s₂.heap, slotsUsed := s₂.slotsUsed } : State).setVm s₂.vm).setTop { g with pc := g.pc + len₂, stack := v.toList ++ g.stack } := by
      refine e3.trans ?_
      rw [hf₂, State.calling_eq h.top, State.setFrames_setFrames, State.setTop_of_frames _ hr', hr]
      rfl
    have hsame : U.sameButNew ({ U with heap := s₂.heap, slotsUsed := s₂.slotsUsed } : State) L mc ms := by
      refine ⟨?_, q2, q3, q4, q5, q6⟩
      obtain ⟨t, ht, -⟩ := State.frames_cons hr
      show ({ U with heap := s₂.heap, slotsUsed := s₂.slotsUsed } : State) = { U.setFrames U.frames with heap := s₂.heap, slotsUsed := s₂.slotsUsed }
      rw [State.setFrames_self ht]
    subst hg
    refine Or.inl ⟨v, ⟨(({ U with heap := s₂.heap, slotsUsed := s₂.slotsUsed } : State).setVm s₂.vm), Ls ++ L, c0 + mc, s0 + ms⟩,
      ⟨X.admits, X.cas, X.clock, X.frames, X.room, X.hears, X.method, X.code, (X.here.setHeapUsed s₂.heap s₂.slotsUsed).setVm hW'.alike, X.tail, State.WarmedH.trans X.warmed hW', X.limits, X.bytes, X.same.trans (hsame.setVm s.vm)⟩,
      ⟨g, mk, s₂, L, rfl, rfl, hqc, rfl, hL, rfl, rfl⟩, ?_⟩
    show Steps p.tables e below _ ((({ U with heap := s₂.heap, slotsUsed := s₂.slotsUsed } : State).setVm s₂.vm).setTop { g with pc := g.pc + len₂, stack := v.toList ++ g.stack })
    rw [← hs₂]
    exact hsteps
  · obtain ⟨e2, q2, q3, q4, q5, q6⟩ := id hsm
    have e3 : s₂ = ({ (U.calling g mk a).setFrames s₂.frames with heap := s₂.heap, slotsUsed := s₂.slotsUsed } : State).setVm s₂.vm := by
      have : s₂ = ({ s₂ with vm := (U.calling g mk a).vm } : State).setVm s₂.vm := rfl
      rw [e2] at this
      exact this
    have hf₂ : s₂.frames = .throwing q :: .java g :: U.frames.tail := hend
    have hW' : U.WarmedH s₂.vm := hW₂
    have hs₂ : s₂ = ((({ U with heap := s₂.heap, slotsUsed := s₂.slotsUsed } : State).setVm s₂.vm).setTop g).pushFrame (.throwing q) := by
      refine e3.trans ?_
      rw [hf₂, State.calling_eq h.top, State.setFrames_setFrames, State.pushFrame, State.frames_setTop _ hr', State.setTop_of_frames _ hr', State.setFrames_setFrames, hr]
      rfl
    have hsame : U.sameButNew ({ U with heap := s₂.heap, slotsUsed := s₂.slotsUsed } : State) L mc ms := by
      refine ⟨?_, q2, q3, q4, q5, q6⟩
      obtain ⟨t, ht, -⟩ := State.frames_cons hr
      show ({ U with heap := s₂.heap, slotsUsed := s₂.slotsUsed } : State) = { U.setFrames U.frames with heap := s₂.heap, slotsUsed := s₂.slotsUsed }
      rw [State.setFrames_self ht]
    subst hg
    refine Or.inr ⟨q, ⟨(({ U with heap := s₂.heap, slotsUsed := s₂.slotsUsed } : State).setVm s₂.vm), Ls ++ L, c0 + mc, s0 + ms⟩,
      ⟨X.admits, X.cas, X.clock, X.frames, X.room, X.hears, X.method, X.code, (X.here.setHeapUsed s₂.heap s₂.slotsUsed).setVm hW'.alike, X.tail, State.WarmedH.trans X.warmed hW', X.limits, X.bytes, X.same.trans (hsame.setVm s.vm)⟩,
      ⟨g, mk, s₂, L, E, ce, rfl, rfl, hx, hce, hcv, hcl, rfl, hL, rfl, rfl⟩, ?_⟩
    show Steps p.tables e below _ (((({ U with heap := s₂.heap, slotsUsed := s₂.slotsUsed } : State).setVm s₂.vm).setTop g).pushFrame (.throwing q))
    rw [← hs₂]
    exact hsteps
end Payer
section Calls
variable {p : Program} {l : Launch} {e : Env} {R : Room} {s : State} {m : MethodId} {args : Array Value} {below : List Frame} {meth : Method} {c : Code} {T : State} {locs : List Loc} {cells slots : Nat}
theorem vx_callV (X : Stand p l e R s m args below meth c T locs cells slots) (hexec : p.tables.exec = Jvm.exec) {own C : String} {index : Nat} {y : MethodName} {bytes : ByteArray} {maxL : Nat} {ret : Option FieldType}
    (hown : s.vm.findClass own = some m.cls) (hlink : (Cond.methodLink own index y).before args s = true) (hinst : (Cond.instanceMethod y).before args s = true) (hsel : (Cond.selects C y y).before args s = true)
    (hcode : (Cond.code y bytes maxL ret).before args s = true) (hy : y.cls ≠ "java/lang/invoke/MethodHandle" ∧ y.cls ≠ "java/lang/invoke/VarHandle")
    {W9 : Nat} {Pre : Pt → Array Value → Prop} {Post : Pt → Array Value → Option Value → Pt → Prop} {PostX : Pt → Array Value → Addr → Pt → Prop} (hK : vx_Back l R p e below s args y 3 W9 Pre Post PostX)
    {b : Addr} {cellB : Cell} (hcell : T.heap[b]? = some cellB) (hobj : cellB.vm.isStatics = false) (hcls : s.vm.findClass C = some cellB.cls)
    {g : JFrame} (hg : g.method = m) (hsize : g.locals.size = c.maxLocals) {argsL rest : List Value} (hlen : ∀ sig, parseMethodDescriptor y.desc = some sig → argsL.length = sig.parameters.length)
    (hstack : g.stack = argsL.reverse ++ .ref b :: rest) (hW : 2 * g.monitorRoom + (rest.map fun v => v.category).sum ≤ W9) (hdg : decode c.code g.pc = .ok (.invokevirtual index, 3))
    (hpre : ∀ vm₁, s.WarmedH vm₁ → Pre ⟨T.setVm vm₁, locs, cells, slots⟩ (Value.ref b :: argsL).toArray) :
    (∃ (v : Option Value) (vm₁ : Vm) (B : Pt), s.WarmedH vm₁ ∧ Stand p l e R s m args below meth c B.U B.locs B.cells B.slots ∧ Post ⟨T.setVm vm₁, locs, cells, slots⟩ (Value.ref b :: argsL).toArray v B ∧
      ∀ target, Steps p.tables e below (B.U.setTop { g with pc := g.pc + 3, stack := v.toList ++ rest }) target → Steps p.tables e below (T.setTop g) target) ∨
    (∃ (q : Addr) (vm₁ : Vm) (B : Pt), s.WarmedH vm₁ ∧ Stand p l e R s m args below meth c B.U B.locs B.cells B.slots ∧ PostX ⟨T.setVm vm₁, locs, cells, slots⟩ (Value.ref b :: argsL).toArray q B ∧
      Steps p.tables e below (T.setTop g) ((B.U.setTop { g with stack := rest }).pushFrame (.throwing q))) := by
  obtain ⟨mk, methM, hnamed, hmethM, hstM, habM⟩ := Cond.instanceMethod_spec hinst
  obtain ⟨methM', cM, hmethM', -, -, -, -, -, -, hsigM⟩ := Cond.code_spec hnamed hcode
  cases hmethM.symm.trans hmethM'
  obtain ⟨c2, r2, m2, q1, q2, q3, q4, kP, hkP, hkPi⟩ := Cond.selects_spec hsel
  cases hcls.symm.trans q1
  cases (State.methodFound?_of_named hnamed hy).symm.trans q2
  cases hnamed.symm.trans q3
  have hselP : selectMethod e.platform s.vm cellB.cls mk = .method mk := by rw [Launch.admits_selectMethod X.admits]; exact q4
  obtain ⟨vm₁, X₁, hstep₁⟩ := X.invokevirtual hexec hown hlink hnamed hmethM hstM hkP hkPi hy (a := b) (cell := cellB) hcell
    (fun z h => by rw [h] at hobj; cases hobj) hselP hmethM habM hkP hkPi (g := g) hg (argsL := argsL) (rest := rest) (hlen _ hsigM) hstack hdg
  rcases hK m meth c ⟨T.setVm vm₁, locs, cells, slots⟩ { g with stack := rest } (.invokevirtual index) mk (Value.ref b :: argsL).toArray X₁ hg hsize hdg hW (X₁.named hnamed) (hpre vm₁ X₁.warmed) with ⟨v, B, X', hpost, hsteps⟩ | ⟨q, B, X', hpost, hsteps⟩
  · exact Or.inl ⟨v, vm₁, B, X₁.warmed, X', hpost, fun target h => hstep₁ _ fun acts => by rw [doInvoke_state]; exact hsteps.trans h⟩
  · exact Or.inr ⟨q, vm₁, B, X₁.warmed, X', hpost, hstep₁ _ fun acts => by rw [doInvoke_state]; exact hsteps⟩
theorem vx_callS (X : Stand p l e R s m args below meth c T locs cells slots) (hexec : p.tables.exec = Jvm.exec) {own : String} {index : Nat} {y : MethodName} {bytes : ByteArray} {maxL : Nat} {ret : Option FieldType}
    (hown : s.vm.findClass own = some m.cls) (hlink : (Cond.methodLink own index y).before args s = true) (hstat : (Cond.static y).before args s = true) (hinit : (Cond.initialized y.cls).before args s = true)
    (hcode : (Cond.code y bytes maxL ret).before args s = true) (hy : y.cls ≠ "java/lang/invoke/MethodHandle" ∧ y.cls ≠ "java/lang/invoke/VarHandle")
    {W9 : Nat} {Pre : Pt → Array Value → Prop} {Post : Pt → Array Value → Option Value → Pt → Prop} {PostX : Pt → Array Value → Addr → Pt → Prop} (hK : vx_Back l R p e below s args y 3 W9 Pre Post PostX)
    {g : JFrame} (hg : g.method = m) (hsize : g.locals.size = c.maxLocals) {argsL rest : List Value} (hlen : ∀ sig, parseMethodDescriptor y.desc = some sig → argsL.length = sig.parameters.length)
    (hstack : g.stack = argsL.reverse ++ rest) (hW : 2 * g.monitorRoom + (rest.map fun v => v.category).sum ≤ W9) (hdg : decode c.code g.pc = .ok (.invokestatic index, 3))
    (hpre : ∀ vm₁, s.WarmedH vm₁ → Pre ⟨T.setVm vm₁, locs, cells, slots⟩ argsL.toArray) :
    (∃ (v : Option Value) (vm₁ : Vm) (B : Pt), s.WarmedH vm₁ ∧ Stand p l e R s m args below meth c B.U B.locs B.cells B.slots ∧ Post ⟨T.setVm vm₁, locs, cells, slots⟩ argsL.toArray v B ∧
      ∀ target, Steps p.tables e below (B.U.setTop { g with pc := g.pc + 3, stack := v.toList ++ rest }) target → Steps p.tables e below (T.setTop g) target) ∨
    (∃ (q : Addr) (vm₁ : Vm) (B : Pt), s.WarmedH vm₁ ∧ Stand p l e R s m args below meth c B.U B.locs B.cells B.slots ∧ PostX ⟨T.setVm vm₁, locs, cells, slots⟩ argsL.toArray q B ∧
      Steps p.tables e below (T.setTop g) ((B.U.setTop { g with stack := rest }).pushFrame (.throwing q))) := by
  obtain ⟨mk, hnamed⟩ := Cond.code_named hcode
  obtain ⟨methM, cM, hmethM, -, -, -, -, -, -, hsigM⟩ := Cond.code_spec hnamed hcode
  have hstatic : methM.isStatic = true := Cond.static_spec hnamed hmethM hstat
  obtain ⟨kP, hkP, -⟩ := className_of_methodNamed hnamed
  have hinitP : kP.init = .initialized := Cond.initialized_spec (findClass_of_methodNamed hnamed) hkP hinit
  obtain ⟨vm₁, X₁, hstep₁⟩ := X.invokestatic hexec hown hlink hnamed hmethM hstatic hkP hinitP hy (g := g) hg (argsL := argsL) (rest := rest) (hlen _ hsigM) hstack hdg
  rcases hK m meth c ⟨T.setVm vm₁, locs, cells, slots⟩ { g with stack := rest } (.invokestatic index) mk argsL.toArray X₁ hg hsize hdg hW (X₁.named hnamed) (hpre vm₁ X₁.warmed) with ⟨v, B, X', hpost, hsteps⟩ | ⟨q, B, X', hpost, hsteps⟩
  · exact Or.inl ⟨v, vm₁, B, X₁.warmed, X', hpost, fun target h => hstep₁ _ fun acts => by rw [doInvoke_state]; exact hsteps.trans h⟩
  · exact Or.inr ⟨q, vm₁, B, X₁.warmed, X', hpost, hstep₁ _ fun acts => by rw [doInvoke_state]; exact hsteps⟩
end Calls
theorem vx_cls {s : State} {T : State} {vm₁ : Vm} {E : String} {k : ClassId} (hW : s.WarmedH vm₁) (h : (T.setVm vm₁).vm.findClass E = some k) : s.vm.findClass E = some k := by
  have h1 : vm₁.findClass E = some k := h
  rw [hW.alike.findClass] at h1
  exact h1
/-- the method's frame g, with q thrown over it -/
def vx_W (p : Program) (l : Launch) (e : Env) (R : Room) (s : State) (m : MethodId) (args : Array Value) (below : List Frame) (meth : Method) (c : Code) (H : Heap) (locs : List Loc) (cells slots : Nat) (Q : State → Prop) (g : JFrame) (q : Addr) : Prop :=
  ∀ T : State, T.heap = H → Stand p l e R s m args below meth c T locs cells slots → ∃ t, Steps p.tables e below ((T.setTop g).pushFrame (.throwing q)) t ∧ Q t
def vx_Run (p : Program) (l : Launch) (e : Env) (R : Room) (s : State) (m : MethodId) (args : Array Value) (below : List Frame) (meth : Method) (c : Code) (H : Heap) (locs : List Loc) (cells slots mc ms : Nat) (g : JFrame) (rest : List Value) (Qa : State → Outcome → State → Prop) (XC : String → State → State → Prop) (free : Addr → Prop) : Prop :=
  ∀ T : State, T.heap = H → Stand p l e R s m args below meth c T locs cells slots →
    (∃ (v : Option Value) (st₀ t T' : State) (L : List Loc), st₀.heap = H ∧ Stand p l e R s m args below meth c T' (locs ++ L) (cells + mc) (slots + ms) ∧ (∀ q ∈ L, free q.base) ∧ T'.heap = t.heap ∧ T'.vm = t.vm ∧ Qa st₀ (.returned v) t ∧
      Goes p e below T g T' { g with pc := g.pc + 3, stack := v.toList ++ rest }) ∨
    (∃ (q : Addr) (st₀ t T' : State) (L : List Loc) (E : String) (ce : Cell), st₀.heap = H ∧ Stand p l e R s m args below meth c T' (locs ++ L) (cells + mc) (slots + ms) ∧ (∀ z ∈ L, free z.base) ∧ T'.heap = t.heap ∧ T'.vm = t.vm ∧ XC E st₀ t ∧ t.heap[q]? = some ce ∧ ce.vm = .none ∧ s.vm.findClass E = some ce.cls ∧
      Steps p.tables e below (T.setTop g) ((T'.setTop { g with stack := rest }).pushFrame (.throwing q)))
def vx_X {S : Type} (px : S → Prop) (B : String → S → State → Prop) (A : Nat → Prop) : String → State → State → Prop := fun E st t => ∃ u : S, px u ∧ B E u t ∧ va_F A st t
section Runs
variable {p : Program} {l : Launch} {e : Env} {R : Room} {s : State} {m : MethodId} {args : Array Value} {below : List Frame} {meth : Method} {c : Code} {H : Heap} {locs : List Loc} {cells slots : Nat}
variable {y : MethodName} {bytes cc : ByteArray} {maxL nL mc ms n index : Nat} {ret : Option FieldType} {ws : List Cond} {rm : Room} {Pc : Array Value → State → Prop} {Qc : Array Value → State → Outcome → State → Prop} {XC : String → State → State → Prop} {free : Addr → Prop} {Ts : List Cond} {own C : String} {b : Addr} {As rest : List Value} {g : JFrame}
theorem vx_callBack (cb : CallB R s args own index y bytes maxL ret ws rm mc ms n) (hM : vx_Met l y ws rm Pc Qc XC mc ms free) (hbl : FrameBlind Pc) : vx_Back l R p e below s args y 3 8 (PreOf R mc ms Pc) (PostOf Qc mc ms free) (vx_Post XC mc ms free) := by
  obtain ⟨hrc, hrs, hfr, hlo, hws, hcw, -, hini, -⟩ := cb
  exact vx_back (bytes := bytes) (maxL := maxL) (ret := ret) hM hbl hrc hrs hfr hlo hws hcw (fun a' U hW => word_at hW (Or.inl (by first | rfl | simp [Cond.onTables, Cond.keeps, Cond.steady])) hini)
theorem vx_runV (S : CallFix p m c cc nL s args Ts own) (hM : vx_Met l y ws rm Pc Qc XC mc ms free) (cw : CallW R s args own C index y bytes maxL ret ws rm mc ms n) (hp : PreV s H C b Pc As)
    (hg : g.method = m) (hn : As.length = n) (hsize : g.locals.size = nL) (hstack : g.stack = As.reverse ++ .ref b :: rest) (hW : 2 * g.monitorRoom + (rest.map fun v => v.category).sum ≤ 8) (hdg : decode cc g.pc = .ok (.invokevirtual index, 3)) (hf : cells + mc ≤ R.cells ∧ slots + ms ≤ R.slots) :
    vx_Run p l e R s m args below meth c H locs cells slots mc ms g rest (Qc (Value.ref b :: As).toArray) XC free := by
  have hK : vx_Back l R p e below s args y 3 8 (PreOf R mc ms Pc) (PostOf Qc mc ms free) (vx_Post XC mc ms free) := vx_callBack cw.1 hM hp.1
  obtain ⟨⟨-, -, -, -, -, -, hcode, -, hy, hlen, hl⟩, hin, hse⟩ := cw
  obtain ⟨hx, hb, hml, ho, -⟩ := S
  obtain ⟨-, ⟨cellB, hcB, hoB, hclB⟩, hPc⟩ := hp
  intro T hT X
  rcases vx_callV X hx (C := C) (bytes := bytes) (maxL := maxL) (ret := ret) ho hl hin hse hcode hy hK (by rw [hT]; exact hcB) hoB hclB hg (hsize.trans hml.symm) (argsL := As) (rest := rest) (fun sig h => hn.trans (hlen sig h)) hstack hW (by rw [hb]; exact hdg)
    (fun vm₁ hW₁ => ⟨hf.1, hf.2, hPc (T.setVm vm₁) hT hW₁⟩) with ⟨v, vm₁, ⟨U', l2, c2, s2⟩, hW₁, X', ⟨g', mk, t, L, e1, e2, hq, h1, hL, h2, h3⟩, st⟩ | ⟨q, vm₁, ⟨U', l2, c2, s2⟩, hW₁, X', ⟨g', mk, t, L, E, ce, e1, e2, hq, hce, hcv, hcl, h1, hL, h2, h3⟩, st⟩
  · dsimp only [Pt.U, Pt.locs, Pt.cells, Pt.slots] at X' e1 e2 h1 h2 h3 st
    subst h1; subst h2; subst h3
    exact Or.inl ⟨v, (T.setVm vm₁).calling g' mk (Value.ref b :: As).toArray, t, U', L, hT, X', hL, e1, e2, hq, st⟩
  · dsimp only [Pt.U, Pt.locs, Pt.cells, Pt.slots] at X' e1 e2 h1 h2 h3 st hcl
    subst h1; subst h2; subst h3
    exact Or.inr ⟨q, (T.setVm vm₁).calling g' mk (Value.ref b :: As).toArray, t, U', L, E, ce, hT, X', hL, e1, e2, hq, hce, hcv, vx_cls hW₁ hcl, st⟩
theorem vx_runS (S : CallFix p m c cc nL s args Ts own) (hM : vx_Met l y ws rm Pc Qc XC mc ms free) (cw : CallB R s args own index y bytes maxL ret ws rm mc ms n ∧ (Cond.static y).before args s = true) (hp : PreS s H Pc As)
    (hg : g.method = m) (hn : As.length = n) (hsize : g.locals.size = nL) (hstack : g.stack = As.reverse ++ rest) (hW : 2 * g.monitorRoom + (rest.map fun v => v.category).sum ≤ 8) (hdg : decode cc g.pc = .ok (.invokestatic index, 3)) (hf : cells + mc ≤ R.cells ∧ slots + ms ≤ R.slots) :
    vx_Run p l e R s m args below meth c H locs cells slots mc ms g rest (Qc As.toArray) XC free := by
  have hK : vx_Back l R p e below s args y 3 8 (PreOf R mc ms Pc) (PostOf Qc mc ms free) (vx_Post XC mc ms free) := vx_callBack cw.1 hM hp.1
  obtain ⟨⟨-, -, -, -, -, -, hcode, hini, hy, hlen, hl⟩, hstt⟩ := cw
  obtain ⟨hx, hb, hml, ho, -⟩ := S
  intro T hT X
  rcases vx_callS X hx (bytes := bytes) (maxL := maxL) (ret := ret) ho hl hstt hini hcode hy hK hg (hsize.trans hml.symm) (argsL := As) (rest := rest) (fun sig h => hn.trans (hlen sig h)) hstack hW (by rw [hb]; exact hdg)
    (fun vm₁ hW₁ => ⟨hf.1, hf.2, hp.2 (T.setVm vm₁) hT hW₁⟩) with ⟨v, vm₁, ⟨U', l2, c2, s2⟩, hW₁, X', ⟨g', mk, t, L, e1, e2, hq, h1, hL, h2, h3⟩, st⟩ | ⟨q, vm₁, ⟨U', l2, c2, s2⟩, hW₁, X', ⟨g', mk, t, L, E, ce, e1, e2, hq, hce, hcv, hcl, h1, hL, h2, h3⟩, st⟩
  · dsimp only [Pt.U, Pt.locs, Pt.cells, Pt.slots] at X' e1 e2 h1 h2 h3 st
    subst h1; subst h2; subst h3
    exact Or.inl ⟨v, (T.setVm vm₁).calling g' mk As.toArray, t, U', L, hT, X', hL, e1, e2, hq, st⟩
  · dsimp only [Pt.U, Pt.locs, Pt.cells, Pt.slots] at X' e1 e2 h1 h2 h3 st hcl
    subst h1; subst h2; subst h3
    exact Or.inr ⟨q, (T.setVm vm₁).calling g' mk As.toArray, t, U', L, E, ce, hT, X', hL, e1, e2, hq, hce, hcv, vx_cls hW₁ hcl, st⟩
end Runs
section Rows
variable {p : Program} {l : Launch} {e : Env} {R : Room} {s : State} {m : MethodId} {args : Array Value} {below : List Frame} {meth : Method} {c : Code} {H : Heap} {locs : List Loc} {cells slots : Nat} {Q : State → Prop}
variable {mc ms : Nat} {free : Addr → Prop} {A0 A1 : Nat → Prop} {H0 : Heap} {a : Array Value} {pc : Nat} {ls : Array Slot} {st0 rest : List Value}
theorem vx_keep {st₀ t T' : State} {L : List Loc} (h0 : st₀.heap = H) (e1 : T'.heap = t.heap) (hS : va_S A0 H0 H locs) (hA : ∀ q, q < H.size → A1 q → A0 q) (hf : ∀ q, free q → A0 q) (hL : ∀ q ∈ L, free q.base) (hF : va_F A1 st₀ t) :
    H.size ≤ T'.heap.size ∧ (∀ q : Nat, q < H.size → ¬ A1 q → T'.heap[q]? = H[q]?) ∧ va_S A0 H0 T'.heap (locs ++ L) := by
  obtain ⟨hz, hk⟩ := hF
  rw [h0] at hz hk
  exact ⟨by rw [e1]; exact hz, fun q h1 h2 => by rw [e1]; exact hk q h1 h2,
    ⟨Nat.le_trans hS.1 (by rw [e1]; exact hz), fun q h1 h2 => by rw [e1, hk q (Nat.lt_of_lt_of_le h1 hS.1) (fun z => h2 (hA q (Nat.lt_of_lt_of_le h1 hS.1) z))]; exact hS.2.1 q h1 h2, fun q hq => by
      rcases List.mem_append.mp hq with h | h
      · exact hS.2.2 q h
      · exact hf _ (hL q h)⟩⟩
theorem vx_calli {S SX : Type} {post : Int32 → S → Prop} {px : SX → Prop} {B : S → State → Prop} {BX : String → SX → State → Prop} {AX : Nat → Prop} (hr : vx_Run p l e R s m args below meth c H locs cells slots mc ms (F0 m pc ls st0) rest (va_Qi post B A1 a) (vx_X px BX AX) free) (hS : va_S A0 H0 H locs) (hA : ∀ q, q < H.size → A1 q → A0 q) (hf : ∀ q, free q → A0 q) (hAX : ∀ q, q < H.size → AX q → A0 q)
    (kx : ∀ (E : String) (ce : Cell) (q9 : Addr) (u : SX) (t : State) (H1 : Heap) (locs1 : List Loc), t.heap = H1 → s.vm.Alike t.vm → px u → BX E u t → H.size ≤ H1.size → (∀ q : Nat, q < H.size → ¬ AX q → H1[q]? = H[q]?) → va_S A0 H0 H1 locs1 → H1[q9]? = some ce → ce.vm = .none → s.vm.findClass E = some ce.cls → vx_W p l e R s m args below meth c H1 locs1 (cells + mc) (slots + ms) Q (F0 m pc ls rest) q9)
    (kk : ∀ (r : Int32) (u : S) (t : State) (H1 : Heap) (locs1 : List Loc), t.heap = H1 → s.vm.Alike t.vm → post r u → B u t → H.size ≤ H1.size → (∀ q : Nat, q < H.size → ¬ A1 q → H1[q]? = H[q]?) → va_S A0 H0 H1 locs1 → W p l e R s m args below meth c H1 locs1 (cells + mc) (slots + ms) Q (F0 m (pc + 3) ls (.int r :: rest))) : W p l e R s m args below meth c H locs cells slots Q (F0 m pc ls st0) := by
  intro T hT X
  rcases hr T hT X with ⟨v, st₀, t, T', L, h0, X', hL, e1, e2, ⟨⟨r, u, hv, hp, hb⟩, hF⟩, st⟩ | ⟨q, st₀, t, T', L, E, ce, h0, X', hL, e1, e2, ⟨u, hp, hb, hF⟩, hce, hcv, hcl, st⟩
  · cases hv
    obtain ⟨k1, k2, k3⟩ := vx_keep h0 e1 hS hA hf hL hF
    obtain ⟨t2, a1, b1⟩ := kk r u t T'.heap (locs ++ L) e1.symm (by rw [← e2]; exact X'.warmed.alike) hp hb k1 k2 k3 T' rfl X'
    exact ⟨t2, st t2 a1, b1⟩
  · obtain ⟨k1, k2, k3⟩ := vx_keep h0 e1 hS hAX hf hL hF
    obtain ⟨t2, a1, b1⟩ := kx E ce q u t T'.heap (locs ++ L) e1.symm (by rw [← e2]; exact X'.warmed.alike) hp hb k1 k2 k3 (by rw [e1]; exact hce) hcv hcl T' rfl X'
    exact ⟨t2, st.trans a1, b1⟩
theorem vx_calll {S SX : Type} {post : Int64 → S → Prop} {px : SX → Prop} {B : S → State → Prop} {BX : String → SX → State → Prop} {AX : Nat → Prop} (hr : vx_Run p l e R s m args below meth c H locs cells slots mc ms (F0 m pc ls st0) rest (va_Ql post B A1 a) (vx_X px BX AX) free) (hS : va_S A0 H0 H locs) (hA : ∀ q, q < H.size → A1 q → A0 q) (hf : ∀ q, free q → A0 q) (hAX : ∀ q, q < H.size → AX q → A0 q)
    (kx : ∀ (E : String) (ce : Cell) (q9 : Addr) (u : SX) (t : State) (H1 : Heap) (locs1 : List Loc), t.heap = H1 → s.vm.Alike t.vm → px u → BX E u t → H.size ≤ H1.size → (∀ q : Nat, q < H.size → ¬ AX q → H1[q]? = H[q]?) → va_S A0 H0 H1 locs1 → H1[q9]? = some ce → ce.vm = .none → s.vm.findClass E = some ce.cls → vx_W p l e R s m args below meth c H1 locs1 (cells + mc) (slots + ms) Q (F0 m pc ls rest) q9)
    (kk : ∀ (r : Int64) (u : S) (t : State) (H1 : Heap) (locs1 : List Loc), t.heap = H1 → s.vm.Alike t.vm → post r u → B u t → H.size ≤ H1.size → (∀ q : Nat, q < H.size → ¬ A1 q → H1[q]? = H[q]?) → va_S A0 H0 H1 locs1 → W p l e R s m args below meth c H1 locs1 (cells + mc) (slots + ms) Q (F0 m (pc + 3) ls (.long r :: rest))) : W p l e R s m args below meth c H locs cells slots Q (F0 m pc ls st0) := by
  intro T hT X
  rcases hr T hT X with ⟨v, st₀, t, T', L, h0, X', hL, e1, e2, ⟨⟨r, u, hv, hp, hb⟩, hF⟩, st⟩ | ⟨q, st₀, t, T', L, E, ce, h0, X', hL, e1, e2, ⟨u, hp, hb, hF⟩, hce, hcv, hcl, st⟩
  · cases hv
    obtain ⟨k1, k2, k3⟩ := vx_keep h0 e1 hS hA hf hL hF
    obtain ⟨t2, a1, b1⟩ := kk r u t T'.heap (locs ++ L) e1.symm (by rw [← e2]; exact X'.warmed.alike) hp hb k1 k2 k3 T' rfl X'
    exact ⟨t2, st t2 a1, b1⟩
  · obtain ⟨k1, k2, k3⟩ := vx_keep h0 e1 hS hAX hf hL hF
    obtain ⟨t2, a1, b1⟩ := kx E ce q u t T'.heap (locs ++ L) e1.symm (by rw [← e2]; exact X'.warmed.alike) hp hb k1 k2 k3 (by rw [e1]; exact hce) hcv hcl T' rfl X'
    exact ⟨t2, st.trans a1, b1⟩
theorem vx_callf {S SX : Type} {post : UInt32 → S → Prop} {px : SX → Prop} {B : S → State → Prop} {BX : String → SX → State → Prop} {AX : Nat → Prop} (hr : vx_Run p l e R s m args below meth c H locs cells slots mc ms (F0 m pc ls st0) rest (va_Qf post B A1 a) (vx_X px BX AX) free) (hS : va_S A0 H0 H locs) (hA : ∀ q, q < H.size → A1 q → A0 q) (hf : ∀ q, free q → A0 q) (hAX : ∀ q, q < H.size → AX q → A0 q)
    (kx : ∀ (E : String) (ce : Cell) (q9 : Addr) (u : SX) (t : State) (H1 : Heap) (locs1 : List Loc), t.heap = H1 → s.vm.Alike t.vm → px u → BX E u t → H.size ≤ H1.size → (∀ q : Nat, q < H.size → ¬ AX q → H1[q]? = H[q]?) → va_S A0 H0 H1 locs1 → H1[q9]? = some ce → ce.vm = .none → s.vm.findClass E = some ce.cls → vx_W p l e R s m args below meth c H1 locs1 (cells + mc) (slots + ms) Q (F0 m pc ls rest) q9)
    (kk : ∀ (r : UInt32) (u : S) (t : State) (H1 : Heap) (locs1 : List Loc), t.heap = H1 → s.vm.Alike t.vm → post r u → B u t → H.size ≤ H1.size → (∀ q : Nat, q < H.size → ¬ A1 q → H1[q]? = H[q]?) → va_S A0 H0 H1 locs1 → W p l e R s m args below meth c H1 locs1 (cells + mc) (slots + ms) Q (F0 m (pc + 3) ls (.float r :: rest))) : W p l e R s m args below meth c H locs cells slots Q (F0 m pc ls st0) := by
  intro T hT X
  rcases hr T hT X with ⟨v, st₀, t, T', L, h0, X', hL, e1, e2, ⟨⟨r, u, hv, hp, hb⟩, hF⟩, st⟩ | ⟨q, st₀, t, T', L, E, ce, h0, X', hL, e1, e2, ⟨u, hp, hb, hF⟩, hce, hcv, hcl, st⟩
  · cases hv
    obtain ⟨k1, k2, k3⟩ := vx_keep h0 e1 hS hA hf hL hF
    obtain ⟨t2, a1, b1⟩ := kk r u t T'.heap (locs ++ L) e1.symm (by rw [← e2]; exact X'.warmed.alike) hp hb k1 k2 k3 T' rfl X'
    exact ⟨t2, st t2 a1, b1⟩
  · obtain ⟨k1, k2, k3⟩ := vx_keep h0 e1 hS hAX hf hL hF
    obtain ⟨t2, a1, b1⟩ := kx E ce q u t T'.heap (locs ++ L) e1.symm (by rw [← e2]; exact X'.warmed.alike) hp hb k1 k2 k3 (by rw [e1]; exact hce) hcv hcl T' rfl X'
    exact ⟨t2, st.trans a1, b1⟩
theorem vx_calld {S SX : Type} {post : UInt64 → S → Prop} {px : SX → Prop} {B : S → State → Prop} {BX : String → SX → State → Prop} {AX : Nat → Prop} (hr : vx_Run p l e R s m args below meth c H locs cells slots mc ms (F0 m pc ls st0) rest (va_Qd post B A1 a) (vx_X px BX AX) free) (hS : va_S A0 H0 H locs) (hA : ∀ q, q < H.size → A1 q → A0 q) (hf : ∀ q, free q → A0 q) (hAX : ∀ q, q < H.size → AX q → A0 q)
    (kx : ∀ (E : String) (ce : Cell) (q9 : Addr) (u : SX) (t : State) (H1 : Heap) (locs1 : List Loc), t.heap = H1 → s.vm.Alike t.vm → px u → BX E u t → H.size ≤ H1.size → (∀ q : Nat, q < H.size → ¬ AX q → H1[q]? = H[q]?) → va_S A0 H0 H1 locs1 → H1[q9]? = some ce → ce.vm = .none → s.vm.findClass E = some ce.cls → vx_W p l e R s m args below meth c H1 locs1 (cells + mc) (slots + ms) Q (F0 m pc ls rest) q9)
    (kk : ∀ (r : UInt64) (u : S) (t : State) (H1 : Heap) (locs1 : List Loc), t.heap = H1 → s.vm.Alike t.vm → post r u → B u t → H.size ≤ H1.size → (∀ q : Nat, q < H.size → ¬ A1 q → H1[q]? = H[q]?) → va_S A0 H0 H1 locs1 → W p l e R s m args below meth c H1 locs1 (cells + mc) (slots + ms) Q (F0 m (pc + 3) ls (.double r :: rest))) : W p l e R s m args below meth c H locs cells slots Q (F0 m pc ls st0) := by
  intro T hT X
  rcases hr T hT X with ⟨v, st₀, t, T', L, h0, X', hL, e1, e2, ⟨⟨r, u, hv, hp, hb⟩, hF⟩, st⟩ | ⟨q, st₀, t, T', L, E, ce, h0, X', hL, e1, e2, ⟨u, hp, hb, hF⟩, hce, hcv, hcl, st⟩
  · cases hv
    obtain ⟨k1, k2, k3⟩ := vx_keep h0 e1 hS hA hf hL hF
    obtain ⟨t2, a1, b1⟩ := kk r u t T'.heap (locs ++ L) e1.symm (by rw [← e2]; exact X'.warmed.alike) hp hb k1 k2 k3 T' rfl X'
    exact ⟨t2, st t2 a1, b1⟩
  · obtain ⟨k1, k2, k3⟩ := vx_keep h0 e1 hS hAX hf hL hF
    obtain ⟨t2, a1, b1⟩ := kx E ce q u t T'.heap (locs ++ L) e1.symm (by rw [← e2]; exact X'.warmed.alike) hp hb k1 k2 k3 (by rw [e1]; exact hce) hcv hcl T' rfl X'
    exact ⟨t2, st.trans a1, b1⟩
theorem vx_callv {S SX : Type} {post : S → Prop} {px : SX → Prop} {B : S → State → Prop} {BX : String → SX → State → Prop} {AX : Nat → Prop} (hr : vx_Run p l e R s m args below meth c H locs cells slots mc ms (F0 m pc ls st0) rest (va_Qv post B A1 a) (vx_X px BX AX) free) (hS : va_S A0 H0 H locs) (hA : ∀ q, q < H.size → A1 q → A0 q) (hf : ∀ q, free q → A0 q) (hAX : ∀ q, q < H.size → AX q → A0 q)
    (kx : ∀ (E : String) (ce : Cell) (q9 : Addr) (u : SX) (t : State) (H1 : Heap) (locs1 : List Loc), t.heap = H1 → s.vm.Alike t.vm → px u → BX E u t → H.size ≤ H1.size → (∀ q : Nat, q < H.size → ¬ AX q → H1[q]? = H[q]?) → va_S A0 H0 H1 locs1 → H1[q9]? = some ce → ce.vm = .none → s.vm.findClass E = some ce.cls → vx_W p l e R s m args below meth c H1 locs1 (cells + mc) (slots + ms) Q (F0 m pc ls rest) q9)
    (kk : ∀ (u : S) (t : State) (H1 : Heap) (locs1 : List Loc), t.heap = H1 → s.vm.Alike t.vm → post u → B u t → H.size ≤ H1.size → (∀ q : Nat, q < H.size → ¬ A1 q → H1[q]? = H[q]?) → va_S A0 H0 H1 locs1 → W p l e R s m args below meth c H1 locs1 (cells + mc) (slots + ms) Q (F0 m (pc + 3) ls (rest))) : W p l e R s m args below meth c H locs cells slots Q (F0 m pc ls st0) := by
  intro T hT X
  rcases hr T hT X with ⟨v, st₀, t, T', L, h0, X', hL, e1, e2, ⟨⟨u, hv, hp, hb⟩, hF⟩, st⟩ | ⟨q, st₀, t, T', L, E, ce, h0, X', hL, e1, e2, ⟨u, hp, hb, hF⟩, hce, hcv, hcl, st⟩
  · cases hv
    obtain ⟨k1, k2, k3⟩ := vx_keep h0 e1 hS hA hf hL hF
    obtain ⟨t2, a1, b1⟩ := kk u t T'.heap (locs ++ L) e1.symm (by rw [← e2]; exact X'.warmed.alike) hp hb k1 k2 k3 T' rfl X'
    exact ⟨t2, st t2 a1, b1⟩
  · obtain ⟨k1, k2, k3⟩ := vx_keep h0 e1 hS hAX hf hL hF
    obtain ⟨t2, a1, b1⟩ := kx E ce q u t T'.heap (locs ++ L) e1.symm (by rw [← e2]; exact X'.warmed.alike) hp hb k1 k2 k3 (by rw [e1]; exact hce) hcv hcl T' rfl X'
    exact ⟨t2, st.trans a1, b1⟩
end Rows
section Ends
variable {p : Program} {l : Launch} {e : Env} {R : Room} {s : State} {m : MethodId} {args : Array Value} {below : List Frame} {meth : Method} {c : Code} {H : Heap} {locs : List Loc} {cells slots : Nat} {Q : State → Prop}
variable {mc ms : Nat} {free : Addr → Prop} {A0 A1 : Nat → Prop} {H0 : Heap} {a : Array Value} {ls : Array Slot} {st0 rest : List Value}
variable {Qc : Array Value → State → Outcome → State → Prop} {XC : String → State → State → Prop}
/-- what a body that may throw owes at its end -/
def vx_MQ (below : List Frame) (Qc : Array Value → State → Outcome → State → Prop) (XC : String → State → State → Prop) (a : Array Value) (s : State) (mc ms : Nat) (free : Addr → Prop) : State → Prop := fun t =>
  ∃ o, t.status = .running ∧ Ended t below o ∧ vx_Q Qc XC mc ms free a s o t
theorem vx_ret {g : JFrame} {mc ms : Nat} (k : W p l e R s m args below meth c H locs cells slots (MQ below Qc args s mc ms free) g) : W p l e R s m args below meth c H locs cells slots (vx_MQ below Qc XC args s mc ms free) g := by
  intro T hT X
  obtain ⟨t, a1, o, b1, b2, b3, b4⟩ := k T hT X
  exact ⟨t, a1, o, b1, b2, Or.inl ⟨b3, b4⟩⟩
/-- not caught here: it goes on to the caller -/
theorem vx_widen {g : JFrame} {q : Addr} {k n : Nat} (h1 : cells ≤ k) (h2 : slots ≤ n) (kk : vx_W p l e R s m args below meth c H locs k n Q g q) : vx_W p l e R s m args below meth c H locs cells slots Q g q := fun T hT X => kk T hT (stand_widen X h1 h2)
theorem vx_out {pc : Nat} {E : String} {ce : Cell} {q : Addr} {mc ms : Nat} (hout : ∀ x ∈ c.exceptionTable.toList, covers x pc = false) (hlocks : meth.locks = false) (hcell : H[q]? = some ce) (hv : ce.vm = .none) (hcl : s.vm.findClass E = some ce.cls)
    (hx : ∀ t : State, t.heap = H → s.vm.Alike t.vm → XC E s t) (hf : ∀ z ∈ locs, free z.base) (hc : cells ≤ mc) (hs : slots ≤ ms) :
    vx_W p l e R s m args below meth c H locs cells slots (vx_MQ below Qc XC args s mc ms free) (F0 m pc ls rest) q := by
  intro T hT X
  obtain ⟨st1, hrun, hend, hW, hsm⟩ := X.leaveThrown q (g := F0 m pc ls rest) rfl rfl rfl hout hlocks
  have hcell9 : (T.setFrames (.throwing q :: below)).heap[q]? = some ce := by
    show T.heap[q]? = some ce
    rw [hT]; exact hcell
  exact ⟨_, st1, .threw q, hrun, hend, Or.inr ⟨q, rfl, E, ce, locs, hx _ hT hW.alike, hcell9, hv, hcl, hW, hsm.mono hc hs, hf⟩⟩
theorem vx_frame {U : State} {k n : Nat} (h : s.sameButNew ({ U with vm := s.vm } : State) locs k n) : s.heap.size ≤ U.heap.size ∧ ∀ q : Nat, q < s.heap.size → (∀ z ∈ locs, z.base ≠ q) → U.heap[q]? = s.heap[q]? := by
  obtain ⟨-, h2, -, -, -, h6⟩ := h
  refine ⟨h2, fun q hq hz => ?_⟩
  obtain ⟨c9, e1, e2, e3, e4⟩ := h6 q _ (Array.getElem?_eq_getElem hq)
  have hs : c9.slots = (s.heap[q]).slots := Array.ext_getElem? fun i => e4 i fun hm => hz _ hm rfl
  have h9 : c9 = s.heap[q] := by
    rw [hs] at e2
    exact e2
  have e5 : U.heap[q]? = some c9 := e1
  rw [e5, h9, Array.getElem?_eq_getElem hq]
/-- the words of a throw but the four that speak of the heap -/
def vx_no (w : Cond) : Bool := decide (w ≠ .isRef (.static Bundle.tN "UNASSIGNED_STACK" Bundle.steD)) && decide (w ≠ .isRef (.static Bundle.tN "SUPPRESSED_SENTINEL" Bundle.listD)) && decide (w ≠ .laysStatic Bundle.tN "UNASSIGNED_STACK" Bundle.steD) && decide (w ≠ .laysStatic Bundle.tN "SUPPRESSED_SENTINEL" Bundle.listD)
def vx_at0 (own : String) (ic : Nat) (X : String) (names : List String) : List Cond := (Bundle.ownAtoms0 own ic X names).filter vx_no
def vx_atS (own : String) (ic : Nat) (X : String) (names : List String) : List Cond := (Bundle.ownAtoms own ic X names).filter vx_no
/-- a word that the tables alone decide, or a good one -/
def vx_ot (w : Cond) : Bool := w.onTables || goodWord w
theorem vx_ot_at {args a' : Array Value} {s U : State} {w : Cond} (hW : s.WarmedH U.vm) (hvm : s.vm = U.vm) (hg : vx_ot w = true) (h : w.before args s = true) : w.before a' U = true := by
  simp only [vx_ot, Bool.or_eq_true] at hg
  rcases hg with hg | hg
  · exact va_tabs hg hvm h
  · exact word_at hW (good_of_word hg) h
/-- a list's words: the good ones out of the method's own list, the others by premises of their own -/
theorem vx_hat {args : Array Value} {s : State} {L B : List Cond} (h1 : ∀ w ∈ L.filter goodWord, w.before args s = true) (h2 : ∀ w ∈ L.filter (fun w => !goodWord w), w ∈ B) (h3 : ∀ w ∈ B, w.before args s = true) : ∀ w ∈ L, w.before args s = true := by
  intro w hw
  by_cases g : goodWord w = true
  · exact h1 w (List.mem_filter.mpr ⟨hw, g⟩)
  · refine h3 w (h2 w (List.mem_filter.mpr ⟨hw, ?_⟩))
    show (!goodWord w) = true
    cases hgw : goodWord w
    · rfl
    · exact absurd hgw g
theorem vx_c {args : Array Value} {s : State} {w : Cond} {B : List Cond} (h : w.before args s = true) (t : ∀ w ∈ B, w.before args s = true) : ∀ w' ∈ w :: B, w'.before args s = true := fun w' h' => (List.mem_cons.mp h').elim (fun e => by rw [e]; exact h) (t w')
theorem vx_n {args : Array Value} {s : State} : ∀ w ∈ ([] : List Cond), w.before args s = true := fun _ h => nomatch h
theorem vx_own {args : Array Value} {s : State} {L : List Cond} (h1 : ∀ w ∈ L.filter vx_no, w.before args s = true)
    (hU : (Cond.isRef (.static Bundle.tN "UNASSIGNED_STACK" Bundle.steD)).before args s = true) (hN : (Cond.isRef (.static Bundle.tN "SUPPRESSED_SENTINEL" Bundle.listD)).before args s = true)
    (lU : (Cond.laysStatic Bundle.tN "UNASSIGNED_STACK" Bundle.steD).before args s = true) (lN : (Cond.laysStatic Bundle.tN "SUPPRESSED_SENTINEL" Bundle.listD).before args s = true) : ∀ w ∈ L, w.before args s = true := by
  intro w hw
  by_cases e1 : w = .isRef (.static Bundle.tN "UNASSIGNED_STACK" Bundle.steD)
  · rw [e1]; exact hU
  · by_cases e2 : w = .isRef (.static Bundle.tN "SUPPRESSED_SENTINEL" Bundle.listD)
    · rw [e2]; exact hN
    · by_cases e3 : w = .laysStatic Bundle.tN "UNASSIGNED_STACK" Bundle.steD
      · rw [e3]; exact lU
      · by_cases e4 : w = .laysStatic Bundle.tN "SUPPRESSED_SENTINEL" Bundle.listD
        · rw [e4]; exact lN
        · exact h1 w (List.mem_filter.mpr ⟨hw, by unfold vx_no; rw [decide_eq_true e1, decide_eq_true e2, decide_eq_true e3, decide_eq_true e4]; rfl⟩)
/-- where a static field lies, its class's statics cell in H -/
def vx_L (C n d : String) (A : Nat → Prop) (U : State) (H : Heap) : Prop := ∃ (c : ClassId) (k : Class) (i : Nat) (f : Field) (a : Nat) (cell : Cell), U.vm.findClass C = some c ∧ U.fieldFound? C n d = some (c, k, i, f) ∧ f.isStatic = true ∧ k.statics = some a ∧ H[a]? = some cell ∧ cell.vm.isStatics = true ∧ cell.cls = c ∧ f.slot < cell.slots.size ∧ k.staticTypes[f.slot]? = some f.type ∧ ¬ A a
theorem vx_L.moved {C n d : String} {A : Nat → Prop} {u U : State} {H : Heap} (hvm : u.vm.Alike U.vm) (h : vx_L C n d A u H) : vx_L C n d A U H := by
  obtain ⟨c, k, i, f, a, cell, h1, h2, h3, h4, h5, h6, h7, h8, h9, h10⟩ := h
  obtain ⟨k', hi', he⟩ := State.fieldFound?_setVm hvm h2
  exact ⟨c, k', i, f, a, cell, by rw [hvm.findClass]; exact h1, hi', h3, by rw [he]; exact h4, h5, h6, h7, h8, by rw [he]; exact h9, h10⟩
theorem vx_L.kept {C n d : String} {A : Nat → Prop} {U : State} {H H1 : Heap} (h : vx_L C n d A U H) (hq : ∀ a : Nat, a < H.size → ¬ A a → H1[a]? = H[a]?) : vx_L C n d A U H1 := by
  obtain ⟨c, k, i, f, a, cell, h1, h2, h3, h4, h5, h6, h7, h8, h9, h10⟩ := h
  exact ⟨c, k, i, f, a, cell, h1, h2, h3, h4, by rw [hq a (Array.getElem?_eq_some_iff.mp h5).1 h10]; exact h5, h6, h7, h8, h9, h10⟩
theorem vx_L.narrow {C n d : String} {A B : Nat → Prop} {U : State} {H : Heap} (h : vx_L C n d A U H) (hAB : ∀ q, B q → A q) : vx_L C n d B U H := by
  obtain ⟨c, k, i, f, a, cell, h1, h2, h3, h4, h5, h6, h7, h8, h9, h10⟩ := h
  exact ⟨c, k, i, f, a, cell, h1, h2, h3, h4, h5, h6, h7, h8, h9, fun z => h10 (hAB _ z)⟩
theorem vx_L.word {C n d : String} {A : Nat → Prop} {s : State} {args : Array Value} (h : vx_L C n d A s s.heap) : (Cond.laysStatic C n d).before args s = true := by
  obtain ⟨c, k, i, f, a, cell, h1, h2, h3, h4, h5, h6, h7, h8, h9, -⟩ := h
  show (Cond.laysStatic C n d).holds args s none s [] = true
  exact Cond.laysStatic_of h1 h2 h3 h4 h5 h6 h7 h8 h9
/-- .. and what it holds: null or some reference -/
def vx_Zq (C n d : String) (A : Nat → Prop) (U : State) (H : Heap) : Prop := va_Zq C n d A U H ∧ vx_L C n d A U H
theorem vx_Zq.moved {C n d : String} {A : Nat → Prop} {u U : State} {H : Heap} (hvm : u.vm.Alike U.vm) (h : vx_Zq C n d A u H) : vx_Zq C n d A U H := ⟨va_Zq.moved hvm h.1, vx_L.moved hvm h.2⟩
theorem vx_Zq.kept {C n d : String} {A : Nat → Prop} {U : State} {H H1 : Heap} (h : vx_Zq C n d A U H) (hq : ∀ a : Nat, a < H.size → ¬ A a → H1[a]? = H[a]?) : vx_Zq C n d A U H1 := ⟨va_Zq.kept h.1 hq, vx_L.kept h.2 hq⟩
theorem vx_Zq.narrow {C n d : String} {A B : Nat → Prop} {U : State} {H : Heap} (h : vx_Zq C n d A U H) (hAB : ∀ q, B q → A q) : vx_Zq C n d B U H := ⟨va_Zq.narrow h.1 hAB, vx_L.narrow h.2 hAB⟩
theorem vx_Zqof {args : Array Value} {s : State} {C n d : String} {A : Nat → Prop} (hl : (Cond.laysStatic C n d).before args s = true) (hini : (Cond.initialized C).before args s = true) (h : (Cond.isRef (.static C n d)).before args s = true) (hA : ∀ a : Nat, a < s.heap.size → ¬ A a) : vx_Zq C n d A s s.heap := by
  refine ⟨va_Zqof hl hini h hA, ?_⟩
  obtain ⟨c, k, i, f, a, cell, h1, h2, h3, h4, h5, h6, h7, h8, h9⟩ := Cond.laysStatic_spec hl
  exact ⟨c, k, i, f, a, cell, h1, h2, h3, h4, h5, h6, h7, h8, h9, hA a (Array.getElem?_eq_some_iff.mp h5).1⟩
theorem vx_isRef {C n d : String} {v : Value} {A : Nat → Prop} {s : State} {args : Array Value} (h : va_Z C n d v A s s.heap) (hv : v.isRef = true) : (Cond.isRef (.static C n d)).before args s = true := by
  obtain ⟨cf, kf, fi, f, a, cell, h1, h2, h3, h4, h5, h6, h7, -⟩ := h
  have he : (Term.static C n d).eval args s none [] s = some v := by
    simp [Term.eval, State.fieldNamed?, h1, h2, h4, h5, h6, h7]
  simp only [Cond.before, Cond.holds, Cond.value, he]
  cases v <;> simp_all [Value.isRef]
theorem vx_isRefq {C n d : String} {A : Nat → Prop} {s : State} {args : Array Value} (h : va_Zq C n d A s s.heap) : (Cond.isRef (.static C n d)).before args s = true := by
  rcases h with h | ⟨t, h⟩
  · exact vx_isRef h rfl
  · exact vx_isRef h rfl
/-- the same frame, seen from here: as if the method were called anew in this heap -/
theorem vx_rebase {T : State} (X : Stand p l e R s m args below meth c T locs cells slots) {R' : Room} (hf : R'.frames ≤ R.frames) (hl : R'.locals ≤ R.locals) (hc : cells + R'.cells ≤ R.cells) (hs : slots + R'.slots ≤ R.slots) :
    Stand p l e R' ((T.setVm s.vm).setFrames (.invoking m args :: below)) m args below meth c T [] 0 0 := by
  have htop : (T.setVm s.vm).topJava?.isSome := X.here.top
  have hF : ((T.setVm s.vm).setFrames (.invoking m args :: below)).frames = .invoking m args :: below := State.frames_setFrames _ (State.cur_lt_of_top htop)
  obtain ⟨g₀, hg0⟩ := Option.isSome_iff_exists.mp htop
  obtain ⟨r, hr⟩ := State.topJava?_eq_some.mp hg0
  have hl9 : e.platform.stackLimits (T.setVm s.vm).me = e.platform.stackLimits s.me := X.limits
  have hb9 : (T.setVm s.vm).me.stackBytes = s.me.stackBytes := X.bytes
  refine ⟨X.admits, X.cas, X.clock, hF, ?_, X.hears, X.method, X.code, X.here, X.tail, X.warmed, ?_, ?_, ?_⟩
  · have h := X.room
    have hU : ((T.setVm s.vm).setFrames (.invoking m args :: below)).localsInUse = s.localsInUse := by
      rw [State.localsInUse_invoking hF (meth := meth) (c := c) X.method X.code, State.localsInUse_invoking X.frames X.method X.code]
    simp only [State.hasRoom, Bool.and_eq_true, decide_eq_true_eq] at h ⊢
    obtain ⟨⟨⟨⟨h1, h2, h3, h4, h5, h6⟩, h7⟩, h8⟩, h9⟩ := h
    rw [X.frames, List.length_cons] at h2 h3
    have q1 := X.heapSize
    have q2 := X.used
    simp only [hF, hU, List.length_cons, State.stackLimits_setFrames, State.stackBytes_setFrames, hl9, hb9]
    refine ⟨⟨⟨⟨by omega, by omega, by omega, by omega, by omega, h6⟩, ?_⟩, ?_⟩, X.book⟩
    · show T.heap.size + R'.cells ≤ e.platform.maxCells
      omega
    · show T.slotsUsed + R'.slots ≤ e.platform.maxSlots
      omega
  · rw [State.stackLimits_setFrames]; rfl
  · rw [State.stackBytes_setFrames]; rfl
  · refine ⟨?_, Nat.le_refl _, Nat.le_refl _, ?_, ?_, fun a c9 h9 => ⟨c9, h9, rfl, rfl, fun _ _ => rfl⟩⟩
    · obtain ⟨t, ht, -⟩ := State.frames_cons hr
      show T.setVm s.vm = { ((T.setVm s.vm).setFrames (.invoking m args :: below)).setFrames (T.setVm s.vm).frames with heap := T.heap, slotsUsed := T.slotsUsed }
      rw [State.setFrames_setFrames, State.setFrames_self ht]
      rfl
    · show T.slotsUsed = T.slotsUsed + ((T.heap.toList.drop T.heap.size).map (·.slots.size)).sum
      rw [List.drop_eq_nil_of_le (Nat.le_of_eq Array.length_toList)]
      rfl
    · show ((T.heap.toList.drop T.heap.size).map (·.slots.size)).sum ≤ 0
      rw [List.drop_eq_nil_of_le (Nat.le_of_eq Array.length_toList)]
      exact Nat.le_refl _
/-- 'throw new E()': new; dup; invokespecial; athrow -/
theorem vx_throw0 {cc : ByteArray} {pc : Nat} (hexec : p.tables.exec = Jvm.exec) (hb : c.code = cc) (hl : l.stackTraces = false) {own cls : String} {names : List String} {ik ic mc ms : Nat} {A : Nat → Prop}
    (hown : s.vm.findClass own = some m.cls) (hcls : Bundle.fit cls = true) (hnames : ∀ n ∈ names, Bundle.fit n = true)
    (hk : (Cond.classLink own ik cls).before args s = true) (hini : (Cond.initialized cls).before args s = true) (hat : ∀ w ∈ vx_at0 own ic cls names, w.before args s = true)
    (hgood : ∀ w ∈ Cond.classLink own ik cls :: Cond.initialized cls :: vx_at0 own ic cls names, vx_ot w = true)
    (hU : vx_Zq Bundle.tN "UNASSIGNED_STACK" Bundle.steD A s s.heap) (hN : vx_Zq Bundle.tN "SUPPRESSED_SENTINEL" Bundle.listD A s s.heap) (hS : va_S A s.heap H locs) (hsize : ls.size = c.maxLocals)
    (d0 : decode cc pc = .ok (.new ik, 3)) (d3 : decode cc (pc + 3) = .ok (.dup, 1)) (d4 : decode cc (pc + 4) = .ok (.invokespecial ic, 3)) (d7 : decode cc (pc + 7) = .ok (.athrow, 1))
    (hout : ∀ x ∈ c.exceptionTable.toList, covers x (pc + 7) = false)
    (hRframes : names.length + 3 < R.frames) (hRlocals : (rest.map fun v => v.category).sum + (13 * (names.length + 1) + 42) ≤ R.locals) (hRcells : cells + 1 ≤ R.cells) (hRslots : slots + 6 ≤ R.slots) (hlocks : meth.locks = false)
    (hx : ∀ t : State, s.vm.Alike t.vm → H.size ≤ t.heap.size → (∀ q : Nat, q < H.size → t.heap[q]? = H[q]?) → XC cls s t)
    (hf : ∀ z ∈ locs, free z.base) (hc : cells + 1 ≤ mc) (hs : slots + 6 ≤ ms) :
    W p l e R s m args below meth c H locs cells slots (vx_MQ below Qc XC args s mc ms free) (F0 m pc ls rest) := by
  intro T hT X
  have htr : e.platform.stackTraces = false := (show e.platform.stackTraces = l.stackTraces by rw [X.admits.platform]).trans hl
  have Y := vx_rebase X (R' := { frames := R.frames, locals := R.locals, cells := 1, slots := 6 }) (Nat.le_refl _) (Nat.le_refl _) hRcells hRslots
  obtain ⟨s', hA⟩ : ∃ z, z = (T.setVm s.vm).setFrames (.invoking m args :: below) := ⟨_, rfl⟩
  rw [← hA] at Y
  have hvm : s'.vm = s.vm := by rw [hA]; rfl
  have hhp : s'.heap = H := by rw [hA]; exact hT
  have hW0 : s.WarmedH s'.vm := by rw [hvm]; exact State.WarmedH.refl s
  have hat' : ∀ w ∈ vx_at0 own ic cls names, w.before args s' = true := fun w hw => vx_ot_at hW0 hvm.symm (hgood w (List.mem_cons_of_mem _ (List.mem_cons_of_mem _ hw))) (hat w hw)
  have hk' : (Cond.classLink own ik cls).before args s' = true := vx_ot_at hW0 hvm.symm (hgood _ List.mem_cons_self) hk
  have hini' : (Cond.initialized cls).before args s' = true := vx_ot_at hW0 hvm.symm (hgood _ (List.mem_cons_of_mem _ List.mem_cons_self)) hini
  have hU' : vx_Zq Bundle.tN "UNASSIGNED_STACK" Bundle.steD A s' s'.heap := by rw [hhp]; exact vx_Zq.moved hW0.alike (hU.kept hS.2.1)
  have hN' : vx_Zq Bundle.tN "SUPPRESSED_SENTINEL" Bundle.listD A s' s'.heap := by rw [hhp]; exact vx_Zq.moved hW0.alike (hN.kept hS.2.1)
  have h : ∀ w ∈ Bundle.ownAtoms0 own ic cls names, w.before args s' = true := vx_own hat' (vx_isRefq hU'.1) (vx_isRefq hN'.1) hU'.2.word hN'.2.word
  have hown' : s'.vm.findClass own = some m.cls := by rw [hvm]; exact hown
  have hins : (Cond.instantiable cls 6).before args s' = true := h _ (by simp [Bundle.ownAtoms0])
  obtain ⟨vm₁, cX, kX, hfX, hkX, -, -, X₁, st1⟩ := Y.newCold hexec (own := own) (C := cls) (index := ik) (n := 6) hown' hk' hins hini'
    (g := F0 m pc ls rest) rfl (by rw [hb]; exact d0) (Nat.le_refl _) (Nat.le_refl _)
  generalize hT1 : (T.setVm vm₁).pushCell { cls := cX, slots := kX.instanceTypes.map defaultValue, vm := .none } = T1 at X₁ st1
  have hcat : (Value.ref T.heap.size).category = 1 := rfl
  have hcellA : T1.heap[T.heap.size]? = some (freshCell cX kX) := by rw [← hT1]; exact State.heap_pushCell_size _ _
  have d3' : decode c.code (pc + 3) = .ok (.dup, 1) := by rw [hb]; exact d3
  obtain ⟨U, hsteps, hrun, hend, hW, hsame, ce, hce, hO⟩ := X₁.ctorThrow0 hexec htr (own := own) (cls := cls) (names := names) (ic := ic) hown' hcls hnames h (fun x hx => nomatch hx) hfX hkX hcellA (by rw [hhp, hT]; exact Nat.le_refl _)
    (g := { method := m, pc := pc + 4, locals := ls, stack := .ref T.heap.size :: .ref T.heap.size :: rest, locked := none }) rfl hsize rfl rfl (rest := rest) rfl
    (by rw [hb]; exact d4) (by rw [hb]; exact d7) hout hRframes (by simp only [List.map_cons, List.sum_cons, hcat]; omega) hlocks
  obtain ⟨f1, f2⟩ := vx_frame hsame
  rw [hhp] at f1 f2
  have hWs : s.WarmedH U.vm := State.WarmedH.trans hW0 hW
  have hcl : s.vm.findClass cls = some ce.cls := by
    have h9 := hO.cls
    rw [hvm] at h9
    exact h9
  have hall : s.sameButNew ({ U with vm := s.vm } : State) locs mc ms := by
    subst hA
    obtain ⟨e1, e2⟩ := hsame
    rw [State.setFrames_setFrames] at e1
    have h2 : (T.setVm s.vm).sameButNew ({ U with vm := s.vm } : State) [] (0 + 1) (0 + 6) := ⟨e1, e2⟩
    have h3 := X.same.trans h2
    rw [List.append_nil] at h3
    exact h3.mono hc hs
  refine ⟨U, ?_, .threw T.heap.size, hrun, hend, Or.inr ⟨T.heap.size, rfl, cls, ce, locs, hx U hWs.alike f1 (fun q hq => f2 q hq (fun z hz => nomatch hz)), hce, hO.vm, hcl, hWs, hall, hf⟩⟩
  refine st1 _ ?_
  show Steps p.tables e below (T1.setTop { method := m, pc := pc + 3, locals := ls, stack := .ref T.heap.size :: rest, locked := none }) _
  jvm_step X₁.here [X₁.here.top, hexec, d3', Value.category]
  exact hsteps
/-- 'throw new E("text")': new; dup; ldc; invokespecial; athrow -/
theorem vx_throwS {cc : ByteArray} {pc : Nat} (hexec : p.tables.exec = Jvm.exec) (hb : c.code = cc) (hl : l.stackTraces = false) {own cls text : String} {names : List String} {ik is ic mc ms sa : Nat} {A : Nat → Prop}
    (hown : s.vm.findClass own = some m.cls) (hcls : Bundle.fit cls = true) (hnames : ∀ n ∈ names, Bundle.fit n = true)
    (hk : (Cond.classLink own ik cls).before args s = true) (hini : (Cond.initialized cls).before args s = true) (hstr : vk_R own is text sa s) (hat : ∀ w ∈ vx_atS own ic cls names, w.before args s = true)
    (hgood : ∀ w ∈ Cond.classLink own ik cls :: Cond.initialized cls :: vx_atS own ic cls names, vx_ot w = true)
    (hU : vx_Zq Bundle.tN "UNASSIGNED_STACK" Bundle.steD A s s.heap) (hN : vx_Zq Bundle.tN "SUPPRESSED_SENTINEL" Bundle.listD A s s.heap) (hS : va_S A s.heap H locs) (hsize : ls.size = c.maxLocals)
    (d0 : decode cc pc = .ok (.new ik, 3)) (d3 : decode cc (pc + 3) = .ok (.dup, 1)) (d4 : decode cc (pc + 4) = .ok (.ldc is, 2)) (d6 : decode cc (pc + 6) = .ok (.invokespecial ic, 3)) (d9 : decode cc (pc + 9) = .ok (.athrow, 1))
    (hout : ∀ x ∈ c.exceptionTable.toList, covers x (pc + 9) = false)
    (hRframes : names.length + 3 < R.frames) (hRlocals : (rest.map fun v => v.category).sum + (13 * (names.length + 1) + 43) ≤ R.locals) (hRcells : cells + 1 ≤ R.cells) (hRslots : slots + 6 ≤ R.slots) (hlocks : meth.locks = false)
    (hx : ∀ t : State, s.vm.Alike t.vm → H.size ≤ t.heap.size → (∀ q : Nat, q < H.size → t.heap[q]? = H[q]?) → XC cls s t)
    (hf : ∀ z ∈ locs, free z.base) (hc : cells + 1 ≤ mc) (hs : slots + 6 ≤ ms) :
    W p l e R s m args below meth c H locs cells slots (vx_MQ below Qc XC args s mc ms free) (F0 m pc ls rest) := by
  intro T hT X
  have htr : e.platform.stackTraces = false := (show e.platform.stackTraces = l.stackTraces by rw [X.admits.platform]).trans hl
  have Y := vx_rebase X (R' := { frames := R.frames, locals := R.locals, cells := 1, slots := 6 }) (Nat.le_refl _) (Nat.le_refl _) hRcells hRslots
  obtain ⟨s', hA⟩ : ∃ z, z = (T.setVm s.vm).setFrames (.invoking m args :: below) := ⟨_, rfl⟩
  rw [← hA] at Y
  have hvm : s'.vm = s.vm := by rw [hA]; rfl
  have hhp : s'.heap = H := by rw [hA]; exact hT
  have hW0 : s.WarmedH s'.vm := by rw [hvm]; exact State.WarmedH.refl s
  have hat' : ∀ w ∈ vx_atS own ic cls names, w.before args s' = true := fun w hw => vx_ot_at hW0 hvm.symm (hgood w (List.mem_cons_of_mem _ (List.mem_cons_of_mem _ hw))) (hat w hw)
  have hk' : (Cond.classLink own ik cls).before args s' = true := vx_ot_at hW0 hvm.symm (hgood _ List.mem_cons_self) hk
  have hini' : (Cond.initialized cls).before args s' = true := vx_ot_at hW0 hvm.symm (hgood _ (List.mem_cons_of_mem _ List.mem_cons_self)) hini
  have hU' : vx_Zq Bundle.tN "UNASSIGNED_STACK" Bundle.steD A s' s'.heap := by rw [hhp]; exact vx_Zq.moved hW0.alike (hU.kept hS.2.1)
  have hN' : vx_Zq Bundle.tN "SUPPRESSED_SENTINEL" Bundle.listD A s' s'.heap := by rw [hhp]; exact vx_Zq.moved hW0.alike (hN.kept hS.2.1)
  have h : ∀ w ∈ Bundle.ownAtoms own ic cls names, w.before args s' = true := vx_own hat' (vx_isRefq hU'.1) (vx_isRefq hN'.1) hU'.2.word hN'.2.word
  have hown' : s'.vm.findClass own = some m.cls := by rw [hvm]; exact hown
  have hins : (Cond.instantiable cls 6).before args s' = true := h _ (by simp [Bundle.ownAtoms])
  obtain ⟨vm₁, cX, kX, hfX, hkX, -, -, X₁, st1⟩ := Y.newCold hexec (own := own) (C := cls) (index := ik) (n := 6) hown' hk' hins hini'
    (g := F0 m pc ls rest) rfl (by rw [hb]; exact d0) (Nat.le_refl _) (Nat.le_refl _)
  generalize hT1 : (T.setVm vm₁).pushCell { cls := cX, slots := kX.instanceTypes.map defaultValue, vm := .none } = T1 at X₁ st1
  have hcat : (Value.ref T.heap.size).category = 1 := rfl
  have hcellA : T1.heap[T.heap.size]? = some (freshCell cX kX) := by rw [← hT1]; exact State.heap_pushCell_size _ _
  have d3' : decode c.code (pc + 3) = .ok (.dup, 1) := by rw [hb]; exact d3
  have d4' : decode c.code (pc + 4) = .ok (.ldc is, 2) := by rw [hb]; exact d4
  have hstr' : vk_R own is text sa s' := vk_R.warm hW0 hstr
  obtain ⟨U, hsteps, hrun, hend, hW, hsame, ce, hce, hO⟩ := X₁.ctorThrowS hexec htr (own := own) (cls := cls) (names := names) (ic := ic) hown' hcls hnames h (fun x hx => nomatch hx) hfX hkX hcellA (by rw [hhp, hT]; exact Nat.le_refl _) (msg := .ref sa) rfl
    (g := { method := m, pc := pc + 6, locals := ls, stack := .ref sa :: .ref T.heap.size :: .ref T.heap.size :: rest, locked := none }) rfl hsize rfl rfl (rest := rest) rfl
    (by rw [hb]; exact d6) (by rw [hb]; exact d9) hout hRframes (by simp only [List.map_cons, List.sum_cons, hcat]; omega) hlocks
  obtain ⟨f1, f2⟩ := vx_frame hsame
  rw [hhp] at f1 f2
  have hWs : s.WarmedH U.vm := State.WarmedH.trans hW0 hW
  have hcl : s.vm.findClass cls = some ce.cls := by
    have h9 := hO.cls
    rw [hvm] at h9
    exact h9
  have hall : s.sameButNew ({ U with vm := s.vm } : State) locs mc ms := by
    subst hA
    obtain ⟨e1, e2⟩ := hsame
    rw [State.setFrames_setFrames] at e1
    have h2 : (T.setVm s.vm).sameButNew ({ U with vm := s.vm } : State) [] (0 + 1) (0 + 6) := ⟨e1, e2⟩
    have h3 := X.same.trans h2
    rw [List.append_nil] at h3
    exact h3.mono hc hs
  refine ⟨U, ?_, .threw T.heap.size, hrun, hend, Or.inr ⟨T.heap.size, rfl, cls, ce, locs, hx U hWs.alike f1 (fun q hq => f2 q hq (fun z hz => nomatch hz)), hce, hO.vm, hcl, hWs, hall, hf⟩⟩
  refine st1 _ ?_
  show Steps p.tables e below (T1.setTop { method := m, pc := pc + 3, locals := ls, stack := .ref T.heap.size :: rest, locked := none }) _
  jvm_step X₁.here [X₁.here.top, hexec, d3', Value.category]
  exact X₁.ldcString hexec (own := own) (text := text) (index := is) (a := sa) hown' hstr'.1 hstr'.2
    (g := { method := m, pc := pc + 4, locals := ls, stack := .ref T.heap.size :: .ref T.heap.size :: rest, locked := none }) rfl d4' _ hsteps
/-- 'throw new E("text")', the text by a wide index -/
theorem vx_throwSW {cc : ByteArray} {pc : Nat} (hexec : p.tables.exec = Jvm.exec) (hb : c.code = cc) (hl : l.stackTraces = false) {own cls text : String} {names : List String} {ik is ic mc ms sa : Nat} {A : Nat → Prop}
    (hown : s.vm.findClass own = some m.cls) (hcls : Bundle.fit cls = true) (hnames : ∀ n ∈ names, Bundle.fit n = true)
    (hk : (Cond.classLink own ik cls).before args s = true) (hini : (Cond.initialized cls).before args s = true) (hstr : vk_R own is text sa s) (hat : ∀ w ∈ vx_atS own ic cls names, w.before args s = true)
    (hgood : ∀ w ∈ Cond.classLink own ik cls :: Cond.initialized cls :: vx_atS own ic cls names, vx_ot w = true)
    (hU : vx_Zq Bundle.tN "UNASSIGNED_STACK" Bundle.steD A s s.heap) (hN : vx_Zq Bundle.tN "SUPPRESSED_SENTINEL" Bundle.listD A s s.heap) (hS : va_S A s.heap H locs) (hsize : ls.size = c.maxLocals)
    (d0 : decode cc pc = .ok (.new ik, 3)) (d3 : decode cc (pc + 3) = .ok (.dup, 1)) (d4 : decode cc (pc + 4) = .ok (.ldc_w is, 3)) (d7 : decode cc (pc + 7) = .ok (.invokespecial ic, 3)) (d10 : decode cc (pc + 10) = .ok (.athrow, 1))
    (hout : ∀ x ∈ c.exceptionTable.toList, covers x (pc + 10) = false)
    (hRframes : names.length + 3 < R.frames) (hRlocals : (rest.map fun v => v.category).sum + (13 * (names.length + 1) + 43) ≤ R.locals) (hRcells : cells + 1 ≤ R.cells) (hRslots : slots + 6 ≤ R.slots) (hlocks : meth.locks = false)
    (hx : ∀ t : State, s.vm.Alike t.vm → H.size ≤ t.heap.size → (∀ q : Nat, q < H.size → t.heap[q]? = H[q]?) → XC cls s t)
    (hf : ∀ z ∈ locs, free z.base) (hc : cells + 1 ≤ mc) (hs : slots + 6 ≤ ms) :
    W p l e R s m args below meth c H locs cells slots (vx_MQ below Qc XC args s mc ms free) (F0 m pc ls rest) := by
  intro T hT X
  have htr : e.platform.stackTraces = false := (show e.platform.stackTraces = l.stackTraces by rw [X.admits.platform]).trans hl
  have Y := vx_rebase X (R' := { frames := R.frames, locals := R.locals, cells := 1, slots := 6 }) (Nat.le_refl _) (Nat.le_refl _) hRcells hRslots
  obtain ⟨s', hA⟩ : ∃ z, z = (T.setVm s.vm).setFrames (.invoking m args :: below) := ⟨_, rfl⟩
  rw [← hA] at Y
  have hvm : s'.vm = s.vm := by rw [hA]; rfl
  have hhp : s'.heap = H := by rw [hA]; exact hT
  have hW0 : s.WarmedH s'.vm := by rw [hvm]; exact State.WarmedH.refl s
  have hat' : ∀ w ∈ vx_atS own ic cls names, w.before args s' = true := fun w hw => vx_ot_at hW0 hvm.symm (hgood w (List.mem_cons_of_mem _ (List.mem_cons_of_mem _ hw))) (hat w hw)
  have hk' : (Cond.classLink own ik cls).before args s' = true := vx_ot_at hW0 hvm.symm (hgood _ List.mem_cons_self) hk
  have hini' : (Cond.initialized cls).before args s' = true := vx_ot_at hW0 hvm.symm (hgood _ (List.mem_cons_of_mem _ List.mem_cons_self)) hini
  have hU' : vx_Zq Bundle.tN "UNASSIGNED_STACK" Bundle.steD A s' s'.heap := by rw [hhp]; exact vx_Zq.moved hW0.alike (hU.kept hS.2.1)
  have hN' : vx_Zq Bundle.tN "SUPPRESSED_SENTINEL" Bundle.listD A s' s'.heap := by rw [hhp]; exact vx_Zq.moved hW0.alike (hN.kept hS.2.1)
  have h : ∀ w ∈ Bundle.ownAtoms own ic cls names, w.before args s' = true := vx_own hat' (vx_isRefq hU'.1) (vx_isRefq hN'.1) hU'.2.word hN'.2.word
  have hown' : s'.vm.findClass own = some m.cls := by rw [hvm]; exact hown
  have hins : (Cond.instantiable cls 6).before args s' = true := h _ (by simp [Bundle.ownAtoms])
  obtain ⟨vm₁, cX, kX, hfX, hkX, -, -, X₁, st1⟩ := Y.newCold hexec (own := own) (C := cls) (index := ik) (n := 6) hown' hk' hins hini'
    (g := F0 m pc ls rest) rfl (by rw [hb]; exact d0) (Nat.le_refl _) (Nat.le_refl _)
  generalize hT1 : (T.setVm vm₁).pushCell { cls := cX, slots := kX.instanceTypes.map defaultValue, vm := .none } = T1 at X₁ st1
  have hcat : (Value.ref T.heap.size).category = 1 := rfl
  have hcellA : T1.heap[T.heap.size]? = some (freshCell cX kX) := by rw [← hT1]; exact State.heap_pushCell_size _ _
  have d3' : decode c.code (pc + 3) = .ok (.dup, 1) := by rw [hb]; exact d3
  have d4' : decode c.code (pc + 4) = .ok (.ldc_w is, 3) := by rw [hb]; exact d4
  have hstr' : vk_R own is text sa s' := vk_R.warm hW0 hstr
  obtain ⟨U, hsteps, hrun, hend, hW, hsame, ce, hce, hO⟩ := X₁.ctorThrowS hexec htr (own := own) (cls := cls) (names := names) (ic := ic) hown' hcls hnames h (fun x hx => nomatch hx) hfX hkX hcellA (by rw [hhp, hT]; exact Nat.le_refl _) (msg := .ref sa) rfl
    (g := { method := m, pc := pc + 7, locals := ls, stack := .ref sa :: .ref T.heap.size :: .ref T.heap.size :: rest, locked := none }) rfl hsize rfl rfl (rest := rest) rfl
    (by rw [hb]; exact d7) (by rw [hb]; exact d10) hout hRframes (by simp only [List.map_cons, List.sum_cons, hcat]; omega) hlocks
  obtain ⟨f1, f2⟩ := vx_frame hsame
  rw [hhp] at f1 f2
  have hWs : s.WarmedH U.vm := State.WarmedH.trans hW0 hW
  have hcl : s.vm.findClass cls = some ce.cls := by
    have h9 := hO.cls
    rw [hvm] at h9
    exact h9
  have hall : s.sameButNew ({ U with vm := s.vm } : State) locs mc ms := by
    subst hA
    obtain ⟨e1, e2⟩ := hsame
    rw [State.setFrames_setFrames] at e1
    have h2 : (T.setVm s.vm).sameButNew ({ U with vm := s.vm } : State) [] (0 + 1) (0 + 6) := ⟨e1, e2⟩
    have h3 := X.same.trans h2
    rw [List.append_nil] at h3
    exact h3.mono hc hs
  refine ⟨U, ?_, .threw T.heap.size, hrun, hend, Or.inr ⟨T.heap.size, rfl, cls, ce, locs, hx U hWs.alike f1 (fun q hq => f2 q hq (fun z hz => nomatch hz)), hce, hO.vm, hcl, hWs, hall, hf⟩⟩
  refine st1 _ ?_
  show Steps p.tables e below (T1.setTop { method := m, pc := pc + 3, locals := ls, stack := .ref T.heap.size :: rest, locked := none }) _
  jvm_step X₁.here [X₁.here.top, hexec, d3', Value.category]
  exact X₁.ldcStringW hexec (own := own) (text := text) (index := is) (a := sa) hown' hstr'.1 hstr'.2
    (g := { method := m, pc := pc + 4, locals := ls, stack := .ref T.heap.size :: .ref T.heap.size :: rest, locked := none }) rfl d4' _ hsteps
end Ends
section Bodies
variable {l : Launch}
theorem vx_ofW {y : MethodName} {ws ws' : List Cond} {rm : Room} {Pc : Array Value → State → Prop} {Qc : Array Value → State → Outcome → State → Prop} {XC : String → State → State → Prop} {mc ms : Nat} {free : Addr → Prop} {cc : ByteArray} {maxL : Nat} {ret : Option FieldType}
    (hy : plainName y.cls = true) (hw : ws = Cond.code y cc maxL ret :: ws')
    (body : ∀ p e s m args below meth c s₁, BodyLoose p l y (headSpec ws rm) cc maxL ret e s m args below meth c s₁ → c.maxLocals = maxL → (∀ x ∈ c.exceptionTable.toList, False) → Pc args s →
      W p l e (headSpec ws rm).room s m args below meth c s.heap [] 0 0 (vx_MQ below Qc XC args s mc ms free) (entryFrame m args maxL)) : vx_Met l y ws rm Pc Qc XC mc ms free := by
  refine MetFree.of_bodyS (code := cc) (maxLocals := maxL) (ret := ret) hy ?_ ?_
  · intro args s m h hn
    obtain ⟨meth, c, h1, h2, h3, h4, h5, h6, -, -⟩ := Cond.code_spec hn (atoms_spec (ws := ws) h _ (by rw [hw]; exact List.mem_cons_self))
    exact ⟨meth, c, h1, h2, h3, h4, h5, h6⟩
  · intro p e s m args below meth c s₁ B hml hP _
    have hh0 : s₁.heap = s.heap := by rw [B.state]; rfl
    have ht : ∀ x ∈ c.exceptionTable.toList, False := by
      obtain ⟨meth9, c9, h1, h2, -, -, -, -, h7, -⟩ := Cond.code_spec B.named (atoms_spec (ws := ws) B.pre _ (by rw [hw]; exact List.mem_cons_self))
      cases Option.some.inj (h1.symm.trans B.method)
      cases Option.some.inj (h2.symm.trans (Stand.of_body B).code)
      intro x hx
      rw [Array.isEmpty_iff.mp h7] at hx
      cases hx
    obtain ⟨t, a1, o, b1, b2, b3⟩ := body p e s m args below meth c s₁ B hml ht hP s₁ hh0 (Stand.of_body B)
    exact ⟨t, o, a1, b1, b2, b3⟩
/-- the table of a body with handlers -/
theorem vx_table {p : Program} {x y : MethodName} {S : Spec} {cc bytes : ByteArray} {maxL maxL' : Nat} {ret ret' : Option FieldType} {e : Env} {s s₁ : State} {m : MethodId} {args : Array Value} {below : List Frame} {meth : Method} {c : Code} {hh : List (Nat × Nat × Nat × Nat)}
    (B : BodyLoose p l y S cc maxL ret e s m args below meth c s₁) (h : (Cond.codeWith y bytes maxL' ret' hh).before args s = true) : c.exceptionTable.toList = tableOf hh := by
  obtain ⟨m9, meth9, c9, hn9, h1, h2, -, -, h6, -⟩ := Cond.codeWith_spec h
  cases Option.some.inj (hn9.symm.trans B.named)
  cases Option.some.inj (h1.symm.trans B.method)
  cases Option.some.inj (h2.symm.trans (Stand.of_body B).code)
  rw [← h6, table_eq]
end Bodies
end VXA
/-! ===== END ===== -/
/-! ===== BEGIN a static call of a method with an exception table ===== -/
section VXS
variable {p : Program} {l : Launch} {e : Env} {R : Room} {s : State} {m : MethodId} {args : Array Value} {below : List Frame} {meth : Method} {c : Code} {T : State} {H : Heap} {locs : List Loc} {cells slots : Nat}
abbrev vx_CSW (R : Room) (s : State) (args : Array Value) (own : String) (index : Nat) (y : MethodName) (bytes : ByteArray) (maxL : Nat) (ret : Option FieldType) (hh : List (Nat × Nat × Nat × Nat)) (ws : List Cond) (rm : Room) (mc ms n : Nat) : Prop :=
  (rm.cells = mc ∧ rm.slots = ms ∧ rm.frames + 1 ≤ R.frames ∧ 8 + (maxL + 11) + rm.locals ≤ R.locals ∧ (∀ w ∈ ws, ∀ (a' : Array Value) (U : State), s.WarmedH U.vm → w.before a' U = true) ∧ Cond.codeWith y bytes maxL ret hh ∈ ws) ∧
  (Cond.codeWith y bytes maxL ret hh).before args s = true ∧ (Cond.initialized y.cls).before args s = true ∧ (y.cls ≠ "java/lang/invoke/MethodHandle" ∧ y.cls ≠ "java/lang/invoke/VarHandle") ∧
  (∀ sig, parseMethodDescriptor y.desc = some sig → n = sig.parameters.length) ∧ (Cond.methodLink own index y).before args s = true ∧ (Cond.static y).before args s = true
theorem vx_cwSW {own : String} {index maxL mc ms : Nat} {y : MethodName} {bytes : ByteArray} {ret : Option FieldType} {hh : List (Nat × Nat × Nat × Nat)} {Ts ws ws' : List Cond} {rm : Room} (n : Nat) (ht : ∀ w ∈ Ts, w.before args s = true) (hT : GoodIn Ts (va_wsS own index y ws)) (hw : ws = Cond.codeWith y bytes maxL ret hh :: ws') (hrc : rm.cells = mc) (hrs : rm.slots = ms)
    (hd : y.cls ≠ "java/lang/invoke/MethodHandle" ∧ y.cls ≠ "java/lang/invoke/VarHandle" ∧ (parseMethodDescriptor y.desc).map (fun d => d.parameters.length) = some n) (hR : rm.frames + 1 ≤ R.frames ∧ 8 + (maxL + 11) + rm.locals ≤ R.locals) :
    vx_CSW R s args own index y bytes maxL ret hh ws rm mc ms n := by
  have ok : ∀ w ∈ va_wsS own index y ws, w.before args s = true := fun w h => ht w (hT w h).1
  have hG : GoodIn Ts ws := fun w h => hT w (by unfold va_wsS; exact List.mem_append_right _ h)
  have hc : Cond.codeWith y bytes maxL ret hh ∈ ws := by rw [hw]; exact List.mem_cons_self
  refine ⟨⟨hrc, hrs, hR.1, hR.2, pay_in ht hG, hc⟩, ht _ (hG _ hc).1, ok _ (by simp [va_wsS]), ⟨hd.1, hd.2.1⟩, fun sig h => ?_, ok _ (by simp [va_wsS]), ok _ (by simp [va_wsS])⟩
  have h2 := hd.2.2
  rw [h] at h2
  exact (Option.some.inj h2).symm
theorem vx_callSW (X : Stand p l e R s m args below meth c T locs cells slots) (hexec : p.tables.exec = Jvm.exec) {own : String} {index : Nat} {y : MethodName} {bytes : ByteArray} {maxL : Nat} {ret : Option FieldType} {hh : List (Nat × Nat × Nat × Nat)}
    (hown : s.vm.findClass own = some m.cls) (hlink : (Cond.methodLink own index y).before args s = true) (hstat : (Cond.static y).before args s = true) (hinit : (Cond.initialized y.cls).before args s = true)
    (hcode : (Cond.codeWith y bytes maxL ret hh).before args s = true) (hy : y.cls ≠ "java/lang/invoke/MethodHandle" ∧ y.cls ≠ "java/lang/invoke/VarHandle")
    {W9 : Nat} {Pre : Pt → Array Value → Prop} {Post : Pt → Array Value → Option Value → Pt → Prop} (hK : Back l R p e below s args y 3 W9 Pre Post)
    {g : JFrame} (hg : g.method = m) (hsize : g.locals.size = c.maxLocals) {argsL rest : List Value} (hlen : ∀ sig, parseMethodDescriptor y.desc = some sig → argsL.length = sig.parameters.length)
    (hstack : g.stack = argsL.reverse ++ rest) (hW : 2 * g.monitorRoom + (rest.map fun v => v.category).sum ≤ W9) (hdg : decode c.code g.pc = .ok (.invokestatic index, 3))
    (hpre : ∀ vm₁, s.WarmedH vm₁ → Pre ⟨T.setVm vm₁, locs, cells, slots⟩ argsL.toArray) :
    ∃ (v : Option Value) (vm₁ : Vm) (B : Pt), s.WarmedH vm₁ ∧ Stand p l e R s m args below meth c B.U B.locs B.cells B.slots ∧ Post ⟨T.setVm vm₁, locs, cells, slots⟩ argsL.toArray v B ∧
      ∀ target, Steps p.tables e below (B.U.setTop { g with pc := g.pc + 3, stack := v.toList ++ rest }) target → Steps p.tables e below (T.setTop g) target := by
  obtain ⟨mk, methM, cM, hnamed, hmethM, -, -, -, -, -, -, hsigM⟩ := Cond.codeWith_spec hcode
  have hstatic : methM.isStatic = true := Cond.static_spec hnamed hmethM hstat
  obtain ⟨kP, hkP, -⟩ := className_of_methodNamed hnamed
  have hinitP : kP.init = .initialized := Cond.initialized_spec (findClass_of_methodNamed hnamed) hkP hinit
  obtain ⟨vm₁, X₁, hstep₁⟩ := X.invokestatic hexec hown hlink hnamed hmethM hstatic hkP hinitP hy (g := g) hg (argsL := argsL) (rest := rest) (hlen _ hsigM) hstack hdg
  obtain ⟨v, B, X', hpost, hsteps⟩ := hK m meth c ⟨T.setVm vm₁, locs, cells, slots⟩ { g with stack := rest } (.invokestatic index) mk argsL.toArray X₁ hg hsize hdg hW (X₁.named hnamed) (hpre vm₁ X₁.warmed)
  exact ⟨v, vm₁, B, X₁.warmed, X', hpost, fun target h => hstep₁ _ fun acts => by rw [doInvoke_state]; exact hsteps.trans h⟩
theorem vx_runSW {y : MethodName} {bytes cc : ByteArray} {maxL nL mc ms n index : Nat} {ret : Option FieldType} {hh : List (Nat × Nat × Nat × Nat)} {ws : List Cond} {rm : Room} {Pc : Array Value → State → Prop} {Qc : Array Value → State → Outcome → State → Prop} {free : Addr → Prop} {Ts : List Cond} {own : String} {As rest : List Value} {g : JFrame}
    (S : CallFix p m c cc nL s args Ts own) (hM : Met l y ws rm Pc Qc mc ms free) (cw : vx_CSW R s args own index y bytes maxL ret hh ws rm mc ms n) (hp : PreS s H Pc As)
    (hg : g.method = m) (hn : As.length = n) (hsize : g.locals.size = nL) (hstack : g.stack = As.reverse ++ rest) (hW : 2 * g.monitorRoom + (rest.map fun v => v.category).sum ≤ 8) (hdg : decode cc g.pc = .ok (.invokestatic index, 3)) (hf : cells + mc ≤ R.cells ∧ slots + ms ≤ R.slots) :
    va_Run p l e R s m args below meth c H locs cells slots mc ms g rest (Qc As.toArray) (free) := by
  obtain ⟨⟨hrc, hrs, hfr, hlo, hws, hcw⟩, hcode, hini, hy, hlen, hl, hstt⟩ := cw
  have hK : Back l R p e below s args y 3 8 (PreOf R mc ms Pc) (PostOf Qc mc ms free) := va_backW (hh := hh) (bytes := bytes) (maxL := maxL) (ret := ret) hM hp.1 hrc hrs hfr hlo hws hcw (fun a' U hW => word_at hW (Or.inl (by first | rfl | simp [Cond.onTables, Cond.keeps, Cond.steady])) hini)
  obtain ⟨hx, hb, hml, ho, -⟩ := S
  intro T hT X
  obtain ⟨v, vm₁, ⟨U', l2, c2, s2⟩, hW₁, X', ⟨g', mk, t, L, e1, e2, hq, h1, hL, h2, h3⟩, st⟩ := vx_callSW X hx (hh := hh) (bytes := bytes) (maxL := maxL) (ret := ret) ho hl hstt hini hcode hy hK hg (hsize.trans hml.symm) (argsL := As) (rest := rest) (fun sig h => hn.trans (hlen sig h)) hstack hW (by rw [hb]; exact hdg)
    (fun vm₁ hW₁ => ⟨hf.1, hf.2, hp.2 (T.setVm vm₁) hT hW₁⟩)
  dsimp only [Pt.U, Pt.locs, Pt.cells, Pt.slots] at X' e1 e2 h1 h2 h3 st
  subst h1; subst h2; subst h3
  exact ⟨v, (T.setVm vm₁).calling g' mk As.toArray, t, U', L, hT, X', hL, e1, e2, hq, st⟩
/-- a thing of a world lies in the heap -/
theorem vx_lt {D : va_G} {cl : List vw_C} {ws : va_W} {H1 : Heap} (h : va_P D cl ws H1) {k : Nat} {q : Nat × va_E} (hk : ws[k]? = some q) : q.1 < H1.size := (h k q hk).lt
end VXS
/-! ===== END ===== -/
/-! ===== BEGIN methods with a table of their own: called by a name, returning or throwing ===== -/
section VXH
/-! vx_backW, vx_callVX, vx_callSX, vx_callVW, vx_runVW, vx_runVX, vx_runSX, vx_ofWH follow the same proofs as their sisters above (Free/Laws.lean, Shelf42/LK1.lean); vx_outP calls Shelf42/NT130.lean (outThrough). -/
section
variable {l : Launch} {R : Room} {p : Program} {e : Env} {below : List Frame} {s : State} {sargs : Array Value} {y : MethodName} {len W9 : Nat}
theorem vx_backW {ws : List Cond} {rm : Room} {Pc : Array Value → State → Prop} {Qc : Array Value → State → Outcome → State → Prop} {XC : String → State → State → Prop} {mc ms : Nat} {free : Addr → Prop} {bytes : ByteArray} {maxL : Nat} {ret : Option FieldType} {hh : List (Nat × Nat × Nat × Nat)}
    (hM : vx_Met l y ws rm Pc Qc XC mc ms free) (hblind : FrameBlind Pc) (hrc : rm.cells = mc) (hrs : rm.slots = ms)
    (hframes : rm.frames + 1 ≤ R.frames) (hlocals : W9 + (maxL + 11) + rm.locals ≤ R.locals)
    (hws : ∀ w ∈ ws, ∀ a' U, s.WarmedH U.vm → w.before a' U = true) (hcode : Cond.codeWith y bytes maxL ret hh ∈ ws) (hinit : ∀ a' U, s.WarmedH U.vm → (Cond.initialized y.cls).before a' U = true) :
    vx_Back l R p e below s sargs y len W9 (PreOf R mc ms Pc) (PostOf Qc mc ms free) (vx_Post XC mc ms free) := by
  intro m meth c A g ig mk a X hg hsize hdg hW hn hp
  have h1 : (headSpec ws rm).pre.before a A.U = true := atoms_intro fun w hw => hws w hw _ _ X.warmed
  have h2 : (Cond.codeWith y bytes maxL ret hh).before a A.U = true := hws _ hcode _ _ X.warmed
  have h3 : (Cond.initialized y.cls).before a A.U = true := hinit _ _ X.warmed
  have h4 : A.cells + (headSpec ws rm).room.cells ≤ R.cells := by rw [show (headSpec ws rm).room.cells = mc from hrc]; exact hp.1
  have h5 : A.slots + (headSpec ws rm).room.slots ≤ R.slots := by rw [show (headSpec ws rm).room.slots = ms from hrs]; exact hp.2.1
  have hPc : Pc a (A.U.calling g mk a) := hblind _ _ _ _ hp.2.2
  obtain ⟨U, Ls, c0, s0⟩ := A
  dsimp only [Pt.U, Pt.locs, Pt.cells, Pt.slots] at h1 h2 h3 h4 h5 X hn hPc ⊢
  obtain ⟨m9, methY, cY, hn9, hmY, hcY, -, hlY, -⟩ := Cond.codeWith_spec h2
  cases Option.some.inj (hn9.symm.trans hn)
  obtain ⟨kY, hkY, -⟩ := className_of_methodNamed hn
  have hinitY : kY.init = .initialized := Cond.initialized_spec (findClass_of_methodNamed hn) hkY h3
  have h : At U g.method c below := by rw [hg]; exact X.here
  have hlocals9 : W9 + (maxL + 11) + (headSpec ws rm).room.locals ≤ R.locals := hlocals
  have happ : (headSpec ws rm).appliesLoose y e.platform (U.calling g mk a) = true :=
    Spec.appliesLoose_calling (g := g) h hdg hn hkY hinitY
      (X.room_calling (g := g) (R' := (headSpec ws rm).room) hsize hmY hcY hframes (by rw [hlY]; omega) h4 h5) h1
  obtain ⟨mid, hmid⟩ := h.above
  have hfr : (U.setTop g).frames = (.java g :: mid) ++ below := by rw [State.frames_setTop' g h.top, hmid]; rfl
  obtain ⟨o, s₂, hsteps, -, hend, hq⟩ := Steps.callFree hM p X.admits X.cas X.clock (acts := []) hfr happ hPc trivial
  have hq' : vx_Q Qc XC mc ms free a (U.calling g mk a) o s₂ := hq
  rw [State.frames_setTop' g h.top] at hend
  obtain ⟨g₀, hg0⟩ := Option.isSome_iff_exists.mp h.top
  obtain ⟨r, hr⟩ := State.topJava?_eq_some.mp hg0
  have hr' : (({ U with heap := s₂.heap, slotsUsed := s₂.slotsUsed } : State).setVm s₂.vm).frames = .java g₀ :: r := hr
  rcases hq' with ⟨hqc, L, hfe, hL⟩ | ⟨q, rfl, E, ce, L, hx, hce, hcv, hcl, hW₂, hsm, hL⟩
  · obtain ⟨⟨v, rfl⟩, hW₂, e2, q2, q3, q4, q5, q6⟩ := id hfe
    have e3 : s₂ = ({ (U.calling g mk a).setFrames s₂.frames with heap := s₂.heap, slotsUsed := s₂.slotsUsed } : State).setVm s₂.vm := by
      have : s₂ = ({ s₂ with vm := (U.calling g mk a).vm } : State).setVm s₂.vm := rfl
      rw [e2] at this
      exact this
    obtain ⟨c₂, i₂, len₂, hc₂, hd₂, hf₂⟩ := hend
    have hW' : U.WarmedH s₂.vm := hW₂
    have hcc : c₂ = c := by
      have h1 : s₂.code? g.method = U.code? g.method := by
        rw [State.code?_eq, State.code?_eq, hW'.alike.method?]
      exact Option.some.inj (hc₂.symm.trans (h1.trans h.code))
    subst hcc
    have hlen : len₂ = len := by rw [hdg] at hd₂; cases hd₂; rfl
    subst hlen
    have hs₂ : s₂ = (({ U with heap := s₂.heap, slotsUsed := s₂.slotsUsed } : State).setVm s₂.vm).setTop { g with pc := g.pc + len₂, stack := v.toList ++ g.stack } := by
      refine e3.trans ?_
      rw [hf₂, State.calling_eq h.top, State.setFrames_setFrames, State.setTop_of_frames _ hr', hr]
      rfl
    have hsame : U.sameButNew ({ U with heap := s₂.heap, slotsUsed := s₂.slotsUsed } : State) L mc ms := by
      refine ⟨?_, q2, q3, q4, q5, q6⟩
      obtain ⟨t, ht, -⟩ := State.frames_cons hr
      show ({ U with heap := s₂.heap, slotsUsed := s₂.slotsUsed } : State) = { U.setFrames U.frames with heap := s₂.heap, slotsUsed := s₂.slotsUsed }
      rw [State.setFrames_self ht]
    subst hg
    refine Or.inl ⟨v, ⟨(({ U with heap := s₂.heap, slotsUsed := s₂.slotsUsed } : State).setVm s₂.vm), Ls ++ L, c0 + mc, s0 + ms⟩,
      ⟨X.admits, X.cas, X.clock, X.frames, X.room, X.hears, X.method, X.code, (X.here.setHeapUsed s₂.heap s₂.slotsUsed).setVm hW'.alike, X.tail, State.WarmedH.trans X.warmed hW', X.limits, X.bytes, X.same.trans (hsame.setVm s.vm)⟩,
      ⟨g, mk, s₂, L, rfl, rfl, hqc, rfl, hL, rfl, rfl⟩, ?_⟩
    show Steps p.tables e below _ ((({ U with heap := s₂.heap, slotsUsed := s₂.slotsUsed } : State).setVm s₂.vm).setTop { g with pc := g.pc + len₂, stack := v.toList ++ g.stack })
    rw [← hs₂]
    exact hsteps
  · obtain ⟨e2, q2, q3, q4, q5, q6⟩ := id hsm
    have e3 : s₂ = ({ (U.calling g mk a).setFrames s₂.frames with heap := s₂.heap, slotsUsed := s₂.slotsUsed } : State).setVm s₂.vm := by
      have : s₂ = ({ s₂ with vm := (U.calling g mk a).vm } : State).setVm s₂.vm := rfl
      rw [e2] at this
      exact this
    have hf₂ : s₂.frames = .throwing q :: .java g :: U.frames.tail := hend
    have hW' : U.WarmedH s₂.vm := hW₂
    have hs₂ : s₂ = ((({ U with heap := s₂.heap, slotsUsed := s₂.slotsUsed } : State).setVm s₂.vm).setTop g).pushFrame (.throwing q) := by
      refine e3.trans ?_
      rw [hf₂, State.calling_eq h.top, State.setFrames_setFrames, State.pushFrame, State.frames_setTop _ hr', State.setTop_of_frames _ hr', State.setFrames_setFrames, hr]
      rfl
    have hsame : U.sameButNew ({ U with heap := s₂.heap, slotsUsed := s₂.slotsUsed } : State) L mc ms := by
      refine ⟨?_, q2, q3, q4, q5, q6⟩
      obtain ⟨t, ht, -⟩ := State.frames_cons hr
      show ({ U with heap := s₂.heap, slotsUsed := s₂.slotsUsed } : State) = { U.setFrames U.frames with heap := s₂.heap, slotsUsed := s₂.slotsUsed }
      rw [State.setFrames_self ht]
    subst hg
    refine Or.inr ⟨q, ⟨(({ U with heap := s₂.heap, slotsUsed := s₂.slotsUsed } : State).setVm s₂.vm), Ls ++ L, c0 + mc, s0 + ms⟩,
      ⟨X.admits, X.cas, X.clock, X.frames, X.room, X.hears, X.method, X.code, (X.here.setHeapUsed s₂.heap s₂.slotsUsed).setVm hW'.alike, X.tail, State.WarmedH.trans X.warmed hW', X.limits, X.bytes, X.same.trans (hsame.setVm s.vm)⟩,
      ⟨g, mk, s₂, L, E, ce, rfl, rfl, hx, hce, hcv, hcl, rfl, hL, rfl, rfl⟩, ?_⟩
    show Steps p.tables e below _ (((({ U with heap := s₂.heap, slotsUsed := s₂.slotsUsed } : State).setVm s₂.vm).setTop g).pushFrame (.throwing q))
    rw [← hs₂]
    exact hsteps
end
variable {p : Program} {l : Launch} {e : Env} {R : Room} {s : State} {m : MethodId} {args : Array Value} {below : List Frame} {meth : Method} {c : Code} {T : State} {H : Heap} {locs : List Loc} {cells slots : Nat}
theorem vx_callVX (X : Stand p l e R s m args below meth c T locs cells slots) (hexec : p.tables.exec = Jvm.exec) {own C : String} {index : Nat} {y : MethodName} {bytes : ByteArray} {maxL : Nat} {ret : Option FieldType} {hh : List (Nat × Nat × Nat × Nat)}
    (hown : s.vm.findClass own = some m.cls) (hlink : (Cond.methodLink own index y).before args s = true) (hinst : (Cond.instanceMethod y).before args s = true) (hsel : (Cond.selects C y y).before args s = true)
    (hcode : (Cond.codeWith y bytes maxL ret hh).before args s = true) (hy : y.cls ≠ "java/lang/invoke/MethodHandle" ∧ y.cls ≠ "java/lang/invoke/VarHandle")
    {W9 : Nat} {Pre : Pt → Array Value → Prop} {Post : Pt → Array Value → Option Value → Pt → Prop} {PostX : Pt → Array Value → Addr → Pt → Prop} (hK : vx_Back l R p e below s args y 3 W9 Pre Post PostX)
    {b : Addr} {cellB : Cell} (hcell : T.heap[b]? = some cellB) (hobj : cellB.vm.isStatics = false) (hcls : s.vm.findClass C = some cellB.cls)
    {g : JFrame} (hg : g.method = m) (hsize : g.locals.size = c.maxLocals) {argsL rest : List Value} (hlen : ∀ sig, parseMethodDescriptor y.desc = some sig → argsL.length = sig.parameters.length)
    (hstack : g.stack = argsL.reverse ++ .ref b :: rest) (hW : 2 * g.monitorRoom + (rest.map fun v => v.category).sum ≤ W9) (hdg : decode c.code g.pc = .ok (.invokevirtual index, 3))
    (hpre : ∀ vm₁, s.WarmedH vm₁ → Pre ⟨T.setVm vm₁, locs, cells, slots⟩ (Value.ref b :: argsL).toArray) :
    (∃ (v : Option Value) (vm₁ : Vm) (B : Pt), s.WarmedH vm₁ ∧ Stand p l e R s m args below meth c B.U B.locs B.cells B.slots ∧ Post ⟨T.setVm vm₁, locs, cells, slots⟩ (Value.ref b :: argsL).toArray v B ∧
      ∀ target, Steps p.tables e below (B.U.setTop { g with pc := g.pc + 3, stack := v.toList ++ rest }) target → Steps p.tables e below (T.setTop g) target) ∨
    (∃ (q : Addr) (vm₁ : Vm) (B : Pt), s.WarmedH vm₁ ∧ Stand p l e R s m args below meth c B.U B.locs B.cells B.slots ∧ PostX ⟨T.setVm vm₁, locs, cells, slots⟩ (Value.ref b :: argsL).toArray q B ∧
      Steps p.tables e below (T.setTop g) ((B.U.setTop { g with stack := rest }).pushFrame (.throwing q))) := by
  obtain ⟨mk, methM, hnamed, hmethM, hstM, habM⟩ := Cond.instanceMethod_spec hinst
  obtain ⟨m8, methM', cM, hn8, hmethM', -, -, -, -, -, -, hsigM⟩ := Cond.codeWith_spec hcode
  cases Option.some.inj (hn8.symm.trans hnamed)
  cases hmethM.symm.trans hmethM'
  obtain ⟨c2, r2, m2, q1, q2, q3, q4, kP, hkP, hkPi⟩ := Cond.selects_spec hsel
  cases hcls.symm.trans q1
  cases (State.methodFound?_of_named hnamed hy).symm.trans q2
  cases hnamed.symm.trans q3
  have hselP : selectMethod e.platform s.vm cellB.cls mk = .method mk := by rw [Launch.admits_selectMethod X.admits]; exact q4
  obtain ⟨vm₁, X₁, hstep₁⟩ := X.invokevirtual hexec hown hlink hnamed hmethM hstM hkP hkPi hy (a := b) (cell := cellB) hcell
    (fun z h => by rw [h] at hobj; cases hobj) hselP hmethM habM hkP hkPi (g := g) hg (argsL := argsL) (rest := rest) (hlen _ hsigM) hstack hdg
  rcases hK m meth c ⟨T.setVm vm₁, locs, cells, slots⟩ { g with stack := rest } (.invokevirtual index) mk (Value.ref b :: argsL).toArray X₁ hg hsize hdg hW (X₁.named hnamed) (hpre vm₁ X₁.warmed) with ⟨v, B, X', hpost, hsteps⟩ | ⟨q, B, X', hpost, hsteps⟩
  · exact Or.inl ⟨v, vm₁, B, X₁.warmed, X', hpost, fun target h => hstep₁ _ fun acts => by rw [doInvoke_state]; exact hsteps.trans h⟩
  · exact Or.inr ⟨q, vm₁, B, X₁.warmed, X', hpost, hstep₁ _ fun acts => by rw [doInvoke_state]; exact hsteps⟩
theorem vx_callSX (X : Stand p l e R s m args below meth c T locs cells slots) (hexec : p.tables.exec = Jvm.exec) {own : String} {index : Nat} {y : MethodName} {bytes : ByteArray} {maxL : Nat} {ret : Option FieldType} {hh : List (Nat × Nat × Nat × Nat)}
    (hown : s.vm.findClass own = some m.cls) (hlink : (Cond.methodLink own index y).before args s = true) (hstat : (Cond.static y).before args s = true) (hinit : (Cond.initialized y.cls).before args s = true)
    (hcode : (Cond.codeWith y bytes maxL ret hh).before args s = true) (hy : y.cls ≠ "java/lang/invoke/MethodHandle" ∧ y.cls ≠ "java/lang/invoke/VarHandle")
    {W9 : Nat} {Pre : Pt → Array Value → Prop} {Post : Pt → Array Value → Option Value → Pt → Prop} {PostX : Pt → Array Value → Addr → Pt → Prop} (hK : vx_Back l R p e below s args y 3 W9 Pre Post PostX)
    {g : JFrame} (hg : g.method = m) (hsize : g.locals.size = c.maxLocals) {argsL rest : List Value} (hlen : ∀ sig, parseMethodDescriptor y.desc = some sig → argsL.length = sig.parameters.length)
    (hstack : g.stack = argsL.reverse ++ rest) (hW : 2 * g.monitorRoom + (rest.map fun v => v.category).sum ≤ W9) (hdg : decode c.code g.pc = .ok (.invokestatic index, 3))
    (hpre : ∀ vm₁, s.WarmedH vm₁ → Pre ⟨T.setVm vm₁, locs, cells, slots⟩ argsL.toArray) :
    (∃ (v : Option Value) (vm₁ : Vm) (B : Pt), s.WarmedH vm₁ ∧ Stand p l e R s m args below meth c B.U B.locs B.cells B.slots ∧ Post ⟨T.setVm vm₁, locs, cells, slots⟩ argsL.toArray v B ∧
      ∀ target, Steps p.tables e below (B.U.setTop { g with pc := g.pc + 3, stack := v.toList ++ rest }) target → Steps p.tables e below (T.setTop g) target) ∨
    (∃ (q : Addr) (vm₁ : Vm) (B : Pt), s.WarmedH vm₁ ∧ Stand p l e R s m args below meth c B.U B.locs B.cells B.slots ∧ PostX ⟨T.setVm vm₁, locs, cells, slots⟩ argsL.toArray q B ∧
      Steps p.tables e below (T.setTop g) ((B.U.setTop { g with stack := rest }).pushFrame (.throwing q))) := by
  obtain ⟨mk, methM, cM, hnamed, hmethM, -, -, -, -, -, -, hsigM⟩ := Cond.codeWith_spec hcode
  have hstatic : methM.isStatic = true := Cond.static_spec hnamed hmethM hstat
  obtain ⟨kP, hkP, -⟩ := className_of_methodNamed hnamed
  have hinitP : kP.init = .initialized := Cond.initialized_spec (findClass_of_methodNamed hnamed) hkP hinit
  obtain ⟨vm₁, X₁, hstep₁⟩ := X.invokestatic hexec hown hlink hnamed hmethM hstatic hkP hinitP hy (g := g) hg (argsL := argsL) (rest := rest) (hlen _ hsigM) hstack hdg
  rcases hK m meth c ⟨T.setVm vm₁, locs, cells, slots⟩ { g with stack := rest } (.invokestatic index) mk argsL.toArray X₁ hg hsize hdg hW (X₁.named hnamed) (hpre vm₁ X₁.warmed) with ⟨v, B, X', hpost, hsteps⟩ | ⟨q, B, X', hpost, hsteps⟩
  · exact Or.inl ⟨v, vm₁, B, X₁.warmed, X', hpost, fun target h => hstep₁ _ fun acts => by rw [doInvoke_state]; exact hsteps.trans h⟩
  · exact Or.inr ⟨q, vm₁, B, X₁.warmed, X', hpost, hstep₁ _ fun acts => by rw [doInvoke_state]; exact hsteps⟩
theorem vx_callVW (X : Stand p l e R s m args below meth c T locs cells slots) (hexec : p.tables.exec = Jvm.exec) {own C : String} {index : Nat} {y : MethodName} {bytes : ByteArray} {maxL : Nat} {ret : Option FieldType} {hh : List (Nat × Nat × Nat × Nat)}
    (hown : s.vm.findClass own = some m.cls) (hlink : (Cond.methodLink own index y).before args s = true) (hinst : (Cond.instanceMethod y).before args s = true) (hsel : (Cond.selects C y y).before args s = true)
    (hcode : (Cond.codeWith y bytes maxL ret hh).before args s = true) (hy : y.cls ≠ "java/lang/invoke/MethodHandle" ∧ y.cls ≠ "java/lang/invoke/VarHandle")
    {W9 : Nat} {Pre : Pt → Array Value → Prop} {Post : Pt → Array Value → Option Value → Pt → Prop} (hK : Back l R p e below s args y 3 W9 Pre Post)
    {b : Addr} {cellB : Cell} (hcell : T.heap[b]? = some cellB) (hobj : cellB.vm.isStatics = false) (hcls : s.vm.findClass C = some cellB.cls)
    {g : JFrame} (hg : g.method = m) (hsize : g.locals.size = c.maxLocals) {argsL rest : List Value} (hlen : ∀ sig, parseMethodDescriptor y.desc = some sig → argsL.length = sig.parameters.length)
    (hstack : g.stack = argsL.reverse ++ .ref b :: rest) (hW : 2 * g.monitorRoom + (rest.map fun v => v.category).sum ≤ W9) (hdg : decode c.code g.pc = .ok (.invokevirtual index, 3))
    (hpre : ∀ vm₁, s.WarmedH vm₁ → Pre ⟨T.setVm vm₁, locs, cells, slots⟩ (Value.ref b :: argsL).toArray) :
    ∃ (v : Option Value) (vm₁ : Vm) (B : Pt), s.WarmedH vm₁ ∧ Stand p l e R s m args below meth c B.U B.locs B.cells B.slots ∧ Post ⟨T.setVm vm₁, locs, cells, slots⟩ (Value.ref b :: argsL).toArray v B ∧
      ∀ target, Steps p.tables e below (B.U.setTop { g with pc := g.pc + 3, stack := v.toList ++ rest }) target → Steps p.tables e below (T.setTop g) target := by
  obtain ⟨mk, methM, hnamed, hmethM, hstM, habM⟩ := Cond.instanceMethod_spec hinst
  obtain ⟨m8, methM', cM, hn8, hmethM', -, -, -, -, -, -, hsigM⟩ := Cond.codeWith_spec hcode
  cases Option.some.inj (hn8.symm.trans hnamed)
  cases hmethM.symm.trans hmethM'
  obtain ⟨c2, r2, m2, q1, q2, q3, q4, kP, hkP, hkPi⟩ := Cond.selects_spec hsel
  cases hcls.symm.trans q1
  cases (State.methodFound?_of_named hnamed hy).symm.trans q2
  cases hnamed.symm.trans q3
  have hselP : selectMethod e.platform s.vm cellB.cls mk = .method mk := by rw [Launch.admits_selectMethod X.admits]; exact q4
  obtain ⟨vm₁, X₁, hstep₁⟩ := X.invokevirtual hexec hown hlink hnamed hmethM hstM hkP hkPi hy (a := b) (cell := cellB) hcell
    (fun z h => by rw [h] at hobj; cases hobj) hselP hmethM habM hkP hkPi (g := g) hg (argsL := argsL) (rest := rest) (hlen _ hsigM) hstack hdg
  obtain ⟨v, B, X', hpost, hsteps⟩ := hK m meth c ⟨T.setVm vm₁, locs, cells, slots⟩ { g with stack := rest } (.invokevirtual index) mk (Value.ref b :: argsL).toArray X₁ hg hsize hdg hW (X₁.named hnamed) (hpre vm₁ X₁.warmed)
  exact ⟨v, vm₁, B, X₁.warmed, X', hpost, fun target h => hstep₁ _ fun acts => by rw [doInvoke_state]; exact hsteps.trans h⟩
abbrev vx_CVW (R : Room) (s : State) (args : Array Value) (own C : String) (index : Nat) (y : MethodName) (bytes : ByteArray) (maxL : Nat) (ret : Option FieldType) (hh : List (Nat × Nat × Nat × Nat)) (ws : List Cond) (rm : Room) (mc ms n : Nat) : Prop :=
  (rm.cells = mc ∧ rm.slots = ms ∧ rm.frames + 1 ≤ R.frames ∧ 8 + (maxL + 11) + rm.locals ≤ R.locals ∧ (∀ w ∈ ws, ∀ (a' : Array Value) (U : State), s.WarmedH U.vm → w.before a' U = true) ∧ Cond.codeWith y bytes maxL ret hh ∈ ws) ∧
  (Cond.codeWith y bytes maxL ret hh).before args s = true ∧ (Cond.initialized y.cls).before args s = true ∧ (y.cls ≠ "java/lang/invoke/MethodHandle" ∧ y.cls ≠ "java/lang/invoke/VarHandle") ∧
  (∀ sig, parseMethodDescriptor y.desc = some sig → n = sig.parameters.length) ∧ (Cond.methodLink own index y).before args s = true ∧ (Cond.instanceMethod y).before args s = true ∧ (Cond.selects C y y).before args s = true
theorem vx_cwVW {own C : String} {index maxL mc ms : Nat} {y : MethodName} {bytes : ByteArray} {ret : Option FieldType} {hh : List (Nat × Nat × Nat × Nat)} {Ts ws ws' : List Cond} {rm : Room} (n : Nat) (ht : ∀ w ∈ Ts, w.before args s = true) (hT : GoodIn Ts (wsV own index C y ws)) (hw : ws = Cond.codeWith y bytes maxL ret hh :: ws') (hrc : rm.cells = mc) (hrs : rm.slots = ms)
    (hd : y.cls = C ∧ y.cls ≠ "java/lang/invoke/MethodHandle" ∧ y.cls ≠ "java/lang/invoke/VarHandle" ∧ (parseMethodDescriptor y.desc).map (fun d => d.parameters.length) = some n) (hR : rm.frames + 1 ≤ R.frames ∧ 8 + (maxL + 11) + rm.locals ≤ R.locals) :
    vx_CVW R s args own C index y bytes maxL ret hh ws rm mc ms n := by
  obtain ⟨hC, hd⟩ := hd
  subst hC
  have ok : ∀ w ∈ wsV own index y.cls y ws, w.before args s = true := fun w h => ht w (hT w h).1
  have hG : GoodIn Ts ws := fun w h => hT w (by unfold wsV; exact List.mem_append_right _ h)
  have hc : Cond.codeWith y bytes maxL ret hh ∈ ws := by rw [hw]; exact List.mem_cons_self
  refine ⟨⟨hrc, hrs, hR.1, hR.2, pay_in ht hG, hc⟩, ht _ (hG _ hc).1, ok _ (by simp [wsV]), ⟨hd.1, hd.2.1⟩, fun sig h => ?_, ok _ (by simp [wsV]), ok _ (by simp [wsV]), ok _ (by simp [wsV])⟩
  have h2 := hd.2.2
  rw [h] at h2
  exact (Option.some.inj h2).symm
theorem vx_runVW {y : MethodName} {bytes cc : ByteArray} {maxL nL mc ms n index : Nat} {ret : Option FieldType} {hh : List (Nat × Nat × Nat × Nat)} {ws : List Cond} {rm : Room} {Pc : Array Value → State → Prop} {Qc : Array Value → State → Outcome → State → Prop} {free : Addr → Prop} {Ts : List Cond} {own C : String} {b : Addr} {As rest : List Value} {g : JFrame}
    (S : CallFix p m c cc nL s args Ts own) (hM : Met l y ws rm Pc Qc mc ms free) (cw : vx_CVW R s args own C index y bytes maxL ret hh ws rm mc ms n) (hp : PreV s H C b Pc As)
    (hg : g.method = m) (hn : As.length = n) (hsize : g.locals.size = nL) (hstack : g.stack = As.reverse ++ .ref b :: rest) (hW : 2 * g.monitorRoom + (rest.map fun v => v.category).sum ≤ 8) (hdg : decode cc g.pc = .ok (.invokevirtual index, 3)) (hf : cells + mc ≤ R.cells ∧ slots + ms ≤ R.slots) :
    va_Run p l e R s m args below meth c H locs cells slots mc ms g rest (Qc (Value.ref b :: As).toArray) free := by
  obtain ⟨⟨hrc, hrs, hfr, hlo, hws, hcw⟩, hcode, hini, hy, hlen, hl, hin, hse⟩ := cw
  have hK : Back l R p e below s args y 3 8 (PreOf R mc ms Pc) (PostOf Qc mc ms free) := va_backW (hh := hh) (bytes := bytes) (maxL := maxL) (ret := ret) hM hp.1 hrc hrs hfr hlo hws hcw (fun a' U hW => word_at hW (Or.inl (by first | rfl | simp [Cond.onTables, Cond.keeps, Cond.steady])) hini)
  obtain ⟨hx, hb, hml, ho, -⟩ := S
  obtain ⟨-, ⟨cellB, hcB, hoB, hclB⟩, hPc⟩ := hp
  intro T hT X
  obtain ⟨v, vm₁, ⟨U', l2, c2, s2⟩, hW₁, X', ⟨g', mk, t, L, e1, e2, hq, h1, hL, h2, h3⟩, st⟩ := vx_callVW X hx (C := C) (hh := hh) (bytes := bytes) (maxL := maxL) (ret := ret) ho hl hin hse hcode hy hK (by rw [hT]; exact hcB) hoB hclB hg (hsize.trans hml.symm) (argsL := As) (rest := rest) (fun sig h => hn.trans (hlen sig h)) hstack hW (by rw [hb]; exact hdg)
    (fun vm₁ hW₁ => ⟨hf.1, hf.2, hPc (T.setVm vm₁) hT hW₁⟩)
  dsimp only [Pt.U, Pt.locs, Pt.cells, Pt.slots] at X' e1 e2 h1 h2 h3 st
  subst h1; subst h2; subst h3
  exact ⟨v, (T.setVm vm₁).calling g' mk (Value.ref b :: As).toArray, t, U', L, hT, X', hL, e1, e2, hq, st⟩
section
variable {y : MethodName} {bytes cc : ByteArray} {maxL nL mc ms n index : Nat} {ret : Option FieldType} {ws : List Cond} {rm : Room} {Pc : Array Value → State → Prop} {Qc : Array Value → State → Outcome → State → Prop} {XC : String → State → State → Prop} {free : Addr → Prop} {Ts : List Cond} {own C : String} {b : Addr} {As rest : List Value} {g : JFrame}
theorem vx_runVX {hh : List (Nat × Nat × Nat × Nat)} (S : CallFix p m c cc nL s args Ts own) (hM : vx_Met l y ws rm Pc Qc XC mc ms free) (cw : vx_CVW R s args own C index y bytes maxL ret hh ws rm mc ms n) (hp : PreV s H C b Pc As)
    (hg : g.method = m) (hn : As.length = n) (hsize : g.locals.size = nL) (hstack : g.stack = As.reverse ++ .ref b :: rest) (hW : 2 * g.monitorRoom + (rest.map fun v => v.category).sum ≤ 8) (hdg : decode cc g.pc = .ok (.invokevirtual index, 3)) (hf : cells + mc ≤ R.cells ∧ slots + ms ≤ R.slots) :
    vx_Run p l e R s m args below meth c H locs cells slots mc ms g rest (Qc (Value.ref b :: As).toArray) XC free := by
  obtain ⟨⟨hrc, hrs, hfr, hlo, hws, hcw⟩, hcode, hini, hy, hlen, hl, hin, hse⟩ := cw
  have hK : vx_Back l R p e below s args y 3 8 (PreOf R mc ms Pc) (PostOf Qc mc ms free) (vx_Post XC mc ms free) := vx_backW (hh := hh) (bytes := bytes) (maxL := maxL) (ret := ret) hM hp.1 hrc hrs hfr hlo hws hcw (fun a' U hW => word_at hW (Or.inl (by first | rfl | simp [Cond.onTables, Cond.keeps, Cond.steady])) hini)
  obtain ⟨hx, hb, hml, ho, -⟩ := S
  obtain ⟨-, ⟨cellB, hcB, hoB, hclB⟩, hPc⟩ := hp
  intro T hT X
  rcases vx_callVX X hx (C := C) (hh := hh) (bytes := bytes) (maxL := maxL) (ret := ret) ho hl hin hse hcode hy hK (by rw [hT]; exact hcB) hoB hclB hg (hsize.trans hml.symm) (argsL := As) (rest := rest) (fun sig h => hn.trans (hlen sig h)) hstack hW (by rw [hb]; exact hdg)
    (fun vm₁ hW₁ => ⟨hf.1, hf.2, hPc (T.setVm vm₁) hT hW₁⟩) with ⟨v, vm₁, ⟨U', l2, c2, s2⟩, hW₁, X', ⟨g', mk, t, L, e1, e2, hq, h1, hL, h2, h3⟩, st⟩ | ⟨q, vm₁, ⟨U', l2, c2, s2⟩, hW₁, X', ⟨g', mk, t, L, E, ce, e1, e2, hq, hce, hcv, hcl, h1, hL, h2, h3⟩, st⟩
  · dsimp only [Pt.U, Pt.locs, Pt.cells, Pt.slots] at X' e1 e2 h1 h2 h3 st
    subst h1; subst h2; subst h3
    exact Or.inl ⟨v, (T.setVm vm₁).calling g' mk (Value.ref b :: As).toArray, t, U', L, hT, X', hL, e1, e2, hq, st⟩
  · dsimp only [Pt.U, Pt.locs, Pt.cells, Pt.slots] at X' e1 e2 h1 h2 h3 st hcl
    subst h1; subst h2; subst h3
    exact Or.inr ⟨q, (T.setVm vm₁).calling g' mk (Value.ref b :: As).toArray, t, U', L, E, ce, hT, X', hL, e1, e2, hq, hce, hcv, vx_cls hW₁ hcl, st⟩
theorem vx_runSX {hh : List (Nat × Nat × Nat × Nat)} (S : CallFix p m c cc nL s args Ts own) (hM : vx_Met l y ws rm Pc Qc XC mc ms free) (cw : vx_CSW R s args own index y bytes maxL ret hh ws rm mc ms n) (hp : PreS s H Pc As)
    (hg : g.method = m) (hn : As.length = n) (hsize : g.locals.size = nL) (hstack : g.stack = As.reverse ++ rest) (hW : 2 * g.monitorRoom + (rest.map fun v => v.category).sum ≤ 8) (hdg : decode cc g.pc = .ok (.invokestatic index, 3)) (hf : cells + mc ≤ R.cells ∧ slots + ms ≤ R.slots) :
    vx_Run p l e R s m args below meth c H locs cells slots mc ms g rest (Qc As.toArray) XC free := by
  obtain ⟨⟨hrc, hrs, hfr, hlo, hws, hcw⟩, hcode, hini, hy, hlen, hl, hstt⟩ := cw
  have hK : vx_Back l R p e below s args y 3 8 (PreOf R mc ms Pc) (PostOf Qc mc ms free) (vx_Post XC mc ms free) := vx_backW (hh := hh) (bytes := bytes) (maxL := maxL) (ret := ret) hM hp.1 hrc hrs hfr hlo hws hcw (fun a' U hW => word_at hW (Or.inl (by first | rfl | simp [Cond.onTables, Cond.keeps, Cond.steady])) hini)
  obtain ⟨hx, hb, hml, ho, -⟩ := S
  intro T hT X
  rcases vx_callSX X hx (hh := hh) (bytes := bytes) (maxL := maxL) (ret := ret) ho hl hstt hini hcode hy hK hg (hsize.trans hml.symm) (argsL := As) (rest := rest) (fun sig h => hn.trans (hlen sig h)) hstack hW (by rw [hb]; exact hdg)
    (fun vm₁ hW₁ => ⟨hf.1, hf.2, hp.2 (T.setVm vm₁) hT hW₁⟩) with ⟨v, vm₁, ⟨U', l2, c2, s2⟩, hW₁, X', ⟨g', mk, t, L, e1, e2, hq, h1, hL, h2, h3⟩, st⟩ | ⟨q, vm₁, ⟨U', l2, c2, s2⟩, hW₁, X', ⟨g', mk, t, L, E, ce, e1, e2, hq, hce, hcv, hcl, h1, hL, h2, h3⟩, st⟩
  · dsimp only [Pt.U, Pt.locs, Pt.cells, Pt.slots] at X' e1 e2 h1 h2 h3 st
    subst h1; subst h2; subst h3
    exact Or.inl ⟨v, (T.setVm vm₁).calling g' mk As.toArray, t, U', L, hT, X', hL, e1, e2, hq, st⟩
  · dsimp only [Pt.U, Pt.locs, Pt.cells, Pt.slots] at X' e1 e2 h1 h2 h3 st hcl
    subst h1; subst h2; subst h3
    exact Or.inr ⟨q, (T.setVm vm₁).calling g' mk As.toArray, t, U', L, E, ce, hT, X', hL, e1, e2, hq, hce, hcv, vx_cls hW₁ hcl, st⟩
end
end VXH
theorem vx_ofWH {l : Launch} {y : MethodName} {ws ws' : List Cond} {rm : Room} {Pc : Array Value → State → Prop} {Qc : Array Value → State → Outcome → State → Prop} {XC : String → State → State → Prop} {mc ms : Nat} {free : Addr → Prop} {cc : ByteArray} {maxL : Nat} {ret : Option FieldType} {hh : List (Nat × Nat × Nat × Nat)}
    (hy : plainName y.cls = true) (hw : ws = Cond.codeWith y cc maxL ret hh :: ws')
    (body : ∀ p e s m args below meth c s₁, BodyLoose p l y (headSpec ws rm) cc maxL ret e s m args below meth c s₁ → c.maxLocals = maxL → Pc args s →
      W p l e (headSpec ws rm).room s m args below meth c s.heap [] 0 0 (vx_MQ below Qc XC args s mc ms free) (entryFrame m args maxL)) : vx_Met l y ws rm Pc Qc XC mc ms free := by
  refine MetFree.of_bodyS (code := cc) (maxLocals := maxL) (ret := ret) hy ?_ ?_
  · intro args s m h hn
    obtain ⟨m9, meth, c, hn9, h1, h2, h3, h4, -, h5, h6, -⟩ := Cond.codeWith_spec (atoms_spec (ws := ws) h _ (by rw [hw]; exact List.mem_cons_self))
    cases hn.symm.trans hn9
    exact ⟨meth, c, h1, h2, h3, h4, h5, h6⟩
  · intro p e s m args below meth c s₁ B hml hP _
    have hh0 : s₁.heap = s.heap := by rw [B.state]; rfl
    obtain ⟨t, a1, o, b1, b2, b3⟩ := body p e s m args below meth c s₁ B hml hP s₁ hh0 (Stand.of_body B)
    exact ⟨t, o, a1, b1, b2, b3⟩
/-! ===== END ===== -/
end
section
/-! ===== BEGIN printed: names, fields, word lists, decode rows ===== -/
def RX0 : String := "StorageCharge$BillLine"
def TX0 : u_T := fun k => match k with
  | 0 => ("StorageCharge$BillLine", "owner", "I", true)
  | 1 => ("StorageCharge$BillLine", "month", "I", true)
  | 2 => ("StorageCharge$BillLine", "cents", "I", true)
  | _ => ("StorageCharge$BillLine", "isCorrection", "Z", true)
def tyX0 : Nat → FieldType := fun k => match k with
  | 0 => .int
  | 1 => .int
  | 2 => .int
  | _ => .boolean
abbrev wsX00 : List Cond := u_ws RX0 TX0 4
theorem nmX0 : ∀ a, a < 4 → ∀ b, b < 4 → a ≠ b → (TX0 a).2.1 ≠ (TX0 b).2.1 := by decide +kernel
theorem tyX0_ok : ∀ k, k < 4 → parseFieldDescriptor (TX0 k).2.2.1 = some (tyX0 k) := by decide +kernel
abbrev cX0_init : ByteArray := prog_2_method_1_code
def yX0_init : MethodName := ⟨RX0, "<init>", "(IIIZ)V"⟩
def RX1 : String := "StorageCharge$Bills"
def TX1 : u_T := fun k => match k with
  | _ => ("StorageCharge$Bills", "lines", "Ljava/util/ArrayList;", true)
def tyX1 : Nat → FieldType := fun k => match k with
  | _ => .object "java/util/ArrayList"
abbrev wsX10 : List Cond := u_ws RX1 TX1 1
theorem nmX1 : ∀ a, a < 1 → ∀ b, b < 1 → a ≠ b → (TX1 a).2.1 ≠ (TX1 b).2.1 := by decide +kernel
theorem tyX1_ok : ∀ k, k < 1 → parseFieldDescriptor (TX1 k).2.2.1 = some (tyX1 k) := by decide +kernel
abbrev cX1_init : ByteArray := prog_3_method_1_code
def yX1_init : MethodName := ⟨RX1, "<init>", "()V"⟩
abbrev cX1_add : ByteArray := prog_3_method_2_code
def yX1_add : MethodName := ⟨RX1, "add", "(LStorageCharge$BillLine;)V"⟩
abbrev cX1_isBilled : ByteArray := prog_3_method_3_code
def yX1_isBilled : MethodName := ⟨RX1, "isBilled", "(II)Z"⟩
abbrev cX1_centsOfMonth : ByteArray := prog_3_method_4_code
def yX1_centsOfMonth : MethodName := ⟨RX1, "centsOfMonth", "(II)I"⟩
abbrev cX1_centsOfOwner : ByteArray := prog_3_method_5_code
def yX1_centsOfOwner : MethodName := ⟨RX1, "centsOfOwner", "(I)I"⟩
abbrev cX1_find : ByteArray := prog_3_method_6_code
def yX1_find : MethodName := ⟨RX1, "find", "(II)LStorageCharge$BillLine;"⟩
def RX2 : String := "StorageCharge$Charges"
def TX2 : u_T := fun k => match k with
  | 0 => ("StorageCharge$Charges", "storage", "[I", true)
  | 1 => ("StorageCharge$Charges", "handling", "[I", true)
  | 2 => ("StorageCharge$Charges", "minimum", "[I", true)
  | 3 => ("StorageCharge$Charges", "discountOwners", "[I", true)
  | 4 => ("StorageCharge$Charges", "discountDays", "[I", true)
  | 5 => ("StorageCharge$Charges", "discountPercents", "[I", true)
  | 6 => ("StorageCharge$Charges", "discounts", "I", false)
  | 7 => ("StorageCharge$Charges", "lines", "I", false)
  | _ => ("StorageCharge$Charges", "owners", "I", false)
def tyX2 : Nat → FieldType := fun k => match k with
  | 0 => .array .int
  | 1 => .array .int
  | 2 => .array .int
  | 3 => .array .int
  | 4 => .array .int
  | 5 => .array .int
  | 6 => .int
  | 7 => .int
  | _ => .int
abbrev wsX20 : List Cond := u_ws RX2 TX2 9
theorem nmX2 : ∀ a, a < 9 → ∀ b, b < 9 → a ≠ b → (TX2 a).2.1 ≠ (TX2 b).2.1 := by decide +kernel
theorem tyX2_ok : ∀ k, k < 9 → parseFieldDescriptor (TX2 k).2.2.1 = some (tyX2 k) := by decide +kernel
abbrev cX2_init : ByteArray := prog_4_method_1_code
def yX2_init : MethodName := ⟨RX2, "<init>", "()V"⟩
abbrev cX2_clear : ByteArray := prog_4_method_2_code
def yX2_clear : MethodName := ⟨RX2, "clear", "()V"⟩
abbrev cX2_tell : ByteArray := prog_4_method_3_code
def yX2_tell : MethodName := ⟨RX2, "tell", "(IIII)Z"⟩
abbrev cX2_tellOf : ByteArray := prog_4_method_4_code
def yX2_tellOf : MethodName := ⟨RX2, "tellOf", "(IIII)Z"⟩
abbrev cX2_place : ByteArray := prog_4_method_5_code
def yX2_place : MethodName := ⟨RX2, "place", "(II)I"⟩
abbrev cX2_tellCents : ByteArray := prog_4_method_6_code
def yX2_tellCents : MethodName := ⟨RX2, "tellCents", "([III)Z"⟩
abbrev cX2_tellDiscount : ByteArray := prog_4_method_7_code
def yX2_tellDiscount : MethodName := ⟨RX2, "tellDiscount", "(III)Z"⟩
abbrev cX2_hasDiscount : ByteArray := prog_4_method_8_code
def yX2_hasDiscount : MethodName := ⟨RX2, "hasDiscount", "(II)Z"⟩
abbrev cX2_storageCents : ByteArray := prog_4_method_9_code
def yX2_storageCents : MethodName := ⟨RX2, "storageCents", "(II)I"⟩
abbrev cX2_handlingCents : ByteArray := prog_4_method_10_code
def yX2_handlingCents : MethodName := ⟨RX2, "handlingCents", "(II)I"⟩
abbrev cX2_minimumOf : ByteArray := prog_4_method_11_code
def yX2_minimumOf : MethodName := ⟨RX2, "minimumOf", "(I)I"⟩
abbrev cX2_toldOrZero : ByteArray := prog_4_method_12_code
def yX2_toldOrZero : MethodName := ⟨RX2, "toldOrZero", "([II)I"⟩
abbrev cX2_percentFor : ByteArray := prog_4_method_13_code
def yX2_percentFor : MethodName := ⟨RX2, "percentFor", "(II)I"⟩
def RX3 : String := "StorageCharge$Move"
def TX3 : u_T := fun k => match k with
  | 0 => ("StorageCharge$Move", "owner", "I", true)
  | 1 => ("StorageCharge$Move", "kind", "I", true)
  | 2 => ("StorageCharge$Move", "day", "I", true)
  | _ => ("StorageCharge$Move", "pieces", "I", true)
def tyX3 : Nat → FieldType := fun k => match k with
  | 0 => .int
  | 1 => .int
  | 2 => .int
  | _ => .int
abbrev wsX30 : List Cond := u_ws RX3 TX3 4
theorem nmX3 : ∀ a, a < 4 → ∀ b, b < 4 → a ≠ b → (TX3 a).2.1 ≠ (TX3 b).2.1 := by decide +kernel
theorem tyX3_ok : ∀ k, k < 4 → parseFieldDescriptor (TX3 k).2.2.1 = some (tyX3 k) := by decide +kernel
abbrev cX3_init : ByteArray := prog_5_method_1_code
def yX3_init : MethodName := ⟨RX3, "<init>", "(IIII)V"⟩
def RX4 : String := "StorageCharge$Paper"
def TX4 : u_T := fun k => match k with
  | 0 => ("StorageCharge$Paper", "signs", "[C", true)
  | _ => ("StorageCharge$Paper", "length", "I", false)
def tyX4 : Nat → FieldType := fun k => match k with
  | 0 => .array .char
  | _ => .int
abbrev wsX40 : List Cond := u_ws RX4 TX4 2
theorem nmX4 : ∀ a, a < 2 → ∀ b, b < 2 → a ≠ b → (TX4 a).2.1 ≠ (TX4 b).2.1 := by decide +kernel
theorem tyX4_ok : ∀ k, k < 2 → parseFieldDescriptor (TX4 k).2.2.1 = some (tyX4 k) := by decide +kernel
abbrev cX4_init : ByteArray := prog_6_method_1_code
def yX4_init : MethodName := ⟨RX4, "<init>", "()V"⟩
abbrev cX4_clear : ByteArray := prog_6_method_2_code
def yX4_clear : MethodName := ⟨RX4, "clear", "()V"⟩
abbrev cX4_write : ByteArray := prog_6_method_3_code
def yX4_write : MethodName := ⟨RX4, "write", "(LStorageCharge$BillLine;)V"⟩
abbrev cX4_put : ByteArray := prog_6_method_4_code
def yX4_put : MethodName := ⟨RX4, "put", "(I)V"⟩
abbrev cX4_putNumber : ByteArray := prog_6_method_5_code
def yX4_putNumber : MethodName := ⟨RX4, "putNumber", "(I)V"⟩
def RX5 : String := "StorageCharge$Text"
def TX5 : u_T := fun k => match k with
  | 0 => ("StorageCharge$Text", "signs", "[C", true)
  | 1 => ("StorageCharge$Text", "length", "I", false)
  | _ => ("StorageCharge$Text", "place", "I", false)
def tyX5 : Nat → FieldType := fun k => match k with
  | 0 => .array .char
  | 1 => .int
  | _ => .int
abbrev wsX50 : List Cond := u_ws RX5 TX5 3
theorem nmX5 : ∀ a, a < 3 → ∀ b, b < 3 → a ≠ b → (TX5 a).2.1 ≠ (TX5 b).2.1 := by decide +kernel
theorem tyX5_ok : ∀ k, k < 3 → parseFieldDescriptor (TX5 k).2.2.1 = some (tyX5 k) := by decide +kernel
abbrev cX5_init : ByteArray := prog_7_method_1_code
def yX5_init : MethodName := ⟨RX5, "<init>", "()V"⟩
abbrev cX5_isFull : ByteArray := prog_7_method_2_code
def yX5_isFull : MethodName := ⟨RX5, "isFull", "()Z"⟩
abbrev cX5_add : ByteArray := prog_7_method_3_code
def yX5_add : MethodName := ⟨RX5, "add", "(I)V"⟩
abbrev cX5_clear : ByteArray := prog_7_method_4_code
def yX5_clear : MethodName := ⟨RX5, "clear", "()V"⟩
abbrev cX5_isRead : ByteArray := prog_7_method_5_code
def yX5_isRead : MethodName := ⟨RX5, "isRead", "()Z"⟩
abbrev cX5_nextSign : ByteArray := prog_7_method_6_code
def yX5_nextSign : MethodName := ⟨RX5, "nextSign", "()I"⟩
abbrev cX5_takeSign : ByteArray := prog_7_method_7_code
def yX5_takeSign : MethodName := ⟨RX5, "takeSign", "()I"⟩
abbrev cX5_takeNumber : ByteArray := prog_7_method_8_code
def yX5_takeNumber : MethodName := ⟨RX5, "takeNumber", "()I"⟩
def RX6 : String := "StorageCharge$Unit"
def TX6 : u_T := fun k => match k with
  | 0 => ("StorageCharge$Unit", "owner", "I", true)
  | 1 => ("StorageCharge$Unit", "firstDay", "I", true)
  | 2 => ("StorageCharge$Unit", "lastDay", "I", false)
  | 3 => ("StorageCharge$Unit", "isGone", "Z", false)
  | 4 => ("StorageCharge$Unit", "toldKinds", "[I", true)
  | 5 => ("StorageCharge$Unit", "toldDays", "[I", true)
  | _ => ("StorageCharge$Unit", "told", "I", false)
def tyX6 : Nat → FieldType := fun k => match k with
  | 0 => .int
  | 1 => .int
  | 2 => .int
  | 3 => .boolean
  | 4 => .array .int
  | 5 => .array .int
  | _ => .int
abbrev wsX60 : List Cond := u_ws RX6 TX6 7
theorem nmX6 : ∀ a, a < 7 → ∀ b, b < 7 → a ≠ b → (TX6 a).2.1 ≠ (TX6 b).2.1 := by decide +kernel
theorem tyX6_ok : ∀ k, k < 7 → parseFieldDescriptor (TX6 k).2.2.1 = some (tyX6 k) := by decide +kernel
abbrev cX6_init : ByteArray := prog_8_method_1_code
def yX6_init : MethodName := ⟨RX6, "<init>", "(III)V"⟩
abbrev cX6_isFull : ByteArray := prog_8_method_2_code
def yX6_isFull : MethodName := ⟨RX6, "isFull", "()Z"⟩
abbrev cX6_kindToldLast : ByteArray := prog_8_method_3_code
def yX6_kindToldLast : MethodName := ⟨RX6, "kindToldLast", "()I"⟩
abbrev cX6_dayToldLast : ByteArray := prog_8_method_4_code
def yX6_dayToldLast : MethodName := ⟨RX6, "dayToldLast", "()I"⟩
abbrev cX6_tell : ByteArray := prog_8_method_5_code
def yX6_tell : MethodName := ⟨RX6, "tell", "(II)V"⟩
abbrev cX6_leave : ByteArray := prog_8_method_6_code
def yX6_leave : MethodName := ⟨RX6, "leave", "(I)V"⟩
abbrev cX6_daysThere : ByteArray := prog_8_method_7_code
def yX6_daysThere : MethodName := ⟨RX6, "daysThere", "(II)I"⟩
abbrev cX6_kindOn : ByteArray := prog_8_method_8_code
def yX6_kindOn : MethodName := ⟨RX6, "kindOn", "(I)I"⟩
def RX7 : String := "StorageCharge"
def TX7 : u_T := fun k => match k with
  | 0 => ("StorageCharge", "text", "LStorageCharge$Text;", true)
  | 1 => ("StorageCharge", "charges", "LStorageCharge$Charges;", false)
  | 2 => ("StorageCharge", "draft", "LStorageCharge$Charges;", false)
  | 3 => ("StorageCharge", "units", "Ljava/util/ArrayList;", true)
  | 4 => ("StorageCharge", "moves", "Ljava/util/ArrayList;", true)
  | 5 => ("StorageCharge", "bills", "LStorageCharge$Bills;", true)
  | _ => ("StorageCharge", "paper", "LStorageCharge$Paper;", true)
def tyX7 : Nat → FieldType := fun k => match k with
  | 0 => .object "StorageCharge$Text"
  | 1 => .object "StorageCharge$Charges"
  | 2 => .object "StorageCharge$Charges"
  | 3 => .object "java/util/ArrayList"
  | 4 => .object "java/util/ArrayList"
  | 5 => .object "StorageCharge$Bills"
  | _ => .object "StorageCharge$Paper"
abbrev wsX70 : List Cond := u_ws RX7 TX7 7
theorem nmX7 : ∀ a, a < 7 → ∀ b, b < 7 → a ≠ b → (TX7 a).2.1 ≠ (TX7 b).2.1 := by decide +kernel
theorem tyX7_ok : ∀ k, k < 7 → parseFieldDescriptor (TX7 k).2.2.1 = some (tyX7 k) := by decide +kernel
abbrev cX7_init : ByteArray := prog_1_method_1_code
def yX7_init : MethodName := ⟨RX7, "<init>", "()V"⟩
abbrev cX7_sign : ByteArray := prog_1_method_2_code
def yX7_sign : MethodName := ⟨RX7, "sign", "(I)I"⟩
abbrev cX7_read : ByteArray := prog_1_method_3_code
def yX7_read : MethodName := ⟨RX7, "read", "()I"⟩
abbrev cX7_unit : ByteArray := prog_1_method_4_code
def yX7_unit : MethodName := ⟨RX7, "unit", "(III)I"⟩
abbrev cX7_change : ByteArray := prog_1_method_5_code
def yX7_change : MethodName := ⟨RX7, "change", "(III)Z"⟩
abbrev cX7_gone : ByteArray := prog_1_method_6_code
def yX7_gone : MethodName := ⟨RX7, "gone", "(II)I"⟩
abbrev cX7_move : ByteArray := prog_1_method_7_code
def yX7_move : MethodName := ⟨RX7, "move", "(IIII)I"⟩
abbrev cX7_sum : ByteArray := prog_1_method_8_code
def yX7_sum : MethodName := ⟨RX7, "sum", "(II)I"⟩
abbrev cX7_days : ByteArray := prog_1_method_9_code
def yX7_days : MethodName := ⟨RX7, "days", "(II)I"⟩
abbrev cX7_average : ByteArray := prog_1_method_10_code
def yX7_average : MethodName := ⟨RX7, "average", "(II)I"⟩
abbrev cX7_bill : ByteArray := prog_1_method_11_code
def yX7_bill : MethodName := ⟨RX7, "bill", "(II)I"⟩
abbrev cX7_correct : ByteArray := prog_1_method_12_code
def yX7_correct : MethodName := ⟨RX7, "correct", "(II)I"⟩
abbrev cX7_line : ByteArray := prog_1_method_13_code
def yX7_line : MethodName := ⟨RX7, "line", "(III)I"⟩
abbrev cX7_billed : ByteArray := prog_1_method_14_code
def yX7_billed : MethodName := ⟨RX7, "billed", "(I)I"⟩
abbrev cX7_compare : ByteArray := prog_1_method_15_code
def yX7_compare : MethodName := ⟨RX7, "compare", "(III)I"⟩
abbrev cX7_print : ByteArray := prog_1_method_16_code
def yX7_print : MethodName := ⟨RX7, "print", "(I)I"⟩
abbrev cX7_at : ByteArray := prog_1_method_17_code
def yX7_at : MethodName := ⟨RX7, "at", "(I)I"⟩
abbrev cX7_count : ByteArray := prog_1_method_18_code
def yX7_count : MethodName := ⟨RX7, "count", "(I)I"⟩
abbrev cX7_isWithin : ByteArray := prog_1_method_19_code
def yX7_isWithin : MethodName := ⟨RX7, "isWithin", "(III)Z"⟩
abbrev cX7_checkOwner : ByteArray := prog_1_method_20_code
def yX7_checkOwner : MethodName := ⟨RX7, "checkOwner", "(I)V"⟩
abbrev cX7_checkKind : ByteArray := prog_1_method_21_code
def yX7_checkKind : MethodName := ⟨RX7, "checkKind", "(I)V"⟩
abbrev cX7_checkDay : ByteArray := prog_1_method_22_code
def yX7_checkDay : MethodName := ⟨RX7, "checkDay", "(I)V"⟩
abbrev cX7_checkMonth : ByteArray := prog_1_method_23_code
def yX7_checkMonth : MethodName := ⟨RX7, "checkMonth", "(I)V"⟩
abbrev cX7_checkUnit : ByteArray := prog_1_method_24_code
def yX7_checkUnit : MethodName := ⟨RX7, "checkUnit", "(I)V"⟩
abbrev cX7_checkGoesOn : ByteArray := prog_1_method_25_code
def yX7_checkGoesOn : MethodName := ⟨RX7, "checkGoesOn", "(LStorageCharge$Unit;I)V"⟩
abbrev cX7_readLines : ByteArray := prog_1_method_26_code
def yX7_readLines : MethodName := ⟨RX7, "readLines", "()I"⟩
abbrev cX7_readLine : ByteArray := prog_1_method_27_code
def yX7_readLine : MethodName := ⟨RX7, "readLine", "()Z"⟩
abbrev cX7_movesOf : ByteArray := prog_1_method_28_code
def yX7_movesOf : MethodName := ⟨RX7, "movesOf", "(I)I"⟩
abbrev cX7_unitsStillThere : ByteArray := prog_1_method_29_code
def yX7_unitsStillThere : MethodName := ⟨RX7, "unitsStillThere", "()I"⟩
abbrev cX7_sumBy : ByteArray := prog_1_method_30_code
def yX7_sumBy : MethodName := ⟨RX7, "sumBy", "(III)I"⟩
abbrev cX7_storageBy : ByteArray := prog_1_method_31_code
def yX7_storageBy : MethodName := ⟨RX7, "storageBy", "(III)I"⟩
abbrev cX7_storageOfUnit : ByteArray := prog_1_method_32_code
def yX7_storageOfUnit : MethodName := ⟨RX7, "storageOfUnit", "(ILStorageCharge$Unit;I)I"⟩
abbrev cX7_handlingBy : ByteArray := prog_1_method_33_code
def yX7_handlingBy : MethodName := ⟨RX7, "handlingBy", "(III)I"⟩
abbrev cX7_unitDays : ByteArray := prog_1_method_34_code
def yX7_unitDays : MethodName := ⟨RX7, "unitDays", "(II)I"⟩
abbrev cX7_firstDayOf : ByteArray := prog_1_method_35_code
def yX7_firstDayOf : MethodName := ⟨RX7, "firstDayOf", "(I)I"⟩
abbrev cX7_lastDayOf : ByteArray := prog_1_method_36_code
def yX7_lastDayOf : MethodName := ⟨RX7, "lastDayOf", "(I)I"⟩
def RX8 : String := "StorageChargeModel"
def TX8 : u_T := fun k => match k with
  | 0 => ("StorageChargeModel", "code", "I", false)
  | 1 => ("StorageChargeModel", "signs", "I", false)
  | 2 => ("StorageChargeModel", "text", "[I", true)
  | 3 => ("StorageChargeModel", "lines", "I", false)
  | 4 => ("StorageChargeModel", "letter", "[I", true)
  | 5 => ("StorageChargeModel", "lineOwner", "[I", true)
  | 6 => ("StorageChargeModel", "what", "[I", true)
  | 7 => ("StorageChargeModel", "much", "[I", true)
  | 8 => ("StorageChargeModel", "fresh", "I", false)
  | 9 => ("StorageChargeModel", "newLetter", "[I", true)
  | 10 => ("StorageChargeModel", "newOwner", "[I", true)
  | 11 => ("StorageChargeModel", "newWhat", "[I", true)
  | 12 => ("StorageChargeModel", "newMuch", "[I", true)
  | 13 => ("StorageChargeModel", "at", "I", false)
  | 14 => ("StorageChargeModel", "units", "I", false)
  | 15 => ("StorageChargeModel", "unitOwner", "[I", true)
  | 16 => ("StorageChargeModel", "from", "[I", true)
  | 17 => ("StorageChargeModel", "to", "[I", true)
  | 18 => ("StorageChargeModel", "told", "[I", true)
  | 19 => ("StorageChargeModel", "toldDay", "[I", true)
  | 20 => ("StorageChargeModel", "toldKind", "[I", true)
  | 21 => ("StorageChargeModel", "moves", "I", false)
  | 22 => ("StorageChargeModel", "moveOwner", "[I", true)
  | 23 => ("StorageChargeModel", "moveKind", "[I", true)
  | 24 => ("StorageChargeModel", "moveDay", "[I", true)
  | 25 => ("StorageChargeModel", "pieces", "[I", true)
  | 26 => ("StorageChargeModel", "rows", "I", false)
  | 27 => ("StorageChargeModel", "rowOwner", "[I", true)
  | 28 => ("StorageChargeModel", "rowMonth", "[I", true)
  | 29 => ("StorageChargeModel", "rowCents", "[I", true)
  | 30 => ("StorageChargeModel", "rowCorrects", "[Z", true)
  | 31 => ("StorageChargeModel", "isBilled", "[Z", true)
  | 32 => ("StorageChargeModel", "printed", "I", false)
  | _ => ("StorageChargeModel", "print", "[I", true)
def tyX8 : Nat → FieldType := fun k => match k with
  | 0 => .int
  | 1 => .int
  | 2 => .array .int
  | 3 => .int
  | 4 => .array .int
  | 5 => .array .int
  | 6 => .array .int
  | 7 => .array .int
  | 8 => .int
  | 9 => .array .int
  | 10 => .array .int
  | 11 => .array .int
  | 12 => .array .int
  | 13 => .int
  | 14 => .int
  | 15 => .array .int
  | 16 => .array .int
  | 17 => .array .int
  | 18 => .array .int
  | 19 => .array .int
  | 20 => .array .int
  | 21 => .int
  | 22 => .array .int
  | 23 => .array .int
  | 24 => .array .int
  | 25 => .array .int
  | 26 => .int
  | 27 => .array .int
  | 28 => .array .int
  | 29 => .array .int
  | 30 => .array .boolean
  | 31 => .array .boolean
  | 32 => .int
  | _ => .array .int
abbrev wsX80 : List Cond := u_ws RX8 TX8 34
theorem nmX8 : ∀ a, a < 34 → ∀ b, b < 34 → a ≠ b → (TX8 a).2.1 ≠ (TX8 b).2.1 := by decide +kernel
theorem tyX8_ok : ∀ k, k < 34 → parseFieldDescriptor (TX8 k).2.2.1 = some (tyX8 k) := by decide +kernel
abbrev cX8_init : ByteArray := prog_10_method_1_code
def yX8_init : MethodName := ⟨RX8, "<init>", "()V"⟩
abbrev cX8_thrown : ByteArray := prog_10_method_2_code
def yX8_thrown : MethodName := ⟨RX8, "thrown", "()I"⟩
abbrev cX8_in : ByteArray := prog_10_method_3_code
def yX8_in : MethodName := ⟨RX8, "in", "(III)Z"⟩
abbrev cX8_isOwner : ByteArray := prog_10_method_4_code
def yX8_isOwner : MethodName := ⟨RX8, "isOwner", "(I)Z"⟩
abbrev cX8_isMonth : ByteArray := prog_10_method_5_code
def yX8_isMonth : MethodName := ⟨RX8, "isMonth", "(I)Z"⟩
abbrev cX8_isDay : ByteArray := prog_10_method_6_code
def yX8_isDay : MethodName := ⟨RX8, "isDay", "(I)Z"⟩
abbrev cX8_isKind : ByteArray := prog_10_method_7_code
def yX8_isKind : MethodName := ⟨RX8, "isKind", "(I)Z"⟩
abbrev cX8_sign : ByteArray := prog_10_method_8_code
def yX8_sign : MethodName := ⟨RX8, "sign", "(I)I"⟩
abbrev cX8_next : ByteArray := prog_10_method_9_code
def yX8_next : MethodName := ⟨RX8, "next", "()I"⟩
abbrev cX8_number : ByteArray := prog_10_method_10_code
def yX8_number : MethodName := ⟨RX8, "number", "()I"⟩
abbrev cX8_isAgain : ByteArray := prog_10_method_11_code
def yX8_isAgain : MethodName := ⟨RX8, "isAgain", "(III)Z"⟩
abbrev cX8_line : ByteArray := prog_10_method_12_code
def yX8_line : MethodName := ⟨RX8, "line", "()Z"⟩
abbrev cX8_read : ByteArray := prog_10_method_13_code
def yX8_read : MethodName := ⟨RX8, "read", "()I"⟩
abbrev cX8_charge : ByteArray := prog_10_method_14_code
def yX8_charge : MethodName := ⟨RX8, "charge", "(III)I"⟩
abbrev cX8_cents : ByteArray := prog_10_method_15_code
def yX8_cents : MethodName := ⟨RX8, "cents", "(III)I"⟩
abbrev cX8_unit : ByteArray := prog_10_method_16_code
def yX8_unit : MethodName := ⟨RX8, "unit", "(III)I"⟩
abbrev cX8_isUnit : ByteArray := prog_10_method_17_code
def yX8_isUnit : MethodName := ⟨RX8, "isUnit", "(I)Z"⟩
abbrev cX8_isLate : ByteArray := prog_10_method_18_code
def yX8_isLate : MethodName := ⟨RX8, "isLate", "(II)Z"⟩
abbrev cX8_change : ByteArray := prog_10_method_19_code
def yX8_change : MethodName := ⟨RX8, "change", "(III)Z"⟩
abbrev cX8_gone : ByteArray := prog_10_method_20_code
def yX8_gone : MethodName := ⟨RX8, "gone", "(II)I"⟩
abbrev cX8_move : ByteArray := prog_10_method_21_code
def yX8_move : MethodName := ⟨RX8, "move", "(IIII)I"⟩
abbrev cX8_kindOn : ByteArray := prog_10_method_22_code
def yX8_kindOn : MethodName := ⟨RX8, "kindOn", "(II)I"⟩
abbrev cX8_unitDays : ByteArray := prog_10_method_23_code
def yX8_unitDays : MethodName := ⟨RX8, "unitDays", "(II)I"⟩
abbrev cX8_storage : ByteArray := prog_10_method_24_code
def yX8_storage : MethodName := ⟨RX8, "storage", "(III)I"⟩
abbrev cX8_handling : ByteArray := prog_10_method_25_code
def yX8_handling : MethodName := ⟨RX8, "handling", "(III)I"⟩
abbrev cX8_sumOf : ByteArray := prog_10_method_26_code
def yX8_sumOf : MethodName := ⟨RX8, "sumOf", "(III)I"⟩
abbrev cX8_sum : ByteArray := prog_10_method_27_code
def yX8_sum : MethodName := ⟨RX8, "sum", "(II)I"⟩
abbrev cX8_days : ByteArray := prog_10_method_28_code
def yX8_days : MethodName := ⟨RX8, "days", "(II)I"⟩
abbrev cX8_average : ByteArray := prog_10_method_29_code
def yX8_average : MethodName := ⟨RX8, "average", "(II)I"⟩
abbrev cX8_compare : ByteArray := prog_10_method_30_code
def yX8_compare : MethodName := ⟨RX8, "compare", "(III)I"⟩
abbrev cX8_keep : ByteArray := prog_10_method_31_code
def yX8_keep : MethodName := ⟨RX8, "keep", "(IIIZ)V"⟩
abbrev cX8_bill : ByteArray := prog_10_method_32_code
def yX8_bill : MethodName := ⟨RX8, "bill", "(II)I"⟩
abbrev cX8_correct : ByteArray := prog_10_method_33_code
def yX8_correct : MethodName := ⟨RX8, "correct", "(II)I"⟩
abbrev cX8_rowOf : ByteArray := prog_10_method_34_code
def yX8_rowOf : MethodName := ⟨RX8, "rowOf", "(II)I"⟩
abbrev cX8_line_ : ByteArray := prog_10_method_35_code
def yX8_line_ : MethodName := ⟨RX8, "line", "(III)I"⟩
abbrev cX8_billed : ByteArray := prog_10_method_36_code
def yX8_billed : MethodName := ⟨RX8, "billed", "(I)I"⟩
abbrev cX8_put : ByteArray := prog_10_method_37_code
def yX8_put : MethodName := ⟨RX8, "put", "(I)V"⟩
abbrev cX8_putNumber : ByteArray := prog_10_method_38_code
def yX8_putNumber : MethodName := ⟨RX8, "putNumber", "(I)V"⟩
abbrev cX8_print : ByteArray := prog_10_method_39_code
def yX8_print : MethodName := ⟨RX8, "print", "(I)I"⟩
abbrev cX8_at : ByteArray := prog_10_method_40_code
def yX8_at : MethodName := ⟨RX8, "at", "(I)I"⟩
abbrev cX8_count : ByteArray := prog_10_method_41_code
def yX8_count : MethodName := ⟨RX8, "count", "(I)I"⟩
def RJx145de : String := "java/io/Serializable"
def TJx145de : u_T := fun k => match k with
  | _ => ("", "", "", false)
def tyJx145de : Nat → FieldType := fun k => match k with
  | _ => .int
abbrev wsJx145de0 : List Cond := u_ws RJx145de TJx145de 0
theorem nmJx145de : ∀ a, a < 0 → ∀ b, b < 0 → a ≠ b → (TJx145de a).2.1 ≠ (TJx145de b).2.1 := by decide +kernel
theorem tyJx145de_ok : ∀ k, k < 0 → parseFieldDescriptor (TJx145de k).2.2.1 = some (tyJx145de k) := by decide +kernel
def RJx00060 : String := "java/lang/ArrayIndexOutOfBoundsException"
def TJx00060 : u_T := fun k => match k with
  | 0 => ("java/lang/Throwable", "cause", "Ljava/lang/Throwable;", false)
  | 1 => ("java/lang/Throwable", "stackTrace", "[Ljava/lang/StackTraceElement;", false)
  | 2 => ("java/lang/Throwable", "suppressedExceptions", "Ljava/util/List;", false)
  | 3 => ("java/lang/Throwable", "detailMessage", "Ljava/lang/String;", false)
  | 4 => ("java/lang/Throwable", "backtrace", "Ljava/lang/Object;", false)
  | _ => ("java/lang/Throwable", "depth", "I", false)
def tyJx00060 : Nat → FieldType := fun k => match k with
  | 0 => .object "java/lang/Throwable"
  | 1 => .array (.object "java/lang/StackTraceElement")
  | 2 => .object "java/util/List"
  | 3 => .object "java/lang/String"
  | 4 => .object "java/lang/Object"
  | _ => .int
abbrev wsJx000600 : List Cond := u_ws RJx00060 TJx00060 6
theorem nmJx00060 : ∀ a, a < 6 → ∀ b, b < 6 → a ≠ b → (TJx00060 a).2.1 ≠ (TJx00060 b).2.1 := by decide +kernel
theorem tyJx00060_ok : ∀ k, k < 6 → parseFieldDescriptor (TJx00060 k).2.2.1 = some (tyJx00060 k) := by decide +kernel
abbrev cJx00060_init_a7421 : ByteArray := prog_13_method_2_code
def yJx00060_init_a7421 : MethodName := ⟨RJx00060, "<init>", "(Ljava/lang/String;)V"⟩
def RJx8e188 : String := "java/lang/Cloneable"
def TJx8e188 : u_T := fun k => match k with
  | _ => ("", "", "", false)
def tyJx8e188 : Nat → FieldType := fun k => match k with
  | _ => .int
abbrev wsJx8e1880 : List Cond := u_ws RJx8e188 TJx8e188 0
theorem nmJx8e188 : ∀ a, a < 0 → ∀ b, b < 0 → a ≠ b → (TJx8e188 a).2.1 ≠ (TJx8e188 b).2.1 := by decide +kernel
theorem tyJx8e188_ok : ∀ k, k < 0 → parseFieldDescriptor (TJx8e188 k).2.2.1 = some (tyJx8e188 k) := by decide +kernel
def RJxab1ab : String := "java/lang/Iterable"
def TJxab1ab : u_T := fun k => match k with
  | _ => ("", "", "", false)
def tyJxab1ab : Nat → FieldType := fun k => match k with
  | _ => .int
abbrev wsJxab1ab0 : List Cond := u_ws RJxab1ab TJxab1ab 0
theorem nmJxab1ab : ∀ a, a < 0 → ∀ b, b < 0 → a ≠ b → (TJxab1ab a).2.1 ≠ (TJxab1ab b).2.1 := by decide +kernel
theorem tyJxab1ab_ok : ∀ k, k < 0 → parseFieldDescriptor (TJxab1ab k).2.2.1 = some (tyJxab1ab k) := by decide +kernel
def RJ9 : String := "java/lang/Math"
def TJ9 : u_T := fun k => match k with
  | _ => ("", "", "", false)
def tyJ9 : Nat → FieldType := fun k => match k with
  | _ => .int
abbrev wsJ90 : List Cond := u_ws RJ9 TJ9 0
theorem nmJ9 : ∀ a, a < 0 → ∀ b, b < 0 → a ≠ b → (TJ9 a).2.1 ≠ (TJ9 b).2.1 := by decide +kernel
theorem tyJ9_ok : ∀ k, k < 0 → parseFieldDescriptor (TJ9 k).2.2.1 = some (tyJ9 k) := by decide +kernel
abbrev cJ9_abs_067f4 : ByteArray := prog_20_method_61_code
def yJ9_abs_067f4 : MethodName := ⟨RJ9, "abs", "(J)J"⟩
abbrev cJ9_max_7cf53 : ByteArray := prog_20_method_65_code
def yJ9_max_7cf53 : MethodName := ⟨RJ9, "max", "(II)I"⟩
abbrev cJ9_min_7cf53 : ByteArray := prog_20_method_69_code
def yJ9_min_7cf53 : MethodName := ⟨RJ9, "min", "(II)I"⟩
def RJ0 : String := "java/lang/String"
def TJ0 : u_T := fun k => match k with
  | _ => ("", "", "", false)
def tyJ0 : Nat → FieldType := fun k => match k with
  | _ => .int
abbrev wsJ00 : List Cond := u_ws RJ0 TJ0 0
theorem nmJ0 : ∀ a, a < 0 → ∀ b, b < 0 → a ≠ b → (TJ0 a).2.1 ≠ (TJ0 b).2.1 := by decide +kernel
theorem tyJ0_ok : ∀ k, k < 0 → parseFieldDescriptor (TJ0 k).2.2.1 = some (tyJ0 k) := by decide +kernel
def RJ10 : String := "java/lang/System"
def TJ10 : u_T := fun k => match k with
  | _ => ("", "", "", false)
def tyJ10 : Nat → FieldType := fun k => match k with
  | _ => .int
abbrev wsJ100 : List Cond := u_ws RJ10 TJ10 0
theorem nmJ10 : ∀ a, a < 0 → ∀ b, b < 0 → a ≠ b → (TJ10 a).2.1 ≠ (TJ10 b).2.1 := by decide +kernel
theorem tyJ10_ok : ∀ k, k < 0 → parseFieldDescriptor (TJ10 k).2.2.1 = some (tyJ10 k) := by decide +kernel
def RJxa1e45 : String := "java/util/AbstractCollection"
def TJxa1e45 : u_T := fun k => match k with
  | _ => ("", "", "", false)
def tyJxa1e45 : Nat → FieldType := fun k => match k with
  | _ => .int
abbrev wsJxa1e450 : List Cond := u_ws RJxa1e45 TJxa1e45 0
theorem nmJxa1e45 : ∀ a, a < 0 → ∀ b, b < 0 → a ≠ b → (TJxa1e45 a).2.1 ≠ (TJxa1e45 b).2.1 := by decide +kernel
theorem tyJxa1e45_ok : ∀ k, k < 0 → parseFieldDescriptor (TJxa1e45 k).2.2.1 = some (tyJxa1e45 k) := by decide +kernel
abbrev cJxa1e45_init_da8c8 : ByteArray := prog_26_method_1_code
def yJxa1e45_init_da8c8 : MethodName := ⟨RJxa1e45, "<init>", "()V"⟩
def RJxc12de : String := "java/util/AbstractList"
def TJxc12de : u_T := fun k => match k with
  | _ => ("", "", "", false)
def tyJxc12de : Nat → FieldType := fun k => match k with
  | _ => .int
abbrev wsJxc12de0 : List Cond := u_ws RJxc12de TJxc12de 0
theorem nmJxc12de : ∀ a, a < 0 → ∀ b, b < 0 → a ≠ b → (TJxc12de a).2.1 ≠ (TJxc12de b).2.1 := by decide +kernel
theorem tyJxc12de_ok : ∀ k, k < 0 → parseFieldDescriptor (TJxc12de k).2.2.1 = some (tyJxc12de k) := by decide +kernel
abbrev cJxc12de_init_da8c8 : ByteArray := prog_27_method_1_code
def yJxc12de_init_da8c8 : MethodName := ⟨RJxc12de, "<init>", "()V"⟩
def RJx4a65c : String := "java/util/ArrayList"
def TJx4a65c : u_T := fun k => match k with
  | 0 => ("java/util/AbstractList", "modCount", "I", false)
  | 1 => ("java/util/ArrayList", "elementData", "[Ljava/lang/Object;", false)
  | _ => ("java/util/ArrayList", "size", "I", false)
def tyJx4a65c : Nat → FieldType := fun k => match k with
  | 0 => .int
  | 1 => .array (.object "java/lang/Object")
  | _ => .int
abbrev wsJx4a65c0 : List Cond := u_ws RJx4a65c TJx4a65c 3
theorem nmJx4a65c : ∀ a, a < 3 → ∀ b, b < 3 → a ≠ b → (TJx4a65c a).2.1 ≠ (TJx4a65c b).2.1 := by decide +kernel
theorem tyJx4a65c_ok : ∀ k, k < 3 → parseFieldDescriptor (TJx4a65c k).2.2.1 = some (tyJx4a65c k) := by decide +kernel
abbrev cJx4a65c_init_da8c8 : ByteArray := prog_28_method_2_code
def yJx4a65c_init_da8c8 : MethodName := ⟨RJx4a65c, "<init>", "()V"⟩
abbrev cJx4a65c_grow_92f84 : ByteArray := prog_28_method_6_code
def yJx4a65c_grow_92f84 : MethodName := ⟨RJx4a65c, "grow", "(I)[Ljava/lang/Object;"⟩
abbrev cJx4a65c_grow_d5877 : ByteArray := prog_28_method_7_code
def yJx4a65c_grow_d5877 : MethodName := ⟨RJx4a65c, "grow", "()[Ljava/lang/Object;"⟩
abbrev cJx4a65c_size_8abf5 : ByteArray := prog_28_method_8_code
def yJx4a65c_size_8abf5 : MethodName := ⟨RJx4a65c, "size", "()I"⟩
abbrev cJx4a65c_elementData_915e3 : ByteArray := prog_28_method_18_code
def yJx4a65c_elementData_915e3 : MethodName := ⟨RJx4a65c, "elementData", "(I)Ljava/lang/Object;"⟩
abbrev cJx4a65c_get_915e3 : ByteArray := prog_28_method_20_code
def yJx4a65c_get_915e3 : MethodName := ⟨RJx4a65c, "get", "(I)Ljava/lang/Object;"⟩
abbrev cJx4a65c_add_72be8 : ByteArray := prog_28_method_24_code
def yJx4a65c_add_72be8 : MethodName := ⟨RJx4a65c, "add", "(Ljava/lang/Object;[Ljava/lang/Object;I)V"⟩
abbrev cJx4a65c_add_9ea2d : ByteArray := prog_28_method_25_code
def yJx4a65c_add_9ea2d : MethodName := ⟨RJx4a65c, "add", "(Ljava/lang/Object;)Z"⟩
def RJ7 : String := "java/util/Arrays"
def TJ7 : u_T := fun k => match k with
  | _ => ("", "", "", false)
def tyJ7 : Nat → FieldType := fun k => match k with
  | _ => .int
abbrev wsJ70 : List Cond := u_ws RJ7 TJ7 0
theorem nmJ7 : ∀ a, a < 0 → ∀ b, b < 0 → a ≠ b → (TJ7 a).2.1 ≠ (TJ7 b).2.1 := by decide +kernel
theorem tyJ7_ok : ∀ k, k < 0 → parseFieldDescriptor (TJ7 k).2.2.1 = some (tyJ7 k) := by decide +kernel
abbrev cJ7_fill_53178 : ByteArray := prog_29_method_103_code
def yJ7_fill_53178 : MethodName := ⟨RJ7, "fill", "([II)V"⟩
abbrev cJ7_copyOf_1904c : ByteArray := prog_29_method_119_code
def yJ7_copyOf_1904c : MethodName := ⟨RJ7, "copyOf", "([Ljava/lang/Object;I)[Ljava/lang/Object;"⟩
abbrev cJ7_copyOf_6403c : ByteArray := prog_29_method_120_code
def yJ7_copyOf_6403c : MethodName := ⟨RJ7, "copyOf", "([Ljava/lang/Object;ILjava/lang/Class;)[Ljava/lang/Object;"⟩
def RJx5ef63 : String := "java/util/Collection"
def TJx5ef63 : u_T := fun k => match k with
  | _ => ("", "", "", false)
def tyJx5ef63 : Nat → FieldType := fun k => match k with
  | _ => .int
abbrev wsJx5ef630 : List Cond := u_ws RJx5ef63 TJx5ef63 0
theorem nmJx5ef63 : ∀ a, a < 0 → ∀ b, b < 0 → a ≠ b → (TJx5ef63 a).2.1 ≠ (TJx5ef63 b).2.1 := by decide +kernel
theorem tyJx5ef63_ok : ∀ k, k < 0 → parseFieldDescriptor (TJx5ef63 k).2.2.1 = some (tyJx5ef63 k) := by decide +kernel
def RJxbd725 : String := "java/util/List"
def TJxbd725 : u_T := fun k => match k with
  | _ => ("", "", "", false)
def tyJxbd725 : Nat → FieldType := fun k => match k with
  | _ => .int
abbrev wsJxbd7250 : List Cond := u_ws RJxbd725 TJxbd725 0
theorem nmJxbd725 : ∀ a, a < 0 → ∀ b, b < 0 → a ≠ b → (TJxbd725 a).2.1 ≠ (TJxbd725 b).2.1 := by decide +kernel
theorem tyJxbd725_ok : ∀ k, k < 0 → parseFieldDescriptor (TJxbd725 k).2.2.1 = some (tyJxbd725 k) := by decide +kernel
def RJ15 : String := "java/util/Objects"
def TJ15 : u_T := fun k => match k with
  | _ => ("", "", "", false)
def tyJ15 : Nat → FieldType := fun k => match k with
  | _ => .int
abbrev wsJ150 : List Cond := u_ws RJ15 TJ15 0
theorem nmJ15 : ∀ a, a < 0 → ∀ b, b < 0 → a ≠ b → (TJ15 a).2.1 ≠ (TJ15 b).2.1 := by decide +kernel
theorem tyJ15_ok : ∀ k, k < 0 → parseFieldDescriptor (TJ15 k).2.2.1 = some (tyJ15 k) := by decide +kernel
abbrev cJ15_checkIndex_7cf53 : ByteArray := prog_33_method_17_code
def yJ15_checkIndex_7cf53 : MethodName := ⟨RJ15, "checkIndex", "(II)I"⟩
def RJxf0a74 : String := "java/util/RandomAccess"
def TJxf0a74 : u_T := fun k => match k with
  | _ => ("", "", "", false)
def tyJxf0a74 : Nat → FieldType := fun k => match k with
  | _ => .int
abbrev wsJxf0a740 : List Cond := u_ws RJxf0a74 TJxf0a74 0
theorem nmJxf0a74 : ∀ a, a < 0 → ∀ b, b < 0 → a ≠ b → (TJxf0a74 a).2.1 ≠ (TJxf0a74 b).2.1 := by decide +kernel
theorem tyJxf0a74_ok : ∀ k, k < 0 → parseFieldDescriptor (TJxf0a74 k).2.2.1 = some (tyJxf0a74 k) := by decide +kernel
def RJxa66e6 : String := "java/util/SequencedCollection"
def TJxa66e6 : u_T := fun k => match k with
  | _ => ("", "", "", false)
def tyJxa66e6 : Nat → FieldType := fun k => match k with
  | _ => .int
abbrev wsJxa66e60 : List Cond := u_ws RJxa66e6 TJxa66e6 0
theorem nmJxa66e6 : ∀ a, a < 0 → ∀ b, b < 0 → a ≠ b → (TJxa66e6 a).2.1 ≠ (TJxa66e6 b).2.1 := by decide +kernel
theorem tyJxa66e6_ok : ∀ k, k < 0 → parseFieldDescriptor (TJxa66e6 k).2.2.1 = some (tyJxa66e6 k) := by decide +kernel
def RJ8 : String := "jdk/internal/util/ArraysSupport"
def TJ8 : u_T := fun k => match k with
  | _ => ("", "", "", false)
def tyJ8 : Nat → FieldType := fun k => match k with
  | _ => .int
abbrev wsJ80 : List Cond := u_ws RJ8 TJ8 0
theorem nmJ8 : ∀ a, a < 0 → ∀ b, b < 0 → a ≠ b → (TJ8 a).2.1 ≠ (TJ8 b).2.1 := by decide +kernel
theorem tyJ8_ok : ∀ k, k < 0 → parseFieldDescriptor (TJ8 k).2.2.1 = some (tyJ8 k) := by decide +kernel
abbrev cJ8_newLength_cabcc : ByteArray := prog_36_method_27_code
def yJ8_newLength_cabcc : MethodName := ⟨RJ8, "newLength", "(III)I"⟩
abbrev cJ8_hugeLength_7cf53 : ByteArray := prog_36_method_28_code
def yJ8_hugeLength_7cf53 : MethodName := ⟨RJ8, "hugeLength", "(II)I"⟩
def RJ3 : String := "jdk/internal/util/Preconditions"
def TJ3 : u_T := fun k => match k with
  | _ => ("", "", "", false)
def tyJ3 : Nat → FieldType := fun k => match k with
  | _ => .int
abbrev wsJ30 : List Cond := u_ws RJ3 TJ3 0
theorem nmJ3 : ∀ a, a < 0 → ∀ b, b < 0 → a ≠ b → (TJ3 a).2.1 ≠ (TJ3 b).2.1 := by decide +kernel
theorem tyJ3_ok : ∀ k, k < 0 → parseFieldDescriptor (TJ3 k).2.2.1 = some (tyJ3 k) := by decide +kernel
abbrev cJ3_checkIndex_8e157 : ByteArray := prog_37_method_11_code
def yJ3_checkIndex_8e157 : MethodName := ⟨RJ3, "checkIndex", "(IILjava/util/function/BiFunction;)I"⟩
def RL : String := "StorageChargeLaw"
abbrev cL_sign : ByteArray := method_3_code
def yL_sign : MethodName := ⟨RL, "sign", "(LStorageCharge;I[J)I"⟩
abbrev cL_unit : ByteArray := method_4_code
def yL_unit : MethodName := ⟨RL, "unit", "(LStorageCharge;III[J)I"⟩
abbrev cL_change : ByteArray := method_5_code
def yL_change : MethodName := ⟨RL, "change", "(LStorageCharge;III[J)I"⟩
abbrev cL_gone : ByteArray := method_6_code
def yL_gone : MethodName := ⟨RL, "gone", "(LStorageCharge;II[J)I"⟩
abbrev cL_move : ByteArray := method_7_code
def yL_move : MethodName := ⟨RL, "move", "(LStorageCharge;IIII[J)I"⟩
abbrev cL_sum : ByteArray := method_8_code
def yL_sum : MethodName := ⟨RL, "sum", "(LStorageCharge;II[J)I"⟩
abbrev cL_days : ByteArray := method_9_code
def yL_days : MethodName := ⟨RL, "days", "(LStorageCharge;II[J)I"⟩
abbrev cL_average : ByteArray := method_10_code
def yL_average : MethodName := ⟨RL, "average", "(LStorageCharge;II[J)I"⟩
abbrev cL_bill : ByteArray := method_11_code
def yL_bill : MethodName := ⟨RL, "bill", "(LStorageCharge;II[J)I"⟩
abbrev cL_correct : ByteArray := method_12_code
def yL_correct : MethodName := ⟨RL, "correct", "(LStorageCharge;II[J)I"⟩
abbrev cL_line : ByteArray := method_13_code
def yL_line : MethodName := ⟨RL, "line", "(LStorageCharge;III[J)I"⟩
abbrev cL_billed : ByteArray := method_14_code
def yL_billed : MethodName := ⟨RL, "billed", "(LStorageCharge;I[J)I"⟩
abbrev cL_compare : ByteArray := method_15_code
def yL_compare : MethodName := ⟨RL, "compare", "(LStorageCharge;III[J)I"⟩
abbrev cL_print : ByteArray := method_16_code
def yL_print : MethodName := ⟨RL, "print", "(LStorageCharge;I[J)I"⟩
abbrev cL_at : ByteArray := method_17_code
def yL_at : MethodName := ⟨RL, "at", "(LStorageCharge;I[J)I"⟩
abbrev cL_law : ByteArray := code
def yL_law : MethodName := ⟨RL, "law", "([I)Z"⟩
def wsX0_init : List Cond := .code yX0_init cX0_init 5 none :: ([.methodLink RX0 1 objectInit, .instanceMethod objectInit, .code objectInit ⟨#[0xb1]⟩ 1 none, .fieldLink RX0 7 "StorageCharge$BillLine" "owner" "I", .fieldLink RX0 13 "StorageCharge$BillLine" "month" "I", .fieldLink RX0 16 "StorageCharge$BillLine" "cents" "I", .fieldLink RX0 19 "StorageCharge$BillLine" "isCorrection" "Z"] ++ wsX00)
def wsJxa1e45_init_da8c8 : List Cond := .code yJxa1e45_init_da8c8 cJxa1e45_init_da8c8 1 none :: ([.methodLink RJxa1e45 1 objectInit, .instanceMethod objectInit, .code objectInit ⟨#[0xb1]⟩ 1 none])
def wsJxc12de_init_da8c8 : List Cond := .code yJxc12de_init_da8c8 cJxc12de_init_da8c8 1 none :: ([.fieldLink RJxc12de 7 "java/util/AbstractList" "modCount" "I", .methodLink RJxc12de 1 yJxa1e45_init_da8c8, .instanceMethod yJxa1e45_init_da8c8, .initialized RJxa1e45, .code yJxa1e45_init_da8c8 cJxa1e45_init_da8c8 1 none, .methodLink RJxa1e45 1 objectInit, .instanceMethod objectInit, .code objectInit ⟨#[0xb1]⟩ 1 none] ++ wsJx4a65c0)
def wsJx4a65c_init_da8c8 : List Cond := .code yJx4a65c_init_da8c8 cJx4a65c_init_da8c8 1 none :: ([.fieldLink RJx4a65c 39 "java/util/ArrayList" "DEFAULTCAPACITY_EMPTY_ELEMENTDATA" "[Ljava/lang/Object;", .fieldLink RJx4a65c 9 "java/util/ArrayList" "elementData" "[Ljava/lang/Object;", .methodLink RJx4a65c 1 yJxc12de_init_da8c8, .instanceMethod yJxc12de_init_da8c8, .initialized RJxc12de, .code yJxc12de_init_da8c8 cJxc12de_init_da8c8 1 none, .fieldLink RJxc12de 7 "java/util/AbstractList" "modCount" "I", .methodLink RJxc12de 1 yJxa1e45_init_da8c8, .instanceMethod yJxa1e45_init_da8c8, .initialized RJxa1e45, .code yJxa1e45_init_da8c8 cJxa1e45_init_da8c8 1 none, .methodLink RJxa1e45 1 objectInit, .instanceMethod objectInit, .code objectInit ⟨#[0xb1]⟩ 1 none] ++ wsJx4a65c0)
def wsX1_init : List Cond := .code yX1_init cX1_init 1 none :: ([.methodLink RX1 3 objectInit, .instanceMethod objectInit, .code objectInit ⟨#[0xb1]⟩ 1 none, .classLink RX1 9 RJx4a65c, .instantiable RJx4a65c 3, .initialized RJx4a65c, .fieldLink RX1 12 "StorageCharge$Bills" "lines" "Ljava/util/ArrayList;", .methodLink RX1 11 yJx4a65c_init_da8c8, .instanceMethod yJx4a65c_init_da8c8, .code yJx4a65c_init_da8c8 cJx4a65c_init_da8c8 1 none, .fieldLink RJx4a65c 39 "java/util/ArrayList" "DEFAULTCAPACITY_EMPTY_ELEMENTDATA" "[Ljava/lang/Object;", .fieldLink RJx4a65c 9 "java/util/ArrayList" "elementData" "[Ljava/lang/Object;", .methodLink RJx4a65c 1 yJxc12de_init_da8c8, .instanceMethod yJxc12de_init_da8c8, .initialized RJxc12de, .code yJxc12de_init_da8c8 cJxc12de_init_da8c8 1 none, .fieldLink RJxc12de 7 "java/util/AbstractList" "modCount" "I", .methodLink RJxc12de 1 yJxa1e45_init_da8c8, .instanceMethod yJxa1e45_init_da8c8, .initialized RJxa1e45, .code yJxa1e45_init_da8c8 cJxa1e45_init_da8c8 1 none, .methodLink RJxa1e45 1 objectInit] ++ wsJx4a65c0 ++ wsX10)
def wsJx4a65c_size_8abf5 : List Cond := .code yJx4a65c_size_8abf5 cJx4a65c_size_8abf5 1 (some .int) :: ([.fieldLink RJx4a65c 48 "java/util/ArrayList" "size" "I"] ++ wsJx4a65c0)
def wsJ8_hugeLength_7cf53 : List Cond := .code yJ8_hugeLength_7cf53 cJ8_hugeLength_7cf53 3 (some .int) :: ([.constant RJ8 200 (2147483639)])
def wsJ8_newLength_cabcc : List Cond := .code yJ8_newLength_cabcc cJ8_newLength_cabcc 4 (some .int) :: ([.methodLink RJ8 194 Lib.Math.max.name, .static Lib.Math.max.name, .initialized "java/lang/Math", .code Lib.Math.max.name Lib.Math.max.code 2 (some .int), .constant RJ8 200 (2147483639), .methodLink RJ8 201 yJ8_hugeLength_7cf53, .static yJ8_hugeLength_7cf53, .initialized RJ8, .code yJ8_hugeLength_7cf53 cJ8_hugeLength_7cf53 3 (some .int)])
def wsJ7_copyOf_6403c : List Cond := .code yJ7_copyOf_6403c cJ7_copyOf_6403c 4 (some (.array (.object "java/lang/Object"))) :: ([.classLink RJ7 110 "[Ljava/lang/Object;", .classLink RJ7 2 "java/lang/Object", .methodLink RJ7 304 Lib.Math.min.name, .static Lib.Math.min.name, .initialized "java/lang/Math", .code Lib.Math.min.name Lib.Math.min.code 2 (some .int), .methodLink RJ7 150 arraycopyName, .native arraycopyName, .static arraycopyName, .initialized "java/lang/System"])
def wsJ7_copyOf_1904c : List Cond := .code yJ7_copyOf_1904c cJ7_copyOf_1904c 2 (some (.array (.object "java/lang/Object"))) :: ([.methodLink RJ7 86 ⟨"java/lang/Object", "getClass", "()Ljava/lang/Class;"⟩, .selects "[Ljava/lang/Object;" ⟨"java/lang/Object", "getClass", "()Ljava/lang/Class;"⟩ ⟨"java/lang/Object", "getClass", "()Ljava/lang/Class;"⟩, .instanceMethod ⟨"java/lang/Object", "getClass", "()Ljava/lang/Class;"⟩, .native ⟨"java/lang/Object", "getClass", "()Ljava/lang/Class;"⟩, .methodLink RJ7 300 yJ7_copyOf_6403c, .static yJ7_copyOf_6403c, .initialized RJ7, .code yJ7_copyOf_6403c cJ7_copyOf_6403c 4 (some (.array (.object "java/lang/Object"))), .classLink RJ7 110 "[Ljava/lang/Object;", .classLink RJ7 2 "java/lang/Object", .methodLink RJ7 304 Lib.Math.min.name, .static Lib.Math.min.name, .initialized "java/lang/Math", .code Lib.Math.min.name Lib.Math.min.code 2 (some .int), .methodLink RJ7 150 arraycopyName, .native arraycopyName, .static arraycopyName, .initialized "java/lang/System"])
def wsJx4a65c_grow_92f84_r1 : List Cond := [Cond.fieldLink RJx4a65c 9 "java/util/ArrayList" "elementData" "[Ljava/lang/Object;", Cond.fieldLink RJx4a65c 39 "java/util/ArrayList" "DEFAULTCAPACITY_EMPTY_ELEMENTDATA" "[Ljava/lang/Object;", Cond.methodLink RJx4a65c 79 Lib.Math.max.name, Cond.static Lib.Math.max.name, Cond.initialized "java/lang/Math", Cond.code Lib.Math.max.name Lib.Math.max.code 2 (some .int), Cond.classLink RJx4a65c 7 "java/lang/Object", Cond.methodLink RJx4a65c 73 yJ8_newLength_cabcc, Cond.static yJ8_newLength_cabcc, Cond.initialized RJ8, Cond.code yJ8_newLength_cabcc cJ8_newLength_cabcc 4 (some .int), Cond.methodLink RJ8 194 Lib.Math.max.name, Cond.constant RJ8 200 (2147483639), Cond.methodLink RJ8 201 yJ8_hugeLength_7cf53, Cond.static yJ8_hugeLength_7cf53, Cond.code yJ8_hugeLength_7cf53 cJ8_hugeLength_7cf53 3 (some .int), Cond.methodLink RJx4a65c 66 yJ7_copyOf_1904c, Cond.static yJ7_copyOf_1904c, Cond.initialized RJ7, Cond.code yJ7_copyOf_1904c cJ7_copyOf_1904c 2 (some (.array (.object "java/lang/Object"))), Cond.methodLink RJ7 86 ⟨"java/lang/Object", "getClass", "()Ljava/lang/Class;"⟩, Cond.selects "[Ljava/lang/Object;" ⟨"java/lang/Object", "getClass", "()Ljava/lang/Class;"⟩ ⟨"java/lang/Object", "getClass", "()Ljava/lang/Class;"⟩, Cond.instanceMethod ⟨"java/lang/Object", "getClass", "()Ljava/lang/Class;"⟩, Cond.native ⟨"java/lang/Object", "getClass", "()Ljava/lang/Class;"⟩]
def wsJx4a65c_grow_92f84_r2 : List Cond := [Cond.methodLink RJ7 300 yJ7_copyOf_6403c, Cond.static yJ7_copyOf_6403c, Cond.code yJ7_copyOf_6403c cJ7_copyOf_6403c 4 (some (.array (.object "java/lang/Object"))), Cond.classLink RJ7 110 "[Ljava/lang/Object;", Cond.classLink RJ7 2 "java/lang/Object", Cond.methodLink RJ7 304 Lib.Math.min.name, Cond.static Lib.Math.min.name, Cond.code Lib.Math.min.name Lib.Math.min.code 2 (some .int), Cond.methodLink RJ7 150 arraycopyName, Cond.native arraycopyName, Cond.static arraycopyName, Cond.initialized "java/lang/System"]
def wsJx4a65c_grow_92f84 : List Cond := .code yJx4a65c_grow_92f84 cJx4a65c_grow_92f84 4 (some (.array (.object "java/lang/Object"))) :: ((wsJx4a65c_grow_92f84_r1 ++ wsJx4a65c_grow_92f84_r2) ++ wsJx4a65c0)
def wsJx4a65c_grow_d5877_r1 : List Cond := [Cond.fieldLink RJx4a65c 48 "java/util/ArrayList" "size" "I", Cond.methodLink RJx4a65c 69 yJx4a65c_grow_92f84, Cond.instanceMethod yJx4a65c_grow_92f84, Cond.selects RJx4a65c yJx4a65c_grow_92f84 yJx4a65c_grow_92f84, Cond.initialized RJx4a65c, Cond.code yJx4a65c_grow_92f84 cJx4a65c_grow_92f84 4 (some (.array (.object "java/lang/Object"))), Cond.fieldLink RJx4a65c 9 "java/util/ArrayList" "elementData" "[Ljava/lang/Object;", Cond.fieldLink RJx4a65c 39 "java/util/ArrayList" "DEFAULTCAPACITY_EMPTY_ELEMENTDATA" "[Ljava/lang/Object;", Cond.methodLink RJx4a65c 79 Lib.Math.max.name, Cond.static Lib.Math.max.name, Cond.initialized "java/lang/Math", Cond.code Lib.Math.max.name Lib.Math.max.code 2 (some .int), Cond.classLink RJx4a65c 7 "java/lang/Object", Cond.methodLink RJx4a65c 73 yJ8_newLength_cabcc, Cond.static yJ8_newLength_cabcc, Cond.initialized RJ8, Cond.code yJ8_newLength_cabcc cJ8_newLength_cabcc 4 (some .int), Cond.methodLink RJ8 194 Lib.Math.max.name, Cond.constant RJ8 200 (2147483639), Cond.methodLink RJ8 201 yJ8_hugeLength_7cf53, Cond.static yJ8_hugeLength_7cf53, Cond.code yJ8_hugeLength_7cf53 cJ8_hugeLength_7cf53 3 (some .int), Cond.methodLink RJx4a65c 66 yJ7_copyOf_1904c, Cond.static yJ7_copyOf_1904c]
def wsJx4a65c_grow_d5877_r2 : List Cond := [Cond.initialized RJ7, Cond.code yJ7_copyOf_1904c cJ7_copyOf_1904c 2 (some (.array (.object "java/lang/Object"))), Cond.methodLink RJ7 86 ⟨"java/lang/Object", "getClass", "()Ljava/lang/Class;"⟩, Cond.selects "[Ljava/lang/Object;" ⟨"java/lang/Object", "getClass", "()Ljava/lang/Class;"⟩ ⟨"java/lang/Object", "getClass", "()Ljava/lang/Class;"⟩, Cond.instanceMethod ⟨"java/lang/Object", "getClass", "()Ljava/lang/Class;"⟩, Cond.native ⟨"java/lang/Object", "getClass", "()Ljava/lang/Class;"⟩, Cond.methodLink RJ7 300 yJ7_copyOf_6403c, Cond.static yJ7_copyOf_6403c, Cond.code yJ7_copyOf_6403c cJ7_copyOf_6403c 4 (some (.array (.object "java/lang/Object"))), Cond.classLink RJ7 110 "[Ljava/lang/Object;", Cond.classLink RJ7 2 "java/lang/Object", Cond.methodLink RJ7 304 Lib.Math.min.name, Cond.static Lib.Math.min.name, Cond.code Lib.Math.min.name Lib.Math.min.code 2 (some .int), Cond.methodLink RJ7 150 arraycopyName, Cond.native arraycopyName, Cond.static arraycopyName, Cond.initialized "java/lang/System"]
def wsJx4a65c_grow_d5877 : List Cond := .code yJx4a65c_grow_d5877 cJx4a65c_grow_d5877 1 (some (.array (.object "java/lang/Object"))) :: ((wsJx4a65c_grow_d5877_r1 ++ wsJx4a65c_grow_d5877_r2) ++ wsJx4a65c0)
def wsJx4a65c_add_72be8_r1 : List Cond := [Cond.fieldLink RJx4a65c 48 "java/util/ArrayList" "size" "I", Cond.methodLink RJx4a65c 129 yJx4a65c_grow_d5877, Cond.instanceMethod yJx4a65c_grow_d5877, Cond.selects RJx4a65c yJx4a65c_grow_d5877 yJx4a65c_grow_d5877, Cond.initialized RJx4a65c, Cond.code yJx4a65c_grow_d5877 cJx4a65c_grow_d5877 1 (some (.array (.object "java/lang/Object"))), Cond.methodLink RJx4a65c 69 yJx4a65c_grow_92f84, Cond.instanceMethod yJx4a65c_grow_92f84, Cond.selects RJx4a65c yJx4a65c_grow_92f84 yJx4a65c_grow_92f84, Cond.code yJx4a65c_grow_92f84 cJx4a65c_grow_92f84 4 (some (.array (.object "java/lang/Object"))), Cond.fieldLink RJx4a65c 9 "java/util/ArrayList" "elementData" "[Ljava/lang/Object;", Cond.fieldLink RJx4a65c 39 "java/util/ArrayList" "DEFAULTCAPACITY_EMPTY_ELEMENTDATA" "[Ljava/lang/Object;", Cond.methodLink RJx4a65c 79 Lib.Math.max.name, Cond.static Lib.Math.max.name, Cond.initialized "java/lang/Math", Cond.code Lib.Math.max.name Lib.Math.max.code 2 (some .int), Cond.classLink RJx4a65c 7 "java/lang/Object", Cond.methodLink RJx4a65c 73 yJ8_newLength_cabcc, Cond.static yJ8_newLength_cabcc, Cond.initialized RJ8, Cond.code yJ8_newLength_cabcc cJ8_newLength_cabcc 4 (some .int), Cond.methodLink RJ8 194 Lib.Math.max.name, Cond.constant RJ8 200 (2147483639), Cond.methodLink RJ8 201 yJ8_hugeLength_7cf53]
def wsJx4a65c_add_72be8_r2 : List Cond := [Cond.static yJ8_hugeLength_7cf53, Cond.code yJ8_hugeLength_7cf53 cJ8_hugeLength_7cf53 3 (some .int), Cond.methodLink RJx4a65c 66 yJ7_copyOf_1904c, Cond.static yJ7_copyOf_1904c, Cond.initialized RJ7, Cond.code yJ7_copyOf_1904c cJ7_copyOf_1904c 2 (some (.array (.object "java/lang/Object"))), Cond.methodLink RJ7 86 ⟨"java/lang/Object", "getClass", "()Ljava/lang/Class;"⟩, Cond.selects "[Ljava/lang/Object;" ⟨"java/lang/Object", "getClass", "()Ljava/lang/Class;"⟩ ⟨"java/lang/Object", "getClass", "()Ljava/lang/Class;"⟩, Cond.instanceMethod ⟨"java/lang/Object", "getClass", "()Ljava/lang/Class;"⟩, Cond.native ⟨"java/lang/Object", "getClass", "()Ljava/lang/Class;"⟩, Cond.methodLink RJ7 300 yJ7_copyOf_6403c, Cond.static yJ7_copyOf_6403c, Cond.code yJ7_copyOf_6403c cJ7_copyOf_6403c 4 (some (.array (.object "java/lang/Object"))), Cond.classLink RJ7 110 "[Ljava/lang/Object;", Cond.classLink RJ7 2 "java/lang/Object", Cond.methodLink RJ7 304 Lib.Math.min.name, Cond.static Lib.Math.min.name, Cond.code Lib.Math.min.name Lib.Math.min.code 2 (some .int), Cond.methodLink RJ7 150 arraycopyName, Cond.native arraycopyName, Cond.static arraycopyName, Cond.initialized "java/lang/System"]
def wsJx4a65c_add_72be8 : List Cond := .code yJx4a65c_add_72be8 cJx4a65c_add_72be8 4 none :: ((wsJx4a65c_add_72be8_r1 ++ wsJx4a65c_add_72be8_r2) ++ wsJx4a65c0)
def wsJx4a65c_add_9ea2d_r1 : List Cond := [Cond.fieldLink RJx4a65c 63 "java/util/ArrayList" "modCount" "I", Cond.sameField "java/util/ArrayList" "java/util/AbstractList" "modCount" "I", Cond.fieldLink RJx4a65c 9 "java/util/ArrayList" "elementData" "[Ljava/lang/Object;", Cond.fieldLink RJx4a65c 48 "java/util/ArrayList" "size" "I", Cond.methodLink RJx4a65c 131 yJx4a65c_add_72be8, Cond.instanceMethod yJx4a65c_add_72be8, Cond.selects RJx4a65c yJx4a65c_add_72be8 yJx4a65c_add_72be8, Cond.initialized RJx4a65c, Cond.code yJx4a65c_add_72be8 cJx4a65c_add_72be8 4 none, Cond.methodLink RJx4a65c 129 yJx4a65c_grow_d5877, Cond.instanceMethod yJx4a65c_grow_d5877, Cond.selects RJx4a65c yJx4a65c_grow_d5877 yJx4a65c_grow_d5877, Cond.code yJx4a65c_grow_d5877 cJx4a65c_grow_d5877 1 (some (.array (.object "java/lang/Object"))), Cond.methodLink RJx4a65c 69 yJx4a65c_grow_92f84, Cond.instanceMethod yJx4a65c_grow_92f84, Cond.selects RJx4a65c yJx4a65c_grow_92f84 yJx4a65c_grow_92f84, Cond.code yJx4a65c_grow_92f84 cJx4a65c_grow_92f84 4 (some (.array (.object "java/lang/Object"))), Cond.fieldLink RJx4a65c 39 "java/util/ArrayList" "DEFAULTCAPACITY_EMPTY_ELEMENTDATA" "[Ljava/lang/Object;", Cond.methodLink RJx4a65c 79 Lib.Math.max.name, Cond.static Lib.Math.max.name, Cond.initialized "java/lang/Math", Cond.code Lib.Math.max.name Lib.Math.max.code 2 (some .int), Cond.classLink RJx4a65c 7 "java/lang/Object", Cond.methodLink RJx4a65c 73 yJ8_newLength_cabcc]
def wsJx4a65c_add_9ea2d_r2 : List Cond := [Cond.static yJ8_newLength_cabcc, Cond.initialized RJ8, Cond.code yJ8_newLength_cabcc cJ8_newLength_cabcc 4 (some .int), Cond.methodLink RJ8 194 Lib.Math.max.name, Cond.constant RJ8 200 (2147483639), Cond.methodLink RJ8 201 yJ8_hugeLength_7cf53, Cond.static yJ8_hugeLength_7cf53, Cond.code yJ8_hugeLength_7cf53 cJ8_hugeLength_7cf53 3 (some .int), Cond.methodLink RJx4a65c 66 yJ7_copyOf_1904c, Cond.static yJ7_copyOf_1904c, Cond.initialized RJ7, Cond.code yJ7_copyOf_1904c cJ7_copyOf_1904c 2 (some (.array (.object "java/lang/Object"))), Cond.methodLink RJ7 86 ⟨"java/lang/Object", "getClass", "()Ljava/lang/Class;"⟩, Cond.selects "[Ljava/lang/Object;" ⟨"java/lang/Object", "getClass", "()Ljava/lang/Class;"⟩ ⟨"java/lang/Object", "getClass", "()Ljava/lang/Class;"⟩, Cond.instanceMethod ⟨"java/lang/Object", "getClass", "()Ljava/lang/Class;"⟩, Cond.native ⟨"java/lang/Object", "getClass", "()Ljava/lang/Class;"⟩, Cond.methodLink RJ7 300 yJ7_copyOf_6403c, Cond.static yJ7_copyOf_6403c, Cond.code yJ7_copyOf_6403c cJ7_copyOf_6403c 4 (some (.array (.object "java/lang/Object"))), Cond.classLink RJ7 110 "[Ljava/lang/Object;", Cond.classLink RJ7 2 "java/lang/Object", Cond.methodLink RJ7 304 Lib.Math.min.name, Cond.static Lib.Math.min.name, Cond.code Lib.Math.min.name Lib.Math.min.code 2 (some .int)]
def wsJx4a65c_add_9ea2d_r3 : List Cond := [Cond.methodLink RJ7 150 arraycopyName, Cond.native arraycopyName, Cond.static arraycopyName, Cond.initialized "java/lang/System"]
def wsJx4a65c_add_9ea2d : List Cond := .code yJx4a65c_add_9ea2d cJx4a65c_add_9ea2d 2 (some .boolean) :: ((wsJx4a65c_add_9ea2d_r1 ++ (wsJx4a65c_add_9ea2d_r2 ++ wsJx4a65c_add_9ea2d_r3)) ++ wsJx4a65c0)
def wsX1_add_r1 : List Cond := [Cond.fieldLink RX1 12 "StorageCharge$Bills" "lines" "Ljava/util/ArrayList;", Cond.methodLink RX1 18 yJx4a65c_size_8abf5, Cond.instanceMethod yJx4a65c_size_8abf5, Cond.selects RJx4a65c yJx4a65c_size_8abf5 yJx4a65c_size_8abf5, Cond.initialized RJx4a65c, Cond.code yJx4a65c_size_8abf5 cJx4a65c_size_8abf5 1 (some .int), Cond.fieldLink RJx4a65c 48 "java/util/ArrayList" "size" "I", Cond.methodLink RX1 22 yJx4a65c_add_9ea2d, Cond.instanceMethod yJx4a65c_add_9ea2d, Cond.selects RJx4a65c yJx4a65c_add_9ea2d yJx4a65c_add_9ea2d, Cond.code yJx4a65c_add_9ea2d cJx4a65c_add_9ea2d 2 (some .boolean), Cond.fieldLink RJx4a65c 63 "java/util/ArrayList" "modCount" "I", Cond.sameField "java/util/ArrayList" "java/util/AbstractList" "modCount" "I", Cond.fieldLink RJx4a65c 9 "java/util/ArrayList" "elementData" "[Ljava/lang/Object;", Cond.methodLink RJx4a65c 131 yJx4a65c_add_72be8, Cond.instanceMethod yJx4a65c_add_72be8, Cond.selects RJx4a65c yJx4a65c_add_72be8 yJx4a65c_add_72be8, Cond.code yJx4a65c_add_72be8 cJx4a65c_add_72be8 4 none, Cond.methodLink RJx4a65c 129 yJx4a65c_grow_d5877, Cond.instanceMethod yJx4a65c_grow_d5877, Cond.selects RJx4a65c yJx4a65c_grow_d5877 yJx4a65c_grow_d5877, Cond.code yJx4a65c_grow_d5877 cJx4a65c_grow_d5877 1 (some (.array (.object "java/lang/Object"))), Cond.methodLink RJx4a65c 69 yJx4a65c_grow_92f84, Cond.instanceMethod yJx4a65c_grow_92f84]
def wsX1_add_r2 : List Cond := [Cond.selects RJx4a65c yJx4a65c_grow_92f84 yJx4a65c_grow_92f84, Cond.code yJx4a65c_grow_92f84 cJx4a65c_grow_92f84 4 (some (.array (.object "java/lang/Object"))), Cond.fieldLink RJx4a65c 39 "java/util/ArrayList" "DEFAULTCAPACITY_EMPTY_ELEMENTDATA" "[Ljava/lang/Object;", Cond.methodLink RJx4a65c 79 Lib.Math.max.name, Cond.static Lib.Math.max.name, Cond.initialized "java/lang/Math", Cond.code Lib.Math.max.name Lib.Math.max.code 2 (some .int), Cond.classLink RJx4a65c 7 "java/lang/Object", Cond.methodLink RJx4a65c 73 yJ8_newLength_cabcc, Cond.static yJ8_newLength_cabcc, Cond.initialized RJ8, Cond.code yJ8_newLength_cabcc cJ8_newLength_cabcc 4 (some .int), Cond.methodLink RJ8 194 Lib.Math.max.name, Cond.constant RJ8 200 (2147483639), Cond.methodLink RJ8 201 yJ8_hugeLength_7cf53, Cond.static yJ8_hugeLength_7cf53, Cond.code yJ8_hugeLength_7cf53 cJ8_hugeLength_7cf53 3 (some .int), Cond.methodLink RJx4a65c 66 yJ7_copyOf_1904c, Cond.static yJ7_copyOf_1904c, Cond.initialized RJ7, Cond.code yJ7_copyOf_1904c cJ7_copyOf_1904c 2 (some (.array (.object "java/lang/Object"))), Cond.methodLink RJ7 86 ⟨"java/lang/Object", "getClass", "()Ljava/lang/Class;"⟩, Cond.selects "[Ljava/lang/Object;" ⟨"java/lang/Object", "getClass", "()Ljava/lang/Class;"⟩ ⟨"java/lang/Object", "getClass", "()Ljava/lang/Class;"⟩, Cond.instanceMethod ⟨"java/lang/Object", "getClass", "()Ljava/lang/Class;"⟩]
def wsX1_add_r3 : List Cond := [Cond.native ⟨"java/lang/Object", "getClass", "()Ljava/lang/Class;"⟩, Cond.methodLink RJ7 300 yJ7_copyOf_6403c, Cond.static yJ7_copyOf_6403c, Cond.code yJ7_copyOf_6403c cJ7_copyOf_6403c 4 (some (.array (.object "java/lang/Object"))), Cond.classLink RJ7 110 "[Ljava/lang/Object;", Cond.classLink RJ7 2 "java/lang/Object", Cond.methodLink RJ7 304 Lib.Math.min.name, Cond.static Lib.Math.min.name, Cond.code Lib.Math.min.name Lib.Math.min.code 2 (some .int), Cond.methodLink RJ7 150 arraycopyName, Cond.native arraycopyName, Cond.static arraycopyName, Cond.initialized "java/lang/System"]
def wsX1_add : List Cond := .code yX1_add cX1_add 2 none :: ((wsX1_add_r1 ++ (wsX1_add_r2 ++ wsX1_add_r3)) ++ wsX10 ++ wsJx4a65c0)
def wsJ3_checkIndex_8e157 : List Cond := .code yJ3_checkIndex_8e157 cJ3_checkIndex_8e157 3 (some .int) :: ([])
def wsJ15_checkIndex_7cf53 : List Cond := .code yJ15_checkIndex_7cf53 cJ15_checkIndex_7cf53 2 (some .int) :: ([.methodLink RJ15 105 yJ3_checkIndex_8e157, .static yJ3_checkIndex_8e157, .initialized RJ3, .code yJ3_checkIndex_8e157 cJ3_checkIndex_8e157 3 (some .int)])
def wsJx4a65c_elementData_915e3 : List Cond := .code yJx4a65c_elementData_915e3 cJx4a65c_elementData_915e3 2 (some (.object "java/lang/Object")) :: ([.fieldLink RJx4a65c 9 "java/util/ArrayList" "elementData" "[Ljava/lang/Object;"] ++ wsJx4a65c0)
def wsJx4a65c_get_915e3 : List Cond := .code yJx4a65c_get_915e3 cJx4a65c_get_915e3 2 (some (.object "java/lang/Object")) :: ([.fieldLink RJx4a65c 48 "java/util/ArrayList" "size" "I", .methodLink RJx4a65c 118 yJ15_checkIndex_7cf53, .static yJ15_checkIndex_7cf53, .initialized RJ15, .code yJ15_checkIndex_7cf53 cJ15_checkIndex_7cf53 2 (some .int), .methodLink RJ15 105 yJ3_checkIndex_8e157, .static yJ3_checkIndex_8e157, .initialized RJ3, .code yJ3_checkIndex_8e157 cJ3_checkIndex_8e157 3 (some .int), .methodLink RJx4a65c 123 yJx4a65c_elementData_915e3, .instanceMethod yJx4a65c_elementData_915e3, .selects RJx4a65c yJx4a65c_elementData_915e3 yJx4a65c_elementData_915e3, .initialized RJx4a65c, .code yJx4a65c_elementData_915e3 cJx4a65c_elementData_915e3 2 (some (.object "java/lang/Object")), .fieldLink RJx4a65c 9 "java/util/ArrayList" "elementData" "[Ljava/lang/Object;"] ++ wsJx4a65c0)
def wsX1_isBilled_r1 : List Cond := [Cond.fieldLink RX1 12 "StorageCharge$Bills" "lines" "Ljava/util/ArrayList;", Cond.classLink RX1 30 "StorageCharge$BillLine", Cond.methodLink RX1 18 yJx4a65c_size_8abf5, Cond.instanceMethod yJx4a65c_size_8abf5, Cond.selects RJx4a65c yJx4a65c_size_8abf5 yJx4a65c_size_8abf5, Cond.initialized RJx4a65c, Cond.code yJx4a65c_size_8abf5 cJx4a65c_size_8abf5 1 (some .int), Cond.fieldLink RJx4a65c 48 "java/util/ArrayList" "size" "I", Cond.methodLink RX1 26 yJx4a65c_get_915e3, Cond.instanceMethod yJx4a65c_get_915e3, Cond.selects RJx4a65c yJx4a65c_get_915e3 yJx4a65c_get_915e3, Cond.code yJx4a65c_get_915e3 cJx4a65c_get_915e3 2 (some (.object "java/lang/Object")), Cond.methodLink RJx4a65c 118 yJ15_checkIndex_7cf53, Cond.static yJ15_checkIndex_7cf53, Cond.initialized RJ15, Cond.code yJ15_checkIndex_7cf53 cJ15_checkIndex_7cf53 2 (some .int), Cond.methodLink RJ15 105 yJ3_checkIndex_8e157, Cond.static yJ3_checkIndex_8e157, Cond.initialized RJ3, Cond.code yJ3_checkIndex_8e157 cJ3_checkIndex_8e157 3 (some .int), Cond.methodLink RJx4a65c 123 yJx4a65c_elementData_915e3, Cond.instanceMethod yJx4a65c_elementData_915e3, Cond.selects RJx4a65c yJx4a65c_elementData_915e3 yJx4a65c_elementData_915e3, Cond.code yJx4a65c_elementData_915e3 cJx4a65c_elementData_915e3 2 (some (.object "java/lang/Object"))]
def wsX1_isBilled_r2 : List Cond := [Cond.fieldLink RJx4a65c 9 "java/util/ArrayList" "elementData" "[Ljava/lang/Object;"]
def wsX1_isBilled : List Cond := .code yX1_isBilled cX1_isBilled 5 (some .boolean) :: ((wsX1_isBilled_r1 ++ wsX1_isBilled_r2) ++ wsX10 ++ wsX00 ++ wsJx4a65c0)
def wsX1_centsOfMonth_r1 : List Cond := [Cond.fieldLink RX1 12 "StorageCharge$Bills" "lines" "Ljava/util/ArrayList;", Cond.classLink RX1 30 "StorageCharge$BillLine", Cond.methodLink RX1 18 yJx4a65c_size_8abf5, Cond.instanceMethod yJx4a65c_size_8abf5, Cond.selects RJx4a65c yJx4a65c_size_8abf5 yJx4a65c_size_8abf5, Cond.initialized RJx4a65c, Cond.code yJx4a65c_size_8abf5 cJx4a65c_size_8abf5 1 (some .int), Cond.fieldLink RJx4a65c 48 "java/util/ArrayList" "size" "I", Cond.methodLink RX1 26 yJx4a65c_get_915e3, Cond.instanceMethod yJx4a65c_get_915e3, Cond.selects RJx4a65c yJx4a65c_get_915e3 yJx4a65c_get_915e3, Cond.code yJx4a65c_get_915e3 cJx4a65c_get_915e3 2 (some (.object "java/lang/Object")), Cond.methodLink RJx4a65c 118 yJ15_checkIndex_7cf53, Cond.static yJ15_checkIndex_7cf53, Cond.initialized RJ15, Cond.code yJ15_checkIndex_7cf53 cJ15_checkIndex_7cf53 2 (some .int), Cond.methodLink RJ15 105 yJ3_checkIndex_8e157, Cond.static yJ3_checkIndex_8e157, Cond.initialized RJ3, Cond.code yJ3_checkIndex_8e157 cJ3_checkIndex_8e157 3 (some .int), Cond.methodLink RJx4a65c 123 yJx4a65c_elementData_915e3, Cond.instanceMethod yJx4a65c_elementData_915e3, Cond.selects RJx4a65c yJx4a65c_elementData_915e3 yJx4a65c_elementData_915e3, Cond.code yJx4a65c_elementData_915e3 cJx4a65c_elementData_915e3 2 (some (.object "java/lang/Object"))]
def wsX1_centsOfMonth_r2 : List Cond := [Cond.fieldLink RJx4a65c 9 "java/util/ArrayList" "elementData" "[Ljava/lang/Object;"]
def wsX1_centsOfMonth : List Cond := .code yX1_centsOfMonth cX1_centsOfMonth 6 (some .int) :: ((wsX1_centsOfMonth_r1 ++ wsX1_centsOfMonth_r2) ++ wsX10 ++ wsX00 ++ wsJx4a65c0)
def wsX1_centsOfOwner_r1 : List Cond := [Cond.fieldLink RX1 12 "StorageCharge$Bills" "lines" "Ljava/util/ArrayList;", Cond.classLink RX1 30 "StorageCharge$BillLine", Cond.methodLink RX1 18 yJx4a65c_size_8abf5, Cond.instanceMethod yJx4a65c_size_8abf5, Cond.selects RJx4a65c yJx4a65c_size_8abf5 yJx4a65c_size_8abf5, Cond.initialized RJx4a65c, Cond.code yJx4a65c_size_8abf5 cJx4a65c_size_8abf5 1 (some .int), Cond.fieldLink RJx4a65c 48 "java/util/ArrayList" "size" "I", Cond.methodLink RX1 26 yJx4a65c_get_915e3, Cond.instanceMethod yJx4a65c_get_915e3, Cond.selects RJx4a65c yJx4a65c_get_915e3 yJx4a65c_get_915e3, Cond.code yJx4a65c_get_915e3 cJx4a65c_get_915e3 2 (some (.object "java/lang/Object")), Cond.methodLink RJx4a65c 118 yJ15_checkIndex_7cf53, Cond.static yJ15_checkIndex_7cf53, Cond.initialized RJ15, Cond.code yJ15_checkIndex_7cf53 cJ15_checkIndex_7cf53 2 (some .int), Cond.methodLink RJ15 105 yJ3_checkIndex_8e157, Cond.static yJ3_checkIndex_8e157, Cond.initialized RJ3, Cond.code yJ3_checkIndex_8e157 cJ3_checkIndex_8e157 3 (some .int), Cond.methodLink RJx4a65c 123 yJx4a65c_elementData_915e3, Cond.instanceMethod yJx4a65c_elementData_915e3, Cond.selects RJx4a65c yJx4a65c_elementData_915e3 yJx4a65c_elementData_915e3, Cond.code yJx4a65c_elementData_915e3 cJx4a65c_elementData_915e3 2 (some (.object "java/lang/Object"))]
def wsX1_centsOfOwner_r2 : List Cond := [Cond.fieldLink RJx4a65c 9 "java/util/ArrayList" "elementData" "[Ljava/lang/Object;"]
def wsX1_centsOfOwner : List Cond := .code yX1_centsOfOwner cX1_centsOfOwner 5 (some .int) :: ((wsX1_centsOfOwner_r1 ++ wsX1_centsOfOwner_r2) ++ wsX10 ++ wsX00 ++ wsJx4a65c0)
def wsX1_find_r1 : List Cond := [Cond.fieldLink RX1 12 "StorageCharge$Bills" "lines" "Ljava/util/ArrayList;", Cond.classLink RX1 30 "StorageCharge$BillLine", Cond.methodLink RX1 18 yJx4a65c_size_8abf5, Cond.instanceMethod yJx4a65c_size_8abf5, Cond.selects RJx4a65c yJx4a65c_size_8abf5 yJx4a65c_size_8abf5, Cond.initialized RJx4a65c, Cond.code yJx4a65c_size_8abf5 cJx4a65c_size_8abf5 1 (some .int), Cond.fieldLink RJx4a65c 48 "java/util/ArrayList" "size" "I", Cond.methodLink RX1 26 yJx4a65c_get_915e3, Cond.instanceMethod yJx4a65c_get_915e3, Cond.selects RJx4a65c yJx4a65c_get_915e3 yJx4a65c_get_915e3, Cond.code yJx4a65c_get_915e3 cJx4a65c_get_915e3 2 (some (.object "java/lang/Object")), Cond.methodLink RJx4a65c 118 yJ15_checkIndex_7cf53, Cond.static yJ15_checkIndex_7cf53, Cond.initialized RJ15, Cond.code yJ15_checkIndex_7cf53 cJ15_checkIndex_7cf53 2 (some .int), Cond.methodLink RJ15 105 yJ3_checkIndex_8e157, Cond.static yJ3_checkIndex_8e157, Cond.initialized RJ3, Cond.code yJ3_checkIndex_8e157 cJ3_checkIndex_8e157 3 (some .int), Cond.methodLink RJx4a65c 123 yJx4a65c_elementData_915e3, Cond.instanceMethod yJx4a65c_elementData_915e3, Cond.selects RJx4a65c yJx4a65c_elementData_915e3 yJx4a65c_elementData_915e3, Cond.code yJx4a65c_elementData_915e3 cJx4a65c_elementData_915e3 2 (some (.object "java/lang/Object"))]
def wsX1_find_r2 : List Cond := [Cond.fieldLink RJx4a65c 9 "java/util/ArrayList" "elementData" "[Ljava/lang/Object;"]
def wsX1_find : List Cond := .code yX1_find cX1_find 6 (some (.object "StorageCharge$BillLine")) :: ((wsX1_find_r1 ++ wsX1_find_r2) ++ wsX10 ++ wsX00 ++ wsJx4a65c0)
def wsJ7_fill_53178 : List Cond := .code yJ7_fill_53178 cJ7_fill_53178 4 none :: ([])
def wsX2_clear : List Cond := .code yX2_clear cX2_clear 1 none :: ([.fieldLink RX2 9 "StorageCharge$Charges" "storage" "[I", .fieldLink RX2 15 "StorageCharge$Charges" "handling" "[I", .fieldLink RX2 18 "StorageCharge$Charges" "minimum" "[I", .fieldLink RX2 30 "StorageCharge$Charges" "discounts" "I", .fieldLink RX2 34 "StorageCharge$Charges" "lines" "I", .fieldLink RX2 37 "StorageCharge$Charges" "owners" "I", .methodLink RX2 43 yJ7_fill_53178, .static yJ7_fill_53178, .initialized RJ7, .code yJ7_fill_53178 cJ7_fill_53178 4 none] ++ wsX20)
def wsX2_init : List Cond := .code yX2_init cX2_init 1 none :: ([.methodLink RX2 3 objectInit, .instanceMethod objectInit, .code objectInit ⟨#[0xb1]⟩ 1 none, .arrayClass .int, .fieldLink RX2 9 "StorageCharge$Charges" "storage" "[I", .fieldLink RX2 15 "StorageCharge$Charges" "handling" "[I", .fieldLink RX2 18 "StorageCharge$Charges" "minimum" "[I", .fieldLink RX2 21 "StorageCharge$Charges" "discountOwners" "[I", .fieldLink RX2 24 "StorageCharge$Charges" "discountDays" "[I", .fieldLink RX2 27 "StorageCharge$Charges" "discountPercents" "[I", .fieldLink RX2 30 "StorageCharge$Charges" "discounts" "I", .fieldLink RX2 34 "StorageCharge$Charges" "lines" "I", .fieldLink RX2 37 "StorageCharge$Charges" "owners" "I", .methodLink RX2 40 yX2_clear, .instanceMethod yX2_clear, .selects RX2 yX2_clear yX2_clear, .initialized RX2, .code yX2_clear cX2_clear 1 none, .methodLink RX2 43 yJ7_fill_53178, .static yJ7_fill_53178, .initialized RJ7, .code yJ7_fill_53178 cJ7_fill_53178 4 none] ++ wsX20)
def wsX7_isWithin : List Cond := .code yX7_isWithin cX7_isWithin 3 (some .boolean) :: ([])
def wsX2_place : List Cond := .code yX2_place cX2_place 2 (some .int) :: ([])
def wsX2_tellCents : List Cond := .code yX2_tellCents cX2_tellCents 3 (some .boolean) :: ([.static yX7_isWithin, .initialized RX7, .code yX7_isWithin cX7_isWithin 3 (some .boolean)])
def wsX2_hasDiscount : List Cond := .code yX2_hasDiscount cX2_hasDiscount 4 (some .boolean) :: ([.fieldLink RX2 30 "StorageCharge$Charges" "discounts" "I", .fieldLink RX2 21 "StorageCharge$Charges" "discountOwners" "[I", .fieldLink RX2 24 "StorageCharge$Charges" "discountDays" "[I"] ++ wsX20)
def wsX2_tellDiscount : List Cond := .code yX2_tellDiscount cX2_tellDiscount 4 (some .boolean) :: ([.fieldLink RX2 30 "StorageCharge$Charges" "discounts" "I", .fieldLink RX2 21 "StorageCharge$Charges" "discountOwners" "[I", .fieldLink RX2 24 "StorageCharge$Charges" "discountDays" "[I", .fieldLink RX2 27 "StorageCharge$Charges" "discountPercents" "[I", .static yX7_isWithin, .initialized RX7, .code yX7_isWithin cX7_isWithin 3 (some .boolean), .methodLink RX2 68 yX2_hasDiscount, .instanceMethod yX2_hasDiscount, .selects RX2 yX2_hasDiscount yX2_hasDiscount, .initialized RX2, .code yX2_hasDiscount cX2_hasDiscount 4 (some .boolean)] ++ wsX20)
def wsX2_tellOf_r1 : List Cond := [Cond.fieldLink RX2 9 "StorageCharge$Charges" "storage" "[I", Cond.fieldLink RX2 15 "StorageCharge$Charges" "handling" "[I", Cond.fieldLink RX2 18 "StorageCharge$Charges" "minimum" "[I", Cond.static yX7_isWithin, Cond.initialized RX7, Cond.code yX7_isWithin cX7_isWithin 3 (some .boolean), Cond.methodLink RX2 57 yX2_place, Cond.static yX2_place, Cond.initialized RX2, Cond.code yX2_place cX2_place 2 (some .int), Cond.methodLink RX2 61 yX2_tellCents, Cond.static yX2_tellCents, Cond.code yX2_tellCents cX2_tellCents 3 (some .boolean), Cond.methodLink RX2 65 yX2_tellDiscount, Cond.instanceMethod yX2_tellDiscount, Cond.selects RX2 yX2_tellDiscount yX2_tellDiscount, Cond.code yX2_tellDiscount cX2_tellDiscount 4 (some .boolean), Cond.fieldLink RX2 30 "StorageCharge$Charges" "discounts" "I", Cond.fieldLink RX2 21 "StorageCharge$Charges" "discountOwners" "[I", Cond.fieldLink RX2 24 "StorageCharge$Charges" "discountDays" "[I", Cond.fieldLink RX2 27 "StorageCharge$Charges" "discountPercents" "[I", Cond.methodLink RX2 68 yX2_hasDiscount, Cond.instanceMethod yX2_hasDiscount, Cond.selects RX2 yX2_hasDiscount yX2_hasDiscount]
def wsX2_tellOf_r2 : List Cond := [Cond.code yX2_hasDiscount cX2_hasDiscount 4 (some .boolean)]
def wsX2_tellOf : List Cond := .code yX2_tellOf cX2_tellOf 5 (some .boolean) :: ((wsX2_tellOf_r1 ++ wsX2_tellOf_r2) ++ wsX20)
def wsX2_tell_r1 : List Cond := [Cond.fieldLink RX2 34 "StorageCharge$Charges" "lines" "I", Cond.fieldLink RX2 37 "StorageCharge$Charges" "owners" "I", Cond.static yX7_isWithin, Cond.initialized RX7, Cond.code yX7_isWithin cX7_isWithin 3 (some .boolean), Cond.methodLink RX2 53 yX2_tellOf, Cond.instanceMethod yX2_tellOf, Cond.selects RX2 yX2_tellOf yX2_tellOf, Cond.initialized RX2, Cond.code yX2_tellOf cX2_tellOf 5 (some .boolean), Cond.fieldLink RX2 9 "StorageCharge$Charges" "storage" "[I", Cond.fieldLink RX2 15 "StorageCharge$Charges" "handling" "[I", Cond.fieldLink RX2 18 "StorageCharge$Charges" "minimum" "[I", Cond.methodLink RX2 57 yX2_place, Cond.static yX2_place, Cond.code yX2_place cX2_place 2 (some .int), Cond.methodLink RX2 61 yX2_tellCents, Cond.static yX2_tellCents, Cond.code yX2_tellCents cX2_tellCents 3 (some .boolean), Cond.methodLink RX2 65 yX2_tellDiscount, Cond.instanceMethod yX2_tellDiscount, Cond.selects RX2 yX2_tellDiscount yX2_tellDiscount, Cond.code yX2_tellDiscount cX2_tellDiscount 4 (some .boolean), Cond.fieldLink RX2 30 "StorageCharge$Charges" "discounts" "I"]
def wsX2_tell_r2 : List Cond := [Cond.fieldLink RX2 21 "StorageCharge$Charges" "discountOwners" "[I", Cond.fieldLink RX2 24 "StorageCharge$Charges" "discountDays" "[I", Cond.fieldLink RX2 27 "StorageCharge$Charges" "discountPercents" "[I", Cond.methodLink RX2 68 yX2_hasDiscount, Cond.instanceMethod yX2_hasDiscount, Cond.selects RX2 yX2_hasDiscount yX2_hasDiscount, Cond.code yX2_hasDiscount cX2_hasDiscount 4 (some .boolean)]
def wsX2_tell : List Cond := .code yX2_tell cX2_tell 5 (some .boolean) :: ((wsX2_tell_r1 ++ wsX2_tell_r2) ++ wsX20)
def wsX2_toldOrZero : List Cond := .code yX2_toldOrZero cX2_toldOrZero 2 (some .int) :: ([.static yX7_isWithin, .initialized RX7, .code yX7_isWithin cX7_isWithin 3 (some .boolean)])
def wsX2_storageCents : List Cond := .code yX2_storageCents cX2_storageCents 3 (some .int) :: ([.fieldLink RX2 9 "StorageCharge$Charges" "storage" "[I", .methodLink RX2 57 yX2_place, .static yX2_place, .initialized RX2, .code yX2_place cX2_place 2 (some .int), .methodLink RX2 72 yX2_toldOrZero, .static yX2_toldOrZero, .code yX2_toldOrZero cX2_toldOrZero 2 (some .int), .static yX7_isWithin, .initialized RX7, .code yX7_isWithin cX7_isWithin 3 (some .boolean)] ++ wsX20)
def wsX2_handlingCents : List Cond := .code yX2_handlingCents cX2_handlingCents 3 (some .int) :: ([.fieldLink RX2 15 "StorageCharge$Charges" "handling" "[I", .methodLink RX2 57 yX2_place, .static yX2_place, .initialized RX2, .code yX2_place cX2_place 2 (some .int), .methodLink RX2 72 yX2_toldOrZero, .static yX2_toldOrZero, .code yX2_toldOrZero cX2_toldOrZero 2 (some .int), .static yX7_isWithin, .initialized RX7, .code yX7_isWithin cX7_isWithin 3 (some .boolean)] ++ wsX20)
def wsX2_minimumOf : List Cond := .code yX2_minimumOf cX2_minimumOf 2 (some .int) :: ([.fieldLink RX2 18 "StorageCharge$Charges" "minimum" "[I", .methodLink RX2 72 yX2_toldOrZero, .static yX2_toldOrZero, .initialized RX2, .code yX2_toldOrZero cX2_toldOrZero 2 (some .int), .static yX7_isWithin, .initialized RX7, .code yX7_isWithin cX7_isWithin 3 (some .boolean)] ++ wsX20)
def wsX2_percentFor : List Cond := .code yX2_percentFor cX2_percentFor 6 (some .int) :: ([.fieldLink RX2 30 "StorageCharge$Charges" "discounts" "I", .fieldLink RX2 21 "StorageCharge$Charges" "discountOwners" "[I", .fieldLink RX2 24 "StorageCharge$Charges" "discountDays" "[I", .fieldLink RX2 27 "StorageCharge$Charges" "discountPercents" "[I", .static yX7_isWithin, .initialized RX7, .code yX7_isWithin cX7_isWithin 3 (some .boolean)] ++ wsX20)
def wsX3_init : List Cond := .code yX3_init cX3_init 5 none :: ([.methodLink RX3 1 objectInit, .instanceMethod objectInit, .code objectInit ⟨#[0xb1]⟩ 1 none, .fieldLink RX3 7 "StorageCharge$Move" "owner" "I", .fieldLink RX3 13 "StorageCharge$Move" "kind" "I", .fieldLink RX3 16 "StorageCharge$Move" "day" "I", .fieldLink RX3 19 "StorageCharge$Move" "pieces" "I"] ++ wsX30)
def wsX4_init : List Cond := .code yX4_init cX4_init 1 none :: ([.methodLink RX4 3 objectInit, .instanceMethod objectInit, .code objectInit ⟨#[0xb1]⟩ 1 none, .arrayClass .char, .fieldLink RX4 9 "StorageCharge$Paper" "signs" "[C", .fieldLink RX4 15 "StorageCharge$Paper" "length" "I"] ++ wsX40)
def wsX4_clear : List Cond := .code yX4_clear cX4_clear 1 none :: ([.fieldLink RX4 15 "StorageCharge$Paper" "length" "I"] ++ wsX40)
def wsX4_put : List Cond := .code yX4_put cX4_put 2 none :: ([.fieldLink RX4 15 "StorageCharge$Paper" "length" "I", .fieldLink RX4 9 "StorageCharge$Paper" "signs" "[C"] ++ wsX40)
def wsX4_putNumber : List Cond := .code yX4_putNumber cX4_putNumber 6 none :: ([.methodLink RX4 38 Lib.MathLoose.abs_long.x, .static Lib.MathLoose.abs_long.x, .initialized "java/lang/Math", .code Lib.MathLoose.abs_long.x Lib.MathLoose.abs_long.code 2 (some .long), .constantLong RX4 44 (1000000000), .constantLong RX4 46 (48), .constantLong RX4 48 (10), .methodLink RX4 25 yX4_put, .instanceMethod yX4_put, .selects RX4 yX4_put yX4_put, .initialized RX4, .code yX4_put cX4_put 2 none, .fieldLink RX4 15 "StorageCharge$Paper" "length" "I", .fieldLink RX4 9 "StorageCharge$Paper" "signs" "[C"] ++ wsX40)
def wsX4_write : List Cond := .code yX4_write cX4_write 2 none :: ([.methodLink RX4 25 yX4_put, .instanceMethod yX4_put, .selects RX4 yX4_put yX4_put, .initialized RX4, .code yX4_put cX4_put 2 none, .fieldLink RX4 15 "StorageCharge$Paper" "length" "I", .fieldLink RX4 9 "StorageCharge$Paper" "signs" "[C", .methodLink RX4 32 yX4_putNumber, .instanceMethod yX4_putNumber, .selects RX4 yX4_putNumber yX4_putNumber, .code yX4_putNumber cX4_putNumber 6 none, .methodLink RX4 38 Lib.MathLoose.abs_long.x, .static Lib.MathLoose.abs_long.x, .initialized "java/lang/Math", .code Lib.MathLoose.abs_long.x Lib.MathLoose.abs_long.code 2 (some .long), .constantLong RX4 44 (1000000000), .constantLong RX4 46 (48), .constantLong RX4 48 (10)] ++ wsX00 ++ wsX40)
def wsX5_init : List Cond := .code yX5_init cX5_init 1 none :: ([.methodLink RX5 3 objectInit, .instanceMethod objectInit, .code objectInit ⟨#[0xb1]⟩ 1 none, .arrayClass .char, .fieldLink RX5 9 "StorageCharge$Text" "signs" "[C", .fieldLink RX5 15 "StorageCharge$Text" "length" "I", .fieldLink RX5 19 "StorageCharge$Text" "place" "I"] ++ wsX50)
def wsX5_isFull : List Cond := .code yX5_isFull cX5_isFull 1 (some .boolean) :: ([.fieldLink RX5 15 "StorageCharge$Text" "length" "I", .fieldLink RX5 9 "StorageCharge$Text" "signs" "[C"] ++ wsX50)
def wsX5_add : List Cond := .code yX5_add cX5_add 2 none :: ([.fieldLink RX5 9 "StorageCharge$Text" "signs" "[C", .fieldLink RX5 15 "StorageCharge$Text" "length" "I", .methodLink RX5 22 yX5_isFull, .instanceMethod yX5_isFull, .selects RX5 yX5_isFull yX5_isFull, .initialized RX5, .code yX5_isFull cX5_isFull 1 (some .boolean)] ++ wsX50)
def wsX5_clear : List Cond := .code yX5_clear cX5_clear 1 none :: ([.fieldLink RX5 15 "StorageCharge$Text" "length" "I", .fieldLink RX5 19 "StorageCharge$Text" "place" "I"] ++ wsX50)
def wsX5_isRead : List Cond := .code yX5_isRead cX5_isRead 1 (some .boolean) :: ([.fieldLink RX5 19 "StorageCharge$Text" "place" "I", .fieldLink RX5 15 "StorageCharge$Text" "length" "I"] ++ wsX50)
def wsX5_nextSign : List Cond := .code yX5_nextSign cX5_nextSign 1 (some .int) :: ([.fieldLink RX5 19 "StorageCharge$Text" "place" "I", .fieldLink RX5 15 "StorageCharge$Text" "length" "I", .fieldLink RX5 9 "StorageCharge$Text" "signs" "[C", .static yX7_isWithin, .initialized RX7, .code yX7_isWithin cX7_isWithin 3 (some .boolean)] ++ wsX50)
def wsX5_takeSign : List Cond := .code yX5_takeSign cX5_takeSign 2 (some .int) :: ([.fieldLink RX5 19 "StorageCharge$Text" "place" "I", .methodLink RX5 30 yX5_nextSign, .instanceMethod yX5_nextSign, .selects RX5 yX5_nextSign yX5_nextSign, .initialized RX5, .code yX5_nextSign cX5_nextSign 1 (some .int), .fieldLink RX5 15 "StorageCharge$Text" "length" "I", .fieldLink RX5 9 "StorageCharge$Text" "signs" "[C", .static yX7_isWithin, .initialized RX7, .code yX7_isWithin cX7_isWithin 3 (some .boolean)] ++ wsX50)
def wsX5_takeNumber : List Cond := .code yX5_takeNumber cX5_takeNumber 5 (some .int) :: ([.fieldLink RX5 19 "StorageCharge$Text" "place" "I", .methodLink RX5 30 yX5_nextSign, .instanceMethod yX5_nextSign, .selects RX5 yX5_nextSign yX5_nextSign, .initialized RX5, .code yX5_nextSign cX5_nextSign 1 (some .int), .fieldLink RX5 15 "StorageCharge$Text" "length" "I", .fieldLink RX5 9 "StorageCharge$Text" "signs" "[C", .static yX7_isWithin, .initialized RX7, .code yX7_isWithin cX7_isWithin 3 (some .boolean), .methodLink RX5 34 yX5_takeSign, .instanceMethod yX5_takeSign, .selects RX5 yX5_takeSign yX5_takeSign, .code yX5_takeSign cX5_takeSign 2 (some .int)] ++ wsX50)
def wsX6_init : List Cond := .code yX6_init cX6_init 4 none :: ([.methodLink RX6 3 objectInit, .instanceMethod objectInit, .code objectInit ⟨#[0xb1]⟩ 1 none, .fieldLink RX6 9 "StorageCharge$Unit" "lastDay" "I", .fieldLink RX6 15 "StorageCharge$Unit" "isGone" "Z", .arrayClass .int, .fieldLink RX6 19 "StorageCharge$Unit" "toldKinds" "[I", .fieldLink RX6 23 "StorageCharge$Unit" "toldDays" "[I", .fieldLink RX6 26 "StorageCharge$Unit" "told" "I", .fieldLink RX6 29 "StorageCharge$Unit" "owner" "I", .fieldLink RX6 32 "StorageCharge$Unit" "firstDay" "I"] ++ wsX60)
def wsX6_isFull : List Cond := .code yX6_isFull cX6_isFull 1 (some .boolean) :: ([.fieldLink RX6 26 "StorageCharge$Unit" "told" "I", .fieldLink RX6 19 "StorageCharge$Unit" "toldKinds" "[I"] ++ wsX60)
def wsX6_kindToldLast : List Cond := .code yX6_kindToldLast cX6_kindToldLast 1 (some .int) :: ([.fieldLink RX6 19 "StorageCharge$Unit" "toldKinds" "[I", .fieldLink RX6 26 "StorageCharge$Unit" "told" "I"] ++ wsX60)
def wsX6_dayToldLast : List Cond := .code yX6_dayToldLast cX6_dayToldLast 1 (some .int) :: ([.fieldLink RX6 23 "StorageCharge$Unit" "toldDays" "[I", .fieldLink RX6 26 "StorageCharge$Unit" "told" "I"] ++ wsX60)
def wsX6_tell : List Cond := .code yX6_tell cX6_tell 3 none :: ([.fieldLink RX6 19 "StorageCharge$Unit" "toldKinds" "[I", .fieldLink RX6 26 "StorageCharge$Unit" "told" "I", .fieldLink RX6 23 "StorageCharge$Unit" "toldDays" "[I", .methodLink RX6 35 yX6_isFull, .instanceMethod yX6_isFull, .selects RX6 yX6_isFull yX6_isFull, .initialized RX6, .code yX6_isFull cX6_isFull 1 (some .boolean)] ++ wsX60)
def wsX6_leave : List Cond := .code yX6_leave cX6_leave 2 none :: ([.fieldLink RX6 9 "StorageCharge$Unit" "lastDay" "I", .fieldLink RX6 15 "StorageCharge$Unit" "isGone" "Z"] ++ wsX60)
def wsX6_daysThere : List Cond := .code yX6_daysThere cX6_daysThere 3 (some .int) :: ([.fieldLink RX6 9 "StorageCharge$Unit" "lastDay" "I", .methodLink RX6 39 Lib.Math.min.name, .static Lib.Math.min.name, .initialized "java/lang/Math", .code Lib.Math.min.name Lib.Math.min.code 2 (some .int), .fieldLink RX6 32 "StorageCharge$Unit" "firstDay" "I", .methodLink RX6 45 Lib.Math.max.name, .static Lib.Math.max.name, .code Lib.Math.max.name Lib.Math.max.code 2 (some .int)] ++ wsX60)
def wsX6_kindOn : List Cond := .code yX6_kindOn cX6_kindOn 4 (some .int) :: ([.fieldLink RX6 19 "StorageCharge$Unit" "toldKinds" "[I", .fieldLink RX6 26 "StorageCharge$Unit" "told" "I", .fieldLink RX6 23 "StorageCharge$Unit" "toldDays" "[I", .methodLink RX6 45 Lib.Math.max.name, .static Lib.Math.max.name, .initialized "java/lang/Math", .code Lib.Math.max.name Lib.Math.max.code 2 (some .int)] ++ wsX60)
def wsX7_init_r1 : List Cond := [Cond.methodLink RX7 1 objectInit, Cond.instanceMethod objectInit, Cond.code objectInit ⟨#[0xb1]⟩ 1 none, Cond.classLink RX7 7 RX5, Cond.instantiable RX5 3, Cond.initialized RX5, Cond.fieldLink RX7 10 "StorageCharge" "text" "LStorageCharge$Text;", Cond.classLink RX7 16 RX2, Cond.instantiable RX2 9, Cond.initialized RX2, Cond.fieldLink RX7 19 "StorageCharge" "charges" "LStorageCharge$Charges;", Cond.fieldLink RX7 23 "StorageCharge" "draft" "LStorageCharge$Charges;", Cond.classLink RX7 26 RJx4a65c, Cond.instantiable RJx4a65c 3, Cond.initialized RJx4a65c, Cond.fieldLink RX7 29 "StorageCharge" "units" "Ljava/util/ArrayList;", Cond.fieldLink RX7 33 "StorageCharge" "moves" "Ljava/util/ArrayList;", Cond.classLink RX7 36 RX1, Cond.instantiable RX1 1, Cond.initialized RX1, Cond.fieldLink RX7 39 "StorageCharge" "bills" "LStorageCharge$Bills;", Cond.classLink RX7 43 RX4, Cond.instantiable RX4 2, Cond.initialized RX4]
def wsX7_init_r2 : List Cond := [Cond.fieldLink RX7 46 "StorageCharge" "paper" "LStorageCharge$Paper;", Cond.instanceMethod yX5_init, Cond.code yX5_init cX5_init 1 none, Cond.methodLink RX5 3 objectInit, Cond.arrayClass .char, Cond.fieldLink RX5 9 "StorageCharge$Text" "signs" "[C", Cond.fieldLink RX5 15 "StorageCharge$Text" "length" "I", Cond.fieldLink RX5 19 "StorageCharge$Text" "place" "I", Cond.methodLink RX7 18 yX2_init, Cond.instanceMethod yX2_init, Cond.code yX2_init cX2_init 1 none, Cond.methodLink RX2 3 objectInit, Cond.arrayClass .int, Cond.fieldLink RX2 9 "StorageCharge$Charges" "storage" "[I", Cond.fieldLink RX2 15 "StorageCharge$Charges" "handling" "[I", Cond.fieldLink RX2 18 "StorageCharge$Charges" "minimum" "[I", Cond.fieldLink RX2 21 "StorageCharge$Charges" "discountOwners" "[I", Cond.fieldLink RX2 24 "StorageCharge$Charges" "discountDays" "[I", Cond.fieldLink RX2 27 "StorageCharge$Charges" "discountPercents" "[I", Cond.fieldLink RX2 30 "StorageCharge$Charges" "discounts" "I", Cond.fieldLink RX2 34 "StorageCharge$Charges" "lines" "I", Cond.fieldLink RX2 37 "StorageCharge$Charges" "owners" "I", Cond.methodLink RX2 40 yX2_clear, Cond.instanceMethod yX2_clear]
def wsX7_init_r3 : List Cond := [Cond.selects RX2 yX2_clear yX2_clear, Cond.code yX2_clear cX2_clear 1 none, Cond.methodLink RX2 43 yJ7_fill_53178, Cond.static yJ7_fill_53178, Cond.initialized RJ7, Cond.code yJ7_fill_53178 cJ7_fill_53178 4 none, Cond.methodLink RX7 28 yJx4a65c_init_da8c8, Cond.instanceMethod yJx4a65c_init_da8c8, Cond.code yJx4a65c_init_da8c8 cJx4a65c_init_da8c8 1 none, Cond.fieldLink RJx4a65c 39 "java/util/ArrayList" "DEFAULTCAPACITY_EMPTY_ELEMENTDATA" "[Ljava/lang/Object;", Cond.fieldLink RJx4a65c 9 "java/util/ArrayList" "elementData" "[Ljava/lang/Object;", Cond.methodLink RJx4a65c 1 yJxc12de_init_da8c8, Cond.instanceMethod yJxc12de_init_da8c8, Cond.initialized RJxc12de, Cond.code yJxc12de_init_da8c8 cJxc12de_init_da8c8 1 none, Cond.fieldLink RJxc12de 7 "java/util/AbstractList" "modCount" "I", Cond.methodLink RJxc12de 1 yJxa1e45_init_da8c8, Cond.instanceMethod yJxa1e45_init_da8c8, Cond.initialized RJxa1e45, Cond.code yJxa1e45_init_da8c8 cJxa1e45_init_da8c8 1 none, Cond.methodLink RJxa1e45 1 objectInit, Cond.instanceMethod yX1_init, Cond.code yX1_init cX1_init 1 none, Cond.methodLink RX1 3 objectInit]
def wsX7_init_r4 : List Cond := [Cond.classLink RX1 9 RJx4a65c, Cond.fieldLink RX1 12 "StorageCharge$Bills" "lines" "Ljava/util/ArrayList;", Cond.methodLink RX1 11 yJx4a65c_init_da8c8, Cond.instanceMethod yX4_init, Cond.code yX4_init cX4_init 1 none, Cond.methodLink RX4 3 objectInit, Cond.fieldLink RX4 9 "StorageCharge$Paper" "signs" "[C", Cond.fieldLink RX4 15 "StorageCharge$Paper" "length" "I"]
def wsX7_init : List Cond := .code yX7_init cX7_init 1 none :: ((wsX7_init_r1 ++ (wsX7_init_r2 ++ (wsX7_init_r3 ++ wsX7_init_r4))) ++ wsX50 ++ wsX70 ++ wsX20 ++ wsJx4a65c0 ++ wsX10 ++ wsX40)
def wsX7_sign : List Cond := .code yX7_sign cX7_sign 2 (some .int) :: ([.classLink RX7 54 "java/lang/IllegalArgumentException", .initialized "java/lang/IllegalArgumentException", .classLink RX7 65 "java/lang/UnsupportedOperationException", .initialized "java/lang/UnsupportedOperationException", .fieldLink RX7 10 "StorageCharge" "text" "LStorageCharge$Text;", .methodLink RX7 50 yX7_isWithin, .static yX7_isWithin, .initialized RX7, .code yX7_isWithin cX7_isWithin 3 (some .boolean), .methodLink RX7 61 yX5_isFull, .instanceMethod yX5_isFull, .selects RX5 yX5_isFull yX5_isFull, .initialized RX5, .code yX5_isFull cX5_isFull 1 (some .boolean), .fieldLink RX5 15 "StorageCharge$Text" "length" "I", .fieldLink RX5 9 "StorageCharge$Text" "signs" "[C", .methodLink RX7 70 yX5_add, .instanceMethod yX5_add, .selects RX5 yX5_add yX5_add, .code yX5_add cX5_add 2 none, .methodLink RX5 22 yX5_isFull] ++ wsX70 ++ wsX50 ++ (vx_atS RX7 58 "java/lang/IllegalArgumentException" ["java/lang/RuntimeException", "java/lang/Exception"]).filter goodWord ++ (vx_atS RX7 69 "java/lang/UnsupportedOperationException" ["java/lang/RuntimeException", "java/lang/Exception"]).filter goodWord)
def wsX7_readLine_r1 : List Cond := [Cond.fieldLink RX7 10 "StorageCharge" "text" "LStorageCharge$Text;", Cond.fieldLink RX7 23 "StorageCharge" "draft" "LStorageCharge$Charges;", Cond.methodLink RX7 270 yX5_takeSign, Cond.instanceMethod yX5_takeSign, Cond.selects RX5 yX5_takeSign yX5_takeSign, Cond.initialized RX5, Cond.code yX5_takeSign cX5_takeSign 2 (some .int), Cond.fieldLink RX5 19 "StorageCharge$Text" "place" "I", Cond.methodLink RX5 30 yX5_nextSign, Cond.instanceMethod yX5_nextSign, Cond.selects RX5 yX5_nextSign yX5_nextSign, Cond.code yX5_nextSign cX5_nextSign 1 (some .int), Cond.fieldLink RX5 15 "StorageCharge$Text" "length" "I", Cond.fieldLink RX5 9 "StorageCharge$Text" "signs" "[C", Cond.static yX7_isWithin, Cond.initialized RX7, Cond.code yX7_isWithin cX7_isWithin 3 (some .boolean), Cond.methodLink RX7 273 yX5_takeNumber, Cond.instanceMethod yX5_takeNumber, Cond.selects RX5 yX5_takeNumber yX5_takeNumber, Cond.code yX5_takeNumber cX5_takeNumber 5 (some .int), Cond.methodLink RX5 34 yX5_takeSign, Cond.methodLink RX7 276 yX2_tell, Cond.instanceMethod yX2_tell]
def wsX7_readLine_r2 : List Cond := [Cond.selects RX2 yX2_tell yX2_tell, Cond.initialized RX2, Cond.code yX2_tell cX2_tell 5 (some .boolean), Cond.fieldLink RX2 34 "StorageCharge$Charges" "lines" "I", Cond.fieldLink RX2 37 "StorageCharge$Charges" "owners" "I", Cond.methodLink RX2 53 yX2_tellOf, Cond.instanceMethod yX2_tellOf, Cond.selects RX2 yX2_tellOf yX2_tellOf, Cond.code yX2_tellOf cX2_tellOf 5 (some .boolean), Cond.fieldLink RX2 9 "StorageCharge$Charges" "storage" "[I", Cond.fieldLink RX2 15 "StorageCharge$Charges" "handling" "[I", Cond.fieldLink RX2 18 "StorageCharge$Charges" "minimum" "[I", Cond.methodLink RX2 57 yX2_place, Cond.static yX2_place, Cond.code yX2_place cX2_place 2 (some .int), Cond.methodLink RX2 61 yX2_tellCents, Cond.static yX2_tellCents, Cond.code yX2_tellCents cX2_tellCents 3 (some .boolean), Cond.methodLink RX2 65 yX2_tellDiscount, Cond.instanceMethod yX2_tellDiscount, Cond.selects RX2 yX2_tellDiscount yX2_tellDiscount, Cond.code yX2_tellDiscount cX2_tellDiscount 4 (some .boolean), Cond.fieldLink RX2 30 "StorageCharge$Charges" "discounts" "I", Cond.fieldLink RX2 21 "StorageCharge$Charges" "discountOwners" "[I"]
def wsX7_readLine_r3 : List Cond := [Cond.fieldLink RX2 24 "StorageCharge$Charges" "discountDays" "[I", Cond.fieldLink RX2 27 "StorageCharge$Charges" "discountPercents" "[I", Cond.methodLink RX2 68 yX2_hasDiscount, Cond.instanceMethod yX2_hasDiscount, Cond.selects RX2 yX2_hasDiscount yX2_hasDiscount, Cond.code yX2_hasDiscount cX2_hasDiscount 4 (some .boolean)]
def wsX7_readLine : List Cond := .code yX7_readLine cX7_readLine 5 (some .boolean) :: ((wsX7_readLine_r1 ++ (wsX7_readLine_r2 ++ wsX7_readLine_r3)) ++ wsX70 ++ wsX50 ++ wsX20)
def wsX7_readLines_r1 : List Cond := [Cond.fieldLink RX7 10 "StorageCharge" "text" "LStorageCharge$Text;", Cond.methodLink RX7 261 yX5_isRead, Cond.instanceMethod yX5_isRead, Cond.selects RX5 yX5_isRead yX5_isRead, Cond.initialized RX5, Cond.code yX5_isRead cX5_isRead 1 (some .boolean), Cond.fieldLink RX5 19 "StorageCharge$Text" "place" "I", Cond.fieldLink RX5 15 "StorageCharge$Text" "length" "I", Cond.methodLink RX7 267 yX7_readLine, Cond.instanceMethod yX7_readLine, Cond.selects RX7 yX7_readLine yX7_readLine, Cond.initialized RX7, Cond.code yX7_readLine cX7_readLine 5 (some .boolean), Cond.fieldLink RX7 23 "StorageCharge" "draft" "LStorageCharge$Charges;", Cond.methodLink RX7 270 yX5_takeSign, Cond.instanceMethod yX5_takeSign, Cond.selects RX5 yX5_takeSign yX5_takeSign, Cond.code yX5_takeSign cX5_takeSign 2 (some .int), Cond.methodLink RX5 30 yX5_nextSign, Cond.instanceMethod yX5_nextSign, Cond.selects RX5 yX5_nextSign yX5_nextSign, Cond.code yX5_nextSign cX5_nextSign 1 (some .int), Cond.fieldLink RX5 9 "StorageCharge$Text" "signs" "[C", Cond.static yX7_isWithin]
def wsX7_readLines_r2 : List Cond := [Cond.code yX7_isWithin cX7_isWithin 3 (some .boolean), Cond.methodLink RX7 273 yX5_takeNumber, Cond.instanceMethod yX5_takeNumber, Cond.selects RX5 yX5_takeNumber yX5_takeNumber, Cond.code yX5_takeNumber cX5_takeNumber 5 (some .int), Cond.methodLink RX5 34 yX5_takeSign, Cond.methodLink RX7 276 yX2_tell, Cond.instanceMethod yX2_tell, Cond.selects RX2 yX2_tell yX2_tell, Cond.initialized RX2, Cond.code yX2_tell cX2_tell 5 (some .boolean), Cond.fieldLink RX2 34 "StorageCharge$Charges" "lines" "I", Cond.fieldLink RX2 37 "StorageCharge$Charges" "owners" "I", Cond.methodLink RX2 53 yX2_tellOf, Cond.instanceMethod yX2_tellOf, Cond.selects RX2 yX2_tellOf yX2_tellOf, Cond.code yX2_tellOf cX2_tellOf 5 (some .boolean), Cond.fieldLink RX2 9 "StorageCharge$Charges" "storage" "[I", Cond.fieldLink RX2 15 "StorageCharge$Charges" "handling" "[I", Cond.fieldLink RX2 18 "StorageCharge$Charges" "minimum" "[I", Cond.methodLink RX2 57 yX2_place, Cond.static yX2_place, Cond.code yX2_place cX2_place 2 (some .int), Cond.methodLink RX2 61 yX2_tellCents]
def wsX7_readLines_r3 : List Cond := [Cond.static yX2_tellCents, Cond.code yX2_tellCents cX2_tellCents 3 (some .boolean), Cond.methodLink RX2 65 yX2_tellDiscount, Cond.instanceMethod yX2_tellDiscount, Cond.selects RX2 yX2_tellDiscount yX2_tellDiscount, Cond.code yX2_tellDiscount cX2_tellDiscount 4 (some .boolean), Cond.fieldLink RX2 30 "StorageCharge$Charges" "discounts" "I", Cond.fieldLink RX2 21 "StorageCharge$Charges" "discountOwners" "[I", Cond.fieldLink RX2 24 "StorageCharge$Charges" "discountDays" "[I", Cond.fieldLink RX2 27 "StorageCharge$Charges" "discountPercents" "[I", Cond.methodLink RX2 68 yX2_hasDiscount, Cond.instanceMethod yX2_hasDiscount, Cond.selects RX2 yX2_hasDiscount yX2_hasDiscount, Cond.code yX2_hasDiscount cX2_hasDiscount 4 (some .boolean)]
def wsX7_readLines : List Cond := .code yX7_readLines cX7_readLines 3 (some .int) :: ((wsX7_readLines_r1 ++ (wsX7_readLines_r2 ++ wsX7_readLines_r3)) ++ wsX70 ++ wsX50 ++ wsX20)
def wsX7_read_r1 : List Cond := [Cond.fieldLink RX7 23 "StorageCharge" "draft" "LStorageCharge$Charges;", Cond.fieldLink RX7 19 "StorageCharge" "charges" "LStorageCharge$Charges;", Cond.fieldLink RX7 10 "StorageCharge" "text" "LStorageCharge$Text;", Cond.instanceMethod yX2_clear, Cond.initialized RX2, Cond.selects RX2 yX2_clear yX2_clear, Cond.code yX2_clear cX2_clear 1 none, Cond.fieldLink RX2 9 "StorageCharge$Charges" "storage" "[I", Cond.fieldLink RX2 15 "StorageCharge$Charges" "handling" "[I", Cond.fieldLink RX2 18 "StorageCharge$Charges" "minimum" "[I", Cond.fieldLink RX2 30 "StorageCharge$Charges" "discounts" "I", Cond.fieldLink RX2 34 "StorageCharge$Charges" "lines" "I", Cond.fieldLink RX2 37 "StorageCharge$Charges" "owners" "I", Cond.methodLink RX2 43 yJ7_fill_53178, Cond.static yJ7_fill_53178, Cond.initialized RJ7, Cond.code yJ7_fill_53178 cJ7_fill_53178 4 none, Cond.methodLink RX7 81 yX7_readLines, Cond.instanceMethod yX7_readLines, Cond.selects RX7 yX7_readLines yX7_readLines, Cond.initialized RX7, Cond.code yX7_readLines cX7_readLines 3 (some .int), Cond.methodLink RX7 261 yX5_isRead, Cond.instanceMethod yX5_isRead]
def wsX7_read_r2 : List Cond := [Cond.selects RX5 yX5_isRead yX5_isRead, Cond.initialized RX5, Cond.code yX5_isRead cX5_isRead 1 (some .boolean), Cond.fieldLink RX5 19 "StorageCharge$Text" "place" "I", Cond.fieldLink RX5 15 "StorageCharge$Text" "length" "I", Cond.methodLink RX7 267 yX7_readLine, Cond.instanceMethod yX7_readLine, Cond.selects RX7 yX7_readLine yX7_readLine, Cond.code yX7_readLine cX7_readLine 5 (some .boolean), Cond.methodLink RX7 270 yX5_takeSign, Cond.instanceMethod yX5_takeSign, Cond.selects RX5 yX5_takeSign yX5_takeSign, Cond.code yX5_takeSign cX5_takeSign 2 (some .int), Cond.methodLink RX5 30 yX5_nextSign, Cond.instanceMethod yX5_nextSign, Cond.selects RX5 yX5_nextSign yX5_nextSign, Cond.code yX5_nextSign cX5_nextSign 1 (some .int), Cond.fieldLink RX5 9 "StorageCharge$Text" "signs" "[C", Cond.static yX7_isWithin, Cond.code yX7_isWithin cX7_isWithin 3 (some .boolean), Cond.methodLink RX7 273 yX5_takeNumber, Cond.instanceMethod yX5_takeNumber, Cond.selects RX5 yX5_takeNumber yX5_takeNumber, Cond.code yX5_takeNumber cX5_takeNumber 5 (some .int)]
def wsX7_read_r3 : List Cond := [Cond.methodLink RX5 34 yX5_takeSign, Cond.methodLink RX7 276 yX2_tell, Cond.instanceMethod yX2_tell, Cond.selects RX2 yX2_tell yX2_tell, Cond.code yX2_tell cX2_tell 5 (some .boolean), Cond.methodLink RX2 53 yX2_tellOf, Cond.instanceMethod yX2_tellOf, Cond.selects RX2 yX2_tellOf yX2_tellOf, Cond.code yX2_tellOf cX2_tellOf 5 (some .boolean), Cond.methodLink RX2 57 yX2_place, Cond.static yX2_place, Cond.code yX2_place cX2_place 2 (some .int), Cond.methodLink RX2 61 yX2_tellCents, Cond.static yX2_tellCents, Cond.code yX2_tellCents cX2_tellCents 3 (some .boolean), Cond.methodLink RX2 65 yX2_tellDiscount, Cond.instanceMethod yX2_tellDiscount, Cond.selects RX2 yX2_tellDiscount yX2_tellDiscount, Cond.code yX2_tellDiscount cX2_tellDiscount 4 (some .boolean), Cond.fieldLink RX2 21 "StorageCharge$Charges" "discountOwners" "[I", Cond.fieldLink RX2 24 "StorageCharge$Charges" "discountDays" "[I", Cond.fieldLink RX2 27 "StorageCharge$Charges" "discountPercents" "[I", Cond.methodLink RX2 68 yX2_hasDiscount, Cond.instanceMethod yX2_hasDiscount]
def wsX7_read_r4 : List Cond := [Cond.selects RX2 yX2_hasDiscount yX2_hasDiscount, Cond.code yX2_hasDiscount cX2_hasDiscount 4 (some .boolean), Cond.methodLink RX7 85 yX5_clear, Cond.instanceMethod yX5_clear, Cond.selects RX5 yX5_clear yX5_clear, Cond.code yX5_clear cX5_clear 1 none]
def wsX7_read : List Cond := .code yX7_read cX7_read 3 (some .int) :: ((wsX7_read_r1 ++ (wsX7_read_r2 ++ (wsX7_read_r3 ++ wsX7_read_r4))) ++ wsX70 ++ wsX20 ++ wsX50)
def wsX7_checkOwner : List Cond := .code yX7_checkOwner cX7_checkOwner 1 none :: ([.classLink RX7 54 "java/lang/IllegalArgumentException", .initialized "java/lang/IllegalArgumentException", .methodLink RX7 50 yX7_isWithin, .static yX7_isWithin, .initialized RX7, .code yX7_isWithin cX7_isWithin 3 (some .boolean)] ++ (vx_atS RX7 58 "java/lang/IllegalArgumentException" ["java/lang/RuntimeException", "java/lang/Exception"]).filter goodWord)
def wsX7_checkKind : List Cond := .code yX7_checkKind cX7_checkKind 1 none :: ([.classLink RX7 54 "java/lang/IllegalArgumentException", .initialized "java/lang/IllegalArgumentException", .methodLink RX7 50 yX7_isWithin, .static yX7_isWithin, .initialized RX7, .code yX7_isWithin cX7_isWithin 3 (some .boolean)] ++ (vx_atS RX7 58 "java/lang/IllegalArgumentException" ["java/lang/RuntimeException", "java/lang/Exception"]).filter goodWord)
def wsX7_checkDay : List Cond := .code yX7_checkDay cX7_checkDay 1 none :: ([.classLink RX7 54 "java/lang/IllegalArgumentException", .initialized "java/lang/IllegalArgumentException", .methodLink RX7 50 yX7_isWithin, .static yX7_isWithin, .initialized RX7, .code yX7_isWithin cX7_isWithin 3 (some .boolean)] ++ (vx_atS RX7 58 "java/lang/IllegalArgumentException" ["java/lang/RuntimeException", "java/lang/Exception"]).filter goodWord)
def wsX7_unit_r1 : List Cond := [Cond.classLink RX7 65 "java/lang/UnsupportedOperationException", Cond.initialized "java/lang/UnsupportedOperationException", Cond.fieldLink RX7 29 "StorageCharge" "units" "Ljava/util/ArrayList;", Cond.classLink RX7 100 RX6, Cond.instantiable RX6 7, Cond.initialized RX6, Cond.methodLink RX7 86 yX7_checkOwner, Cond.static yX7_checkOwner, Cond.initialized RX7, Cond.code yX7_checkOwner cX7_checkOwner 1 none, Cond.classLink RX7 54 "java/lang/IllegalArgumentException", Cond.initialized "java/lang/IllegalArgumentException", Cond.methodLink RX7 50 yX7_isWithin, Cond.static yX7_isWithin, Cond.code yX7_isWithin cX7_isWithin 3 (some .boolean), Cond.methodLink RX7 89 yX7_checkKind, Cond.static yX7_checkKind, Cond.code yX7_checkKind cX7_checkKind 1 none, Cond.methodLink RX7 92 yX7_checkDay, Cond.static yX7_checkDay, Cond.code yX7_checkDay cX7_checkDay 1 none, Cond.methodLink RX7 95 yJx4a65c_size_8abf5, Cond.instanceMethod yJx4a65c_size_8abf5, Cond.selects RJx4a65c yJx4a65c_size_8abf5 yJx4a65c_size_8abf5]
def wsX7_unit_r2 : List Cond := [Cond.initialized RJx4a65c, Cond.code yJx4a65c_size_8abf5 cJx4a65c_size_8abf5 1 (some .int), Cond.fieldLink RJx4a65c 48 "java/util/ArrayList" "size" "I", Cond.methodLink RX7 102 yX6_init, Cond.instanceMethod yX6_init, Cond.code yX6_init cX6_init 4 none, Cond.methodLink RX6 3 objectInit, Cond.instanceMethod objectInit, Cond.code objectInit ⟨#[0xb1]⟩ 1 none, Cond.fieldLink RX6 9 "StorageCharge$Unit" "lastDay" "I", Cond.fieldLink RX6 15 "StorageCharge$Unit" "isGone" "Z", Cond.arrayClass .int, Cond.fieldLink RX6 19 "StorageCharge$Unit" "toldKinds" "[I", Cond.fieldLink RX6 23 "StorageCharge$Unit" "toldDays" "[I", Cond.fieldLink RX6 26 "StorageCharge$Unit" "told" "I", Cond.fieldLink RX6 29 "StorageCharge$Unit" "owner" "I", Cond.fieldLink RX6 32 "StorageCharge$Unit" "firstDay" "I", Cond.methodLink RX7 105 yJx4a65c_add_9ea2d, Cond.instanceMethod yJx4a65c_add_9ea2d, Cond.selects RJx4a65c yJx4a65c_add_9ea2d yJx4a65c_add_9ea2d, Cond.code yJx4a65c_add_9ea2d cJx4a65c_add_9ea2d 2 (some .boolean), Cond.fieldLink RJx4a65c 63 "java/util/ArrayList" "modCount" "I", Cond.sameField "java/util/ArrayList" "java/util/AbstractList" "modCount" "I", Cond.fieldLink RJx4a65c 9 "java/util/ArrayList" "elementData" "[Ljava/lang/Object;"]
def wsX7_unit_r3 : List Cond := [Cond.methodLink RJx4a65c 131 yJx4a65c_add_72be8, Cond.instanceMethod yJx4a65c_add_72be8, Cond.selects RJx4a65c yJx4a65c_add_72be8 yJx4a65c_add_72be8, Cond.code yJx4a65c_add_72be8 cJx4a65c_add_72be8 4 none, Cond.methodLink RJx4a65c 129 yJx4a65c_grow_d5877, Cond.instanceMethod yJx4a65c_grow_d5877, Cond.selects RJx4a65c yJx4a65c_grow_d5877 yJx4a65c_grow_d5877, Cond.code yJx4a65c_grow_d5877 cJx4a65c_grow_d5877 1 (some (.array (.object "java/lang/Object"))), Cond.methodLink RJx4a65c 69 yJx4a65c_grow_92f84, Cond.instanceMethod yJx4a65c_grow_92f84, Cond.selects RJx4a65c yJx4a65c_grow_92f84 yJx4a65c_grow_92f84, Cond.code yJx4a65c_grow_92f84 cJx4a65c_grow_92f84 4 (some (.array (.object "java/lang/Object"))), Cond.fieldLink RJx4a65c 39 "java/util/ArrayList" "DEFAULTCAPACITY_EMPTY_ELEMENTDATA" "[Ljava/lang/Object;", Cond.methodLink RJx4a65c 79 Lib.Math.max.name, Cond.static Lib.Math.max.name, Cond.initialized "java/lang/Math", Cond.code Lib.Math.max.name Lib.Math.max.code 2 (some .int), Cond.classLink RJx4a65c 7 "java/lang/Object", Cond.methodLink RJx4a65c 73 yJ8_newLength_cabcc, Cond.static yJ8_newLength_cabcc, Cond.initialized RJ8, Cond.code yJ8_newLength_cabcc cJ8_newLength_cabcc 4 (some .int), Cond.methodLink RJ8 194 Lib.Math.max.name, Cond.constant RJ8 200 (2147483639)]
def wsX7_unit_r4 : List Cond := [Cond.methodLink RJ8 201 yJ8_hugeLength_7cf53, Cond.static yJ8_hugeLength_7cf53, Cond.code yJ8_hugeLength_7cf53 cJ8_hugeLength_7cf53 3 (some .int), Cond.methodLink RJx4a65c 66 yJ7_copyOf_1904c, Cond.static yJ7_copyOf_1904c, Cond.initialized RJ7, Cond.code yJ7_copyOf_1904c cJ7_copyOf_1904c 2 (some (.array (.object "java/lang/Object"))), Cond.methodLink RJ7 86 ⟨"java/lang/Object", "getClass", "()Ljava/lang/Class;"⟩, Cond.selects "[Ljava/lang/Object;" ⟨"java/lang/Object", "getClass", "()Ljava/lang/Class;"⟩ ⟨"java/lang/Object", "getClass", "()Ljava/lang/Class;"⟩, Cond.instanceMethod ⟨"java/lang/Object", "getClass", "()Ljava/lang/Class;"⟩, Cond.native ⟨"java/lang/Object", "getClass", "()Ljava/lang/Class;"⟩, Cond.methodLink RJ7 300 yJ7_copyOf_6403c, Cond.static yJ7_copyOf_6403c, Cond.code yJ7_copyOf_6403c cJ7_copyOf_6403c 4 (some (.array (.object "java/lang/Object"))), Cond.classLink RJ7 110 "[Ljava/lang/Object;", Cond.classLink RJ7 2 "java/lang/Object", Cond.methodLink RJ7 304 Lib.Math.min.name, Cond.static Lib.Math.min.name, Cond.code Lib.Math.min.name Lib.Math.min.code 2 (some .int), Cond.methodLink RJ7 150 arraycopyName, Cond.native arraycopyName, Cond.static arraycopyName, Cond.initialized "java/lang/System"]
def wsX7_unit : List Cond := .code yX7_unit cX7_unit 4 (some .int) :: ((wsX7_unit_r1 ++ (wsX7_unit_r2 ++ (wsX7_unit_r3 ++ wsX7_unit_r4))) ++ wsX70 ++ wsX60 ++ wsJx4a65c0 ++ (vx_atS RX7 69 "java/lang/UnsupportedOperationException" ["java/lang/RuntimeException", "java/lang/Exception"]).filter goodWord ++ (vx_atS RX7 58 "java/lang/IllegalArgumentException" ["java/lang/RuntimeException", "java/lang/Exception"]).filter goodWord)
def wsX7_checkUnit : List Cond := .code yX7_checkUnit cX7_checkUnit 2 none :: ([.classLink RX7 193 "java/util/NoSuchElementException", .initialized "java/util/NoSuchElementException", .fieldLink RX7 29 "StorageCharge" "units" "Ljava/util/ArrayList;", .methodLink RX7 95 yJx4a65c_size_8abf5, .instanceMethod yJx4a65c_size_8abf5, .selects RJx4a65c yJx4a65c_size_8abf5 yJx4a65c_size_8abf5, .initialized RJx4a65c, .code yJx4a65c_size_8abf5 cJx4a65c_size_8abf5 1 (some .int), .fieldLink RJx4a65c 48 "java/util/ArrayList" "size" "I", .methodLink RX7 50 yX7_isWithin, .static yX7_isWithin, .initialized RX7, .code yX7_isWithin cX7_isWithin 3 (some .boolean)] ++ wsX70 ++ wsJx4a65c0 ++ (vx_atS RX7 197 "java/util/NoSuchElementException" ["java/lang/RuntimeException", "java/lang/Exception"]).filter goodWord)
def wsX7_checkGoesOn : List Cond := .code yX7_checkGoesOn cX7_checkGoesOn 2 none :: ([.classLink RX7 171 "java/lang/IllegalStateException", .initialized "java/lang/IllegalStateException", .methodLink RX7 256 yX6_dayToldLast, .instanceMethod yX6_dayToldLast, .selects RX6 yX6_dayToldLast yX6_dayToldLast, .initialized RX6, .code yX6_dayToldLast cX6_dayToldLast 1 (some .int), .fieldLink RX6 23 "StorageCharge$Unit" "toldDays" "[I", .fieldLink RX6 26 "StorageCharge$Unit" "told" "I"] ++ wsX60 ++ (vx_atS RX7 175 "java/lang/IllegalStateException" ["java/lang/RuntimeException", "java/lang/Exception"]).filter goodWord)
def wsX7_change_r1 : List Cond := [Cond.classLink RX7 65 "java/lang/UnsupportedOperationException", Cond.initialized "java/lang/UnsupportedOperationException", Cond.fieldLink RX7 29 "StorageCharge" "units" "Ljava/util/ArrayList;", Cond.classLink RX7 100 "StorageCharge$Unit", Cond.methodLink RX7 108 yX7_checkUnit, Cond.instanceMethod yX7_checkUnit, Cond.selects RX7 yX7_checkUnit yX7_checkUnit, Cond.initialized RX7, Cond.code yX7_checkUnit cX7_checkUnit 2 none, Cond.classLink RX7 193 "java/util/NoSuchElementException", Cond.initialized "java/util/NoSuchElementException", Cond.methodLink RX7 95 yJx4a65c_size_8abf5, Cond.instanceMethod yJx4a65c_size_8abf5, Cond.selects RJx4a65c yJx4a65c_size_8abf5 yJx4a65c_size_8abf5, Cond.initialized RJx4a65c, Cond.code yJx4a65c_size_8abf5 cJx4a65c_size_8abf5 1 (some .int), Cond.fieldLink RJx4a65c 48 "java/util/ArrayList" "size" "I", Cond.methodLink RX7 50 yX7_isWithin, Cond.static yX7_isWithin, Cond.code yX7_isWithin cX7_isWithin 3 (some .boolean), Cond.methodLink RX7 89 yX7_checkKind, Cond.static yX7_checkKind, Cond.code yX7_checkKind cX7_checkKind 1 none, Cond.classLink RX7 54 "java/lang/IllegalArgumentException"]
def wsX7_change_r2 : List Cond := [Cond.initialized "java/lang/IllegalArgumentException", Cond.methodLink RX7 92 yX7_checkDay, Cond.static yX7_checkDay, Cond.code yX7_checkDay cX7_checkDay 1 none, Cond.methodLink RX7 111 yJx4a65c_get_915e3, Cond.instanceMethod yJx4a65c_get_915e3, Cond.selects RJx4a65c yJx4a65c_get_915e3 yJx4a65c_get_915e3, Cond.code yJx4a65c_get_915e3 cJx4a65c_get_915e3 2 (some (.object "java/lang/Object")), Cond.methodLink RJx4a65c 118 yJ15_checkIndex_7cf53, Cond.static yJ15_checkIndex_7cf53, Cond.initialized RJ15, Cond.code yJ15_checkIndex_7cf53 cJ15_checkIndex_7cf53 2 (some .int), Cond.methodLink RJ15 105 yJ3_checkIndex_8e157, Cond.static yJ3_checkIndex_8e157, Cond.initialized RJ3, Cond.code yJ3_checkIndex_8e157 cJ3_checkIndex_8e157 3 (some .int), Cond.methodLink RJx4a65c 123 yJx4a65c_elementData_915e3, Cond.instanceMethod yJx4a65c_elementData_915e3, Cond.selects RJx4a65c yJx4a65c_elementData_915e3 yJx4a65c_elementData_915e3, Cond.code yJx4a65c_elementData_915e3 cJx4a65c_elementData_915e3 2 (some (.object "java/lang/Object")), Cond.fieldLink RJx4a65c 9 "java/util/ArrayList" "elementData" "[Ljava/lang/Object;", Cond.methodLink RX7 115 yX7_checkGoesOn, Cond.static yX7_checkGoesOn, Cond.code yX7_checkGoesOn cX7_checkGoesOn 2 none]
def wsX7_change_r3 : List Cond := [Cond.classLink RX7 171 "java/lang/IllegalStateException", Cond.initialized "java/lang/IllegalStateException", Cond.methodLink RX7 256 yX6_dayToldLast, Cond.instanceMethod yX6_dayToldLast, Cond.selects RX6 yX6_dayToldLast yX6_dayToldLast, Cond.initialized RX6, Cond.code yX6_dayToldLast cX6_dayToldLast 1 (some .int), Cond.fieldLink RX6 23 "StorageCharge$Unit" "toldDays" "[I", Cond.fieldLink RX6 26 "StorageCharge$Unit" "told" "I", Cond.methodLink RX7 119 yX6_isFull, Cond.instanceMethod yX6_isFull, Cond.selects RX6 yX6_isFull yX6_isFull, Cond.code yX6_isFull cX6_isFull 1 (some .boolean), Cond.fieldLink RX6 19 "StorageCharge$Unit" "toldKinds" "[I", Cond.methodLink RX7 122 yX6_kindToldLast, Cond.instanceMethod yX6_kindToldLast, Cond.selects RX6 yX6_kindToldLast yX6_kindToldLast, Cond.code yX6_kindToldLast cX6_kindToldLast 1 (some .int), Cond.methodLink RX7 125 yX6_tell, Cond.instanceMethod yX6_tell, Cond.selects RX6 yX6_tell yX6_tell, Cond.code yX6_tell cX6_tell 3 none, Cond.methodLink RX6 35 yX6_isFull]
def wsX7_change : List Cond := .code yX7_change cX7_change 6 (some .boolean) :: ((wsX7_change_r1 ++ (wsX7_change_r2 ++ wsX7_change_r3)) ++ wsX70 ++ wsJx4a65c0 ++ wsX60 ++ (vx_atS RX7 69 "java/lang/UnsupportedOperationException" ["java/lang/RuntimeException", "java/lang/Exception"]).filter goodWord ++ (vx_atS RX7 197 "java/util/NoSuchElementException" ["java/lang/RuntimeException", "java/lang/Exception"]).filter goodWord ++ (vx_atS RX7 58 "java/lang/IllegalArgumentException" ["java/lang/RuntimeException", "java/lang/Exception"]).filter goodWord ++ (vx_atS RX7 175 "java/lang/IllegalStateException" ["java/lang/RuntimeException", "java/lang/Exception"]).filter goodWord)
def wsX7_gone_r1 : List Cond := [Cond.fieldLink RX7 29 "StorageCharge" "units" "Ljava/util/ArrayList;", Cond.classLink RX7 100 "StorageCharge$Unit", Cond.methodLink RX7 108 yX7_checkUnit, Cond.instanceMethod yX7_checkUnit, Cond.selects RX7 yX7_checkUnit yX7_checkUnit, Cond.initialized RX7, Cond.code yX7_checkUnit cX7_checkUnit 2 none, Cond.classLink RX7 193 "java/util/NoSuchElementException", Cond.initialized "java/util/NoSuchElementException", Cond.methodLink RX7 95 yJx4a65c_size_8abf5, Cond.instanceMethod yJx4a65c_size_8abf5, Cond.selects RJx4a65c yJx4a65c_size_8abf5 yJx4a65c_size_8abf5, Cond.initialized RJx4a65c, Cond.code yJx4a65c_size_8abf5 cJx4a65c_size_8abf5 1 (some .int), Cond.fieldLink RJx4a65c 48 "java/util/ArrayList" "size" "I", Cond.methodLink RX7 50 yX7_isWithin, Cond.static yX7_isWithin, Cond.code yX7_isWithin cX7_isWithin 3 (some .boolean), Cond.methodLink RX7 92 yX7_checkDay, Cond.static yX7_checkDay, Cond.code yX7_checkDay cX7_checkDay 1 none, Cond.classLink RX7 54 "java/lang/IllegalArgumentException", Cond.initialized "java/lang/IllegalArgumentException", Cond.methodLink RX7 111 yJx4a65c_get_915e3]
def wsX7_gone_r2 : List Cond := [Cond.instanceMethod yJx4a65c_get_915e3, Cond.selects RJx4a65c yJx4a65c_get_915e3 yJx4a65c_get_915e3, Cond.code yJx4a65c_get_915e3 cJx4a65c_get_915e3 2 (some (.object "java/lang/Object")), Cond.methodLink RJx4a65c 118 yJ15_checkIndex_7cf53, Cond.static yJ15_checkIndex_7cf53, Cond.initialized RJ15, Cond.code yJ15_checkIndex_7cf53 cJ15_checkIndex_7cf53 2 (some .int), Cond.methodLink RJ15 105 yJ3_checkIndex_8e157, Cond.static yJ3_checkIndex_8e157, Cond.initialized RJ3, Cond.code yJ3_checkIndex_8e157 cJ3_checkIndex_8e157 3 (some .int), Cond.methodLink RJx4a65c 123 yJx4a65c_elementData_915e3, Cond.instanceMethod yJx4a65c_elementData_915e3, Cond.selects RJx4a65c yJx4a65c_elementData_915e3 yJx4a65c_elementData_915e3, Cond.code yJx4a65c_elementData_915e3 cJx4a65c_elementData_915e3 2 (some (.object "java/lang/Object")), Cond.fieldLink RJx4a65c 9 "java/util/ArrayList" "elementData" "[Ljava/lang/Object;", Cond.methodLink RX7 115 yX7_checkGoesOn, Cond.static yX7_checkGoesOn, Cond.code yX7_checkGoesOn cX7_checkGoesOn 2 none, Cond.classLink RX7 171 "java/lang/IllegalStateException", Cond.initialized "java/lang/IllegalStateException", Cond.methodLink RX7 256 yX6_dayToldLast, Cond.instanceMethod yX6_dayToldLast, Cond.selects RX6 yX6_dayToldLast yX6_dayToldLast]
def wsX7_gone_r3 : List Cond := [Cond.initialized RX6, Cond.code yX6_dayToldLast cX6_dayToldLast 1 (some .int), Cond.fieldLink RX6 23 "StorageCharge$Unit" "toldDays" "[I", Cond.fieldLink RX6 26 "StorageCharge$Unit" "told" "I", Cond.methodLink RX7 129 yX6_leave, Cond.instanceMethod yX6_leave, Cond.selects RX6 yX6_leave yX6_leave, Cond.code yX6_leave cX6_leave 2 none, Cond.fieldLink RX6 9 "StorageCharge$Unit" "lastDay" "I", Cond.fieldLink RX6 15 "StorageCharge$Unit" "isGone" "Z", Cond.methodLink RX7 132 yX6_daysThere, Cond.instanceMethod yX6_daysThere, Cond.selects RX6 yX6_daysThere yX6_daysThere, Cond.code yX6_daysThere cX6_daysThere 3 (some .int), Cond.methodLink RX6 39 Lib.Math.min.name, Cond.static Lib.Math.min.name, Cond.initialized "java/lang/Math", Cond.code Lib.Math.min.name Lib.Math.min.code 2 (some .int), Cond.fieldLink RX6 32 "StorageCharge$Unit" "firstDay" "I", Cond.methodLink RX6 45 Lib.Math.max.name, Cond.static Lib.Math.max.name, Cond.code Lib.Math.max.name Lib.Math.max.code 2 (some .int)]
def wsX7_gone : List Cond := .code yX7_gone cX7_gone 4 (some .int) :: ((wsX7_gone_r1 ++ (wsX7_gone_r2 ++ wsX7_gone_r3)) ++ wsX70 ++ wsJx4a65c0 ++ wsX60 ++ (vx_atS RX7 197 "java/util/NoSuchElementException" ["java/lang/RuntimeException", "java/lang/Exception"]).filter goodWord ++ (vx_atS RX7 58 "java/lang/IllegalArgumentException" ["java/lang/RuntimeException", "java/lang/Exception"]).filter goodWord ++ (vx_atS RX7 175 "java/lang/IllegalStateException" ["java/lang/RuntimeException", "java/lang/Exception"]).filter goodWord)
def wsX7_movesOf_r1 : List Cond := [Cond.fieldLink RX7 33 "StorageCharge" "moves" "Ljava/util/ArrayList;", Cond.classLink RX7 140 "StorageCharge$Move", Cond.methodLink RX7 95 yJx4a65c_size_8abf5, Cond.instanceMethod yJx4a65c_size_8abf5, Cond.selects RJx4a65c yJx4a65c_size_8abf5 yJx4a65c_size_8abf5, Cond.initialized RJx4a65c, Cond.code yJx4a65c_size_8abf5 cJx4a65c_size_8abf5 1 (some .int), Cond.fieldLink RJx4a65c 48 "java/util/ArrayList" "size" "I", Cond.methodLink RX7 111 yJx4a65c_get_915e3, Cond.instanceMethod yJx4a65c_get_915e3, Cond.selects RJx4a65c yJx4a65c_get_915e3 yJx4a65c_get_915e3, Cond.code yJx4a65c_get_915e3 cJx4a65c_get_915e3 2 (some (.object "java/lang/Object")), Cond.methodLink RJx4a65c 118 yJ15_checkIndex_7cf53, Cond.static yJ15_checkIndex_7cf53, Cond.initialized RJ15, Cond.code yJ15_checkIndex_7cf53 cJ15_checkIndex_7cf53 2 (some .int), Cond.methodLink RJ15 105 yJ3_checkIndex_8e157, Cond.static yJ3_checkIndex_8e157, Cond.initialized RJ3, Cond.code yJ3_checkIndex_8e157 cJ3_checkIndex_8e157 3 (some .int), Cond.methodLink RJx4a65c 123 yJx4a65c_elementData_915e3, Cond.instanceMethod yJx4a65c_elementData_915e3, Cond.selects RJx4a65c yJx4a65c_elementData_915e3 yJx4a65c_elementData_915e3, Cond.code yJx4a65c_elementData_915e3 cJx4a65c_elementData_915e3 2 (some (.object "java/lang/Object"))]
def wsX7_movesOf_r2 : List Cond := [Cond.fieldLink RJx4a65c 9 "java/util/ArrayList" "elementData" "[Ljava/lang/Object;"]
def wsX7_movesOf : List Cond := .code yX7_movesOf cX7_movesOf 4 (some .int) :: ((wsX7_movesOf_r1 ++ wsX7_movesOf_r2) ++ wsX70 ++ wsX30 ++ wsJx4a65c0)
def wsX7_move_r1 : List Cond := [Cond.classLink RX7 54 "java/lang/IllegalArgumentException", Cond.initialized "java/lang/IllegalArgumentException", Cond.classLink RX7 65 "java/lang/UnsupportedOperationException", Cond.initialized "java/lang/UnsupportedOperationException", Cond.fieldLink RX7 33 "StorageCharge" "moves" "Ljava/util/ArrayList;", Cond.classLink RX7 140 RX3, Cond.instantiable RX3 4, Cond.initialized RX3, Cond.methodLink RX7 86 yX7_checkOwner, Cond.static yX7_checkOwner, Cond.initialized RX7, Cond.code yX7_checkOwner cX7_checkOwner 1 none, Cond.methodLink RX7 50 yX7_isWithin, Cond.static yX7_isWithin, Cond.code yX7_isWithin cX7_isWithin 3 (some .boolean), Cond.methodLink RX7 89 yX7_checkKind, Cond.static yX7_checkKind, Cond.code yX7_checkKind cX7_checkKind 1 none, Cond.methodLink RX7 92 yX7_checkDay, Cond.static yX7_checkDay, Cond.code yX7_checkDay cX7_checkDay 1 none, Cond.methodLink RX7 95 yJx4a65c_size_8abf5, Cond.instanceMethod yJx4a65c_size_8abf5, Cond.selects RJx4a65c yJx4a65c_size_8abf5 yJx4a65c_size_8abf5]
def wsX7_move_r2 : List Cond := [Cond.initialized RJx4a65c, Cond.code yJx4a65c_size_8abf5 cJx4a65c_size_8abf5 1 (some .int), Cond.fieldLink RJx4a65c 48 "java/util/ArrayList" "size" "I", Cond.methodLink RX7 142 yX3_init, Cond.instanceMethod yX3_init, Cond.code yX3_init cX3_init 5 none, Cond.methodLink RX3 1 objectInit, Cond.instanceMethod objectInit, Cond.code objectInit ⟨#[0xb1]⟩ 1 none, Cond.fieldLink RX3 7 "StorageCharge$Move" "owner" "I", Cond.fieldLink RX3 13 "StorageCharge$Move" "kind" "I", Cond.fieldLink RX3 16 "StorageCharge$Move" "day" "I", Cond.fieldLink RX3 19 "StorageCharge$Move" "pieces" "I", Cond.methodLink RX7 105 yJx4a65c_add_9ea2d, Cond.instanceMethod yJx4a65c_add_9ea2d, Cond.selects RJx4a65c yJx4a65c_add_9ea2d yJx4a65c_add_9ea2d, Cond.code yJx4a65c_add_9ea2d cJx4a65c_add_9ea2d 2 (some .boolean), Cond.fieldLink RJx4a65c 63 "java/util/ArrayList" "modCount" "I", Cond.sameField "java/util/ArrayList" "java/util/AbstractList" "modCount" "I", Cond.fieldLink RJx4a65c 9 "java/util/ArrayList" "elementData" "[Ljava/lang/Object;", Cond.methodLink RJx4a65c 131 yJx4a65c_add_72be8, Cond.instanceMethod yJx4a65c_add_72be8, Cond.selects RJx4a65c yJx4a65c_add_72be8 yJx4a65c_add_72be8, Cond.code yJx4a65c_add_72be8 cJx4a65c_add_72be8 4 none]
def wsX7_move_r3 : List Cond := [Cond.methodLink RJx4a65c 129 yJx4a65c_grow_d5877, Cond.instanceMethod yJx4a65c_grow_d5877, Cond.selects RJx4a65c yJx4a65c_grow_d5877 yJx4a65c_grow_d5877, Cond.code yJx4a65c_grow_d5877 cJx4a65c_grow_d5877 1 (some (.array (.object "java/lang/Object"))), Cond.methodLink RJx4a65c 69 yJx4a65c_grow_92f84, Cond.instanceMethod yJx4a65c_grow_92f84, Cond.selects RJx4a65c yJx4a65c_grow_92f84 yJx4a65c_grow_92f84, Cond.code yJx4a65c_grow_92f84 cJx4a65c_grow_92f84 4 (some (.array (.object "java/lang/Object"))), Cond.fieldLink RJx4a65c 39 "java/util/ArrayList" "DEFAULTCAPACITY_EMPTY_ELEMENTDATA" "[Ljava/lang/Object;", Cond.methodLink RJx4a65c 79 Lib.Math.max.name, Cond.static Lib.Math.max.name, Cond.initialized "java/lang/Math", Cond.code Lib.Math.max.name Lib.Math.max.code 2 (some .int), Cond.classLink RJx4a65c 7 "java/lang/Object", Cond.methodLink RJx4a65c 73 yJ8_newLength_cabcc, Cond.static yJ8_newLength_cabcc, Cond.initialized RJ8, Cond.code yJ8_newLength_cabcc cJ8_newLength_cabcc 4 (some .int), Cond.methodLink RJ8 194 Lib.Math.max.name, Cond.constant RJ8 200 (2147483639), Cond.methodLink RJ8 201 yJ8_hugeLength_7cf53, Cond.static yJ8_hugeLength_7cf53, Cond.code yJ8_hugeLength_7cf53 cJ8_hugeLength_7cf53 3 (some .int), Cond.methodLink RJx4a65c 66 yJ7_copyOf_1904c]
def wsX7_move_r4 : List Cond := [Cond.static yJ7_copyOf_1904c, Cond.initialized RJ7, Cond.code yJ7_copyOf_1904c cJ7_copyOf_1904c 2 (some (.array (.object "java/lang/Object"))), Cond.methodLink RJ7 86 ⟨"java/lang/Object", "getClass", "()Ljava/lang/Class;"⟩, Cond.selects "[Ljava/lang/Object;" ⟨"java/lang/Object", "getClass", "()Ljava/lang/Class;"⟩ ⟨"java/lang/Object", "getClass", "()Ljava/lang/Class;"⟩, Cond.instanceMethod ⟨"java/lang/Object", "getClass", "()Ljava/lang/Class;"⟩, Cond.native ⟨"java/lang/Object", "getClass", "()Ljava/lang/Class;"⟩, Cond.methodLink RJ7 300 yJ7_copyOf_6403c, Cond.static yJ7_copyOf_6403c, Cond.code yJ7_copyOf_6403c cJ7_copyOf_6403c 4 (some (.array (.object "java/lang/Object"))), Cond.classLink RJ7 110 "[Ljava/lang/Object;", Cond.classLink RJ7 2 "java/lang/Object", Cond.methodLink RJ7 304 Lib.Math.min.name, Cond.static Lib.Math.min.name, Cond.code Lib.Math.min.name Lib.Math.min.code 2 (some .int), Cond.methodLink RJ7 150 arraycopyName, Cond.native arraycopyName, Cond.static arraycopyName, Cond.initialized "java/lang/System", Cond.methodLink RX7 145 yX7_movesOf, Cond.instanceMethod yX7_movesOf, Cond.selects RX7 yX7_movesOf yX7_movesOf, Cond.code yX7_movesOf cX7_movesOf 4 (some .int), Cond.classLink RX7 140 "StorageCharge$Move"]
def wsX7_move_r5 : List Cond := [Cond.methodLink RX7 111 yJx4a65c_get_915e3, Cond.instanceMethod yJx4a65c_get_915e3, Cond.selects RJx4a65c yJx4a65c_get_915e3 yJx4a65c_get_915e3, Cond.code yJx4a65c_get_915e3 cJx4a65c_get_915e3 2 (some (.object "java/lang/Object")), Cond.methodLink RJx4a65c 118 yJ15_checkIndex_7cf53, Cond.static yJ15_checkIndex_7cf53, Cond.initialized RJ15, Cond.code yJ15_checkIndex_7cf53 cJ15_checkIndex_7cf53 2 (some .int), Cond.methodLink RJ15 105 yJ3_checkIndex_8e157, Cond.static yJ3_checkIndex_8e157, Cond.initialized RJ3, Cond.code yJ3_checkIndex_8e157 cJ3_checkIndex_8e157 3 (some .int), Cond.methodLink RJx4a65c 123 yJx4a65c_elementData_915e3, Cond.instanceMethod yJx4a65c_elementData_915e3, Cond.selects RJx4a65c yJx4a65c_elementData_915e3 yJx4a65c_elementData_915e3, Cond.code yJx4a65c_elementData_915e3 cJx4a65c_elementData_915e3 2 (some (.object "java/lang/Object"))]
def wsX7_move : List Cond := .code yX7_move cX7_move 5 (some .int) :: ((wsX7_move_r1 ++ (wsX7_move_r2 ++ (wsX7_move_r3 ++ (wsX7_move_r4 ++ wsX7_move_r5)))) ++ wsX70 ++ wsX30 ++ wsJx4a65c0 ++ (vx_atS RX7 58 "java/lang/IllegalArgumentException" ["java/lang/RuntimeException", "java/lang/Exception"]).filter goodWord ++ (vx_atS RX7 69 "java/lang/UnsupportedOperationException" ["java/lang/RuntimeException", "java/lang/Exception"]).filter goodWord)
def wsX7_checkMonth : List Cond := .code yX7_checkMonth cX7_checkMonth 1 none :: ([.classLink RX7 54 "java/lang/IllegalArgumentException", .initialized "java/lang/IllegalArgumentException", .methodLink RX7 50 yX7_isWithin, .static yX7_isWithin, .initialized RX7, .code yX7_isWithin cX7_isWithin 3 (some .boolean)] ++ (vx_atS RX7 58 "java/lang/IllegalArgumentException" ["java/lang/RuntimeException", "java/lang/Exception"]).filter goodWord)
def wsX7_firstDayOf : List Cond := .code yX7_firstDayOf cX7_firstDayOf 1 (some .int) :: ([])
def wsX7_lastDayOf : List Cond := .code yX7_lastDayOf cX7_lastDayOf 1 (some .int) :: ([])
def wsX7_storageOfUnit_r1 : List Cond := [Cond.methodLink RX7 286 Lib.Math.max.name, Cond.static Lib.Math.max.name, Cond.initialized "java/lang/Math", Cond.code Lib.Math.max.name Lib.Math.max.code 2 (some .int), Cond.methodLink RX7 311 Lib.Math.min.name, Cond.static Lib.Math.min.name, Cond.code Lib.Math.min.name Lib.Math.min.code 2 (some .int), Cond.fieldLink RX7 19 "StorageCharge" "charges" "LStorageCharge$Charges;", Cond.methodLink RX7 299 yX7_firstDayOf, Cond.static yX7_firstDayOf, Cond.initialized RX7, Cond.code yX7_firstDayOf cX7_firstDayOf 1 (some .int), Cond.methodLink RX7 305 yX7_lastDayOf, Cond.static yX7_lastDayOf, Cond.code yX7_lastDayOf cX7_lastDayOf 1 (some .int), Cond.methodLink RX7 314 yX6_kindOn, Cond.instanceMethod yX6_kindOn, Cond.selects RX6 yX6_kindOn yX6_kindOn, Cond.initialized RX6, Cond.code yX6_kindOn cX6_kindOn 4 (some .int), Cond.fieldLink RX6 19 "StorageCharge$Unit" "toldKinds" "[I", Cond.fieldLink RX6 26 "StorageCharge$Unit" "told" "I", Cond.fieldLink RX6 23 "StorageCharge$Unit" "toldDays" "[I", Cond.methodLink RX6 45 Lib.Math.max.name]
def wsX7_storageOfUnit_r2 : List Cond := [Cond.methodLink RX7 317 yX2_storageCents, Cond.instanceMethod yX2_storageCents, Cond.selects RX2 yX2_storageCents yX2_storageCents, Cond.initialized RX2, Cond.code yX2_storageCents cX2_storageCents 3 (some .int), Cond.fieldLink RX2 9 "StorageCharge$Charges" "storage" "[I", Cond.methodLink RX2 57 yX2_place, Cond.static yX2_place, Cond.code yX2_place cX2_place 2 (some .int), Cond.methodLink RX2 72 yX2_toldOrZero, Cond.static yX2_toldOrZero, Cond.code yX2_toldOrZero cX2_toldOrZero 2 (some .int), Cond.static yX7_isWithin, Cond.code yX7_isWithin cX7_isWithin 3 (some .boolean)]
def wsX7_storageOfUnit : List Cond := .code yX7_storageOfUnit cX7_storageOfUnit 8 (some .int) :: ((wsX7_storageOfUnit_r1 ++ wsX7_storageOfUnit_r2) ++ wsX60 ++ wsX70 ++ wsX20)
def wsX7_unitDays_r1 : List Cond := [Cond.fieldLink RX7 29 "StorageCharge" "units" "Ljava/util/ArrayList;", Cond.classLink RX7 100 "StorageCharge$Unit", Cond.methodLink RX7 95 yJx4a65c_size_8abf5, Cond.instanceMethod yJx4a65c_size_8abf5, Cond.selects RJx4a65c yJx4a65c_size_8abf5 yJx4a65c_size_8abf5, Cond.initialized RJx4a65c, Cond.code yJx4a65c_size_8abf5 cJx4a65c_size_8abf5 1 (some .int), Cond.fieldLink RJx4a65c 48 "java/util/ArrayList" "size" "I", Cond.methodLink RX7 111 yJx4a65c_get_915e3, Cond.instanceMethod yJx4a65c_get_915e3, Cond.selects RJx4a65c yJx4a65c_get_915e3 yJx4a65c_get_915e3, Cond.code yJx4a65c_get_915e3 cJx4a65c_get_915e3 2 (some (.object "java/lang/Object")), Cond.methodLink RJx4a65c 118 yJ15_checkIndex_7cf53, Cond.static yJ15_checkIndex_7cf53, Cond.initialized RJ15, Cond.code yJ15_checkIndex_7cf53 cJ15_checkIndex_7cf53 2 (some .int), Cond.methodLink RJ15 105 yJ3_checkIndex_8e157, Cond.static yJ3_checkIndex_8e157, Cond.initialized RJ3, Cond.code yJ3_checkIndex_8e157 cJ3_checkIndex_8e157 3 (some .int), Cond.methodLink RJx4a65c 123 yJx4a65c_elementData_915e3, Cond.instanceMethod yJx4a65c_elementData_915e3, Cond.selects RJx4a65c yJx4a65c_elementData_915e3 yJx4a65c_elementData_915e3, Cond.code yJx4a65c_elementData_915e3 cJx4a65c_elementData_915e3 2 (some (.object "java/lang/Object"))]
def wsX7_unitDays_r2 : List Cond := [Cond.fieldLink RJx4a65c 9 "java/util/ArrayList" "elementData" "[Ljava/lang/Object;", Cond.methodLink RX7 299 yX7_firstDayOf, Cond.static yX7_firstDayOf, Cond.initialized RX7, Cond.code yX7_firstDayOf cX7_firstDayOf 1 (some .int), Cond.methodLink RX7 305 yX7_lastDayOf, Cond.static yX7_lastDayOf, Cond.code yX7_lastDayOf cX7_lastDayOf 1 (some .int), Cond.methodLink RX7 132 yX6_daysThere, Cond.instanceMethod yX6_daysThere, Cond.selects RX6 yX6_daysThere yX6_daysThere, Cond.initialized RX6, Cond.code yX6_daysThere cX6_daysThere 3 (some .int), Cond.fieldLink RX6 9 "StorageCharge$Unit" "lastDay" "I", Cond.methodLink RX6 39 Lib.Math.min.name, Cond.static Lib.Math.min.name, Cond.initialized "java/lang/Math", Cond.code Lib.Math.min.name Lib.Math.min.code 2 (some .int), Cond.fieldLink RX6 32 "StorageCharge$Unit" "firstDay" "I", Cond.methodLink RX6 45 Lib.Math.max.name, Cond.static Lib.Math.max.name, Cond.code Lib.Math.max.name Lib.Math.max.code 2 (some .int)]
def wsX7_unitDays : List Cond := .code yX7_unitDays cX7_unitDays 6 (some .int) :: ((wsX7_unitDays_r1 ++ wsX7_unitDays_r2) ++ wsX70 ++ wsX60 ++ wsJx4a65c0)
def wsX7_storageBy_r1 : List Cond := [Cond.fieldLink RX7 29 "StorageCharge" "units" "Ljava/util/ArrayList;", Cond.classLink RX7 100 "StorageCharge$Unit", Cond.fieldLink RX7 19 "StorageCharge" "charges" "LStorageCharge$Charges;", Cond.methodLink RX7 95 yJx4a65c_size_8abf5, Cond.instanceMethod yJx4a65c_size_8abf5, Cond.selects RJx4a65c yJx4a65c_size_8abf5 yJx4a65c_size_8abf5, Cond.initialized RJx4a65c, Cond.code yJx4a65c_size_8abf5 cJx4a65c_size_8abf5 1 (some .int), Cond.fieldLink RJx4a65c 48 "java/util/ArrayList" "size" "I", Cond.methodLink RX7 111 yJx4a65c_get_915e3, Cond.instanceMethod yJx4a65c_get_915e3, Cond.selects RJx4a65c yJx4a65c_get_915e3 yJx4a65c_get_915e3, Cond.code yJx4a65c_get_915e3 cJx4a65c_get_915e3 2 (some (.object "java/lang/Object")), Cond.methodLink RJx4a65c 118 yJ15_checkIndex_7cf53, Cond.static yJ15_checkIndex_7cf53, Cond.initialized RJ15, Cond.code yJ15_checkIndex_7cf53 cJ15_checkIndex_7cf53 2 (some .int), Cond.methodLink RJ15 105 yJ3_checkIndex_8e157, Cond.static yJ3_checkIndex_8e157, Cond.initialized RJ3, Cond.code yJ3_checkIndex_8e157 cJ3_checkIndex_8e157 3 (some .int), Cond.methodLink RJx4a65c 123 yJx4a65c_elementData_915e3, Cond.instanceMethod yJx4a65c_elementData_915e3, Cond.selects RJx4a65c yJx4a65c_elementData_915e3 yJx4a65c_elementData_915e3]
def wsX7_storageBy_r2 : List Cond := [Cond.code yJx4a65c_elementData_915e3 cJx4a65c_elementData_915e3 2 (some (.object "java/lang/Object")), Cond.fieldLink RJx4a65c 9 "java/util/ArrayList" "elementData" "[Ljava/lang/Object;", Cond.methodLink RX7 292 yX7_storageOfUnit, Cond.instanceMethod yX7_storageOfUnit, Cond.selects RX7 yX7_storageOfUnit yX7_storageOfUnit, Cond.initialized RX7, Cond.code yX7_storageOfUnit cX7_storageOfUnit 8 (some .int), Cond.methodLink RX7 286 Lib.Math.max.name, Cond.static Lib.Math.max.name, Cond.initialized "java/lang/Math", Cond.code Lib.Math.max.name Lib.Math.max.code 2 (some .int), Cond.methodLink RX7 311 Lib.Math.min.name, Cond.static Lib.Math.min.name, Cond.code Lib.Math.min.name Lib.Math.min.code 2 (some .int), Cond.methodLink RX7 299 yX7_firstDayOf, Cond.static yX7_firstDayOf, Cond.code yX7_firstDayOf cX7_firstDayOf 1 (some .int), Cond.methodLink RX7 305 yX7_lastDayOf, Cond.static yX7_lastDayOf, Cond.code yX7_lastDayOf cX7_lastDayOf 1 (some .int), Cond.methodLink RX7 314 yX6_kindOn, Cond.instanceMethod yX6_kindOn, Cond.selects RX6 yX6_kindOn yX6_kindOn, Cond.initialized RX6]
def wsX7_storageBy_r3 : List Cond := [Cond.code yX6_kindOn cX6_kindOn 4 (some .int), Cond.fieldLink RX6 19 "StorageCharge$Unit" "toldKinds" "[I", Cond.fieldLink RX6 26 "StorageCharge$Unit" "told" "I", Cond.fieldLink RX6 23 "StorageCharge$Unit" "toldDays" "[I", Cond.methodLink RX6 45 Lib.Math.max.name, Cond.methodLink RX7 317 yX2_storageCents, Cond.instanceMethod yX2_storageCents, Cond.selects RX2 yX2_storageCents yX2_storageCents, Cond.initialized RX2, Cond.code yX2_storageCents cX2_storageCents 3 (some .int), Cond.fieldLink RX2 9 "StorageCharge$Charges" "storage" "[I", Cond.methodLink RX2 57 yX2_place, Cond.static yX2_place, Cond.code yX2_place cX2_place 2 (some .int), Cond.methodLink RX2 72 yX2_toldOrZero, Cond.static yX2_toldOrZero, Cond.code yX2_toldOrZero cX2_toldOrZero 2 (some .int), Cond.static yX7_isWithin, Cond.code yX7_isWithin cX7_isWithin 3 (some .boolean), Cond.methodLink RX7 156 yX7_unitDays, Cond.instanceMethod yX7_unitDays, Cond.selects RX7 yX7_unitDays yX7_unitDays, Cond.code yX7_unitDays cX7_unitDays 6 (some .int), Cond.methodLink RX7 132 yX6_daysThere]
def wsX7_storageBy_r4 : List Cond := [Cond.instanceMethod yX6_daysThere, Cond.selects RX6 yX6_daysThere yX6_daysThere, Cond.code yX6_daysThere cX6_daysThere 3 (some .int), Cond.fieldLink RX6 9 "StorageCharge$Unit" "lastDay" "I", Cond.methodLink RX6 39 Lib.Math.min.name, Cond.fieldLink RX6 32 "StorageCharge$Unit" "firstDay" "I", Cond.methodLink RX7 296 yX2_percentFor, Cond.instanceMethod yX2_percentFor, Cond.selects RX2 yX2_percentFor yX2_percentFor, Cond.code yX2_percentFor cX2_percentFor 6 (some .int), Cond.fieldLink RX2 30 "StorageCharge$Charges" "discounts" "I", Cond.fieldLink RX2 21 "StorageCharge$Charges" "discountOwners" "[I", Cond.fieldLink RX2 24 "StorageCharge$Charges" "discountDays" "[I", Cond.fieldLink RX2 27 "StorageCharge$Charges" "discountPercents" "[I"]
def wsX7_storageBy : List Cond := .code yX7_storageBy cX7_storageBy 7 (some .int) :: ((wsX7_storageBy_r1 ++ (wsX7_storageBy_r2 ++ (wsX7_storageBy_r3 ++ wsX7_storageBy_r4))) ++ wsX70 ++ wsX60 ++ wsJx4a65c0 ++ wsX20)
def wsX7_handlingBy_r1 : List Cond := [Cond.fieldLink RX7 33 "StorageCharge" "moves" "Ljava/util/ArrayList;", Cond.classLink RX7 140 "StorageCharge$Move", Cond.fieldLink RX7 19 "StorageCharge" "charges" "LStorageCharge$Charges;", Cond.methodLink RX7 95 yJx4a65c_size_8abf5, Cond.instanceMethod yJx4a65c_size_8abf5, Cond.selects RJx4a65c yJx4a65c_size_8abf5 yJx4a65c_size_8abf5, Cond.initialized RJx4a65c, Cond.code yJx4a65c_size_8abf5 cJx4a65c_size_8abf5 1 (some .int), Cond.fieldLink RJx4a65c 48 "java/util/ArrayList" "size" "I", Cond.methodLink RX7 111 yJx4a65c_get_915e3, Cond.instanceMethod yJx4a65c_get_915e3, Cond.selects RJx4a65c yJx4a65c_get_915e3 yJx4a65c_get_915e3, Cond.code yJx4a65c_get_915e3 cJx4a65c_get_915e3 2 (some (.object "java/lang/Object")), Cond.methodLink RJx4a65c 118 yJ15_checkIndex_7cf53, Cond.static yJ15_checkIndex_7cf53, Cond.initialized RJ15, Cond.code yJ15_checkIndex_7cf53 cJ15_checkIndex_7cf53 2 (some .int), Cond.methodLink RJ15 105 yJ3_checkIndex_8e157, Cond.static yJ3_checkIndex_8e157, Cond.initialized RJ3, Cond.code yJ3_checkIndex_8e157 cJ3_checkIndex_8e157 3 (some .int), Cond.methodLink RJx4a65c 123 yJx4a65c_elementData_915e3, Cond.instanceMethod yJx4a65c_elementData_915e3, Cond.selects RJx4a65c yJx4a65c_elementData_915e3 yJx4a65c_elementData_915e3]
def wsX7_handlingBy_r2 : List Cond := [Cond.code yJx4a65c_elementData_915e3 cJx4a65c_elementData_915e3 2 (some (.object "java/lang/Object")), Cond.fieldLink RJx4a65c 9 "java/util/ArrayList" "elementData" "[Ljava/lang/Object;", Cond.methodLink RX7 299 yX7_firstDayOf, Cond.static yX7_firstDayOf, Cond.initialized RX7, Cond.code yX7_firstDayOf cX7_firstDayOf 1 (some .int), Cond.methodLink RX7 305 yX7_lastDayOf, Cond.static yX7_lastDayOf, Cond.code yX7_lastDayOf cX7_lastDayOf 1 (some .int), Cond.methodLink RX7 50 yX7_isWithin, Cond.static yX7_isWithin, Cond.code yX7_isWithin cX7_isWithin 3 (some .boolean), Cond.methodLink RX7 329 yX2_handlingCents, Cond.instanceMethod yX2_handlingCents, Cond.selects RX2 yX2_handlingCents yX2_handlingCents, Cond.initialized RX2, Cond.code yX2_handlingCents cX2_handlingCents 3 (some .int), Cond.fieldLink RX2 15 "StorageCharge$Charges" "handling" "[I", Cond.methodLink RX2 57 yX2_place, Cond.static yX2_place, Cond.code yX2_place cX2_place 2 (some .int), Cond.methodLink RX2 72 yX2_toldOrZero, Cond.static yX2_toldOrZero, Cond.code yX2_toldOrZero cX2_toldOrZero 2 (some .int)]
def wsX7_handlingBy : List Cond := .code yX7_handlingBy cX7_handlingBy 7 (some .int) :: ((wsX7_handlingBy_r1 ++ wsX7_handlingBy_r2) ++ wsX70 ++ wsX30 ++ wsJx4a65c0 ++ wsX20)
def wsX7_sumBy_r1 : List Cond := [Cond.fieldLink RX7 19 "StorageCharge" "charges" "LStorageCharge$Charges;", Cond.methodLink RX7 286 Lib.Math.max.name, Cond.static Lib.Math.max.name, Cond.initialized "java/lang/Math", Cond.code Lib.Math.max.name Lib.Math.max.code 2 (some .int), Cond.methodLink RX7 164 yX7_storageBy, Cond.instanceMethod yX7_storageBy, Cond.selects RX7 yX7_storageBy yX7_storageBy, Cond.initialized RX7, Cond.code yX7_storageBy cX7_storageBy 7 (some .int), Cond.fieldLink RX7 29 "StorageCharge" "units" "Ljava/util/ArrayList;", Cond.classLink RX7 100 "StorageCharge$Unit", Cond.methodLink RX7 95 yJx4a65c_size_8abf5, Cond.instanceMethod yJx4a65c_size_8abf5, Cond.selects RJx4a65c yJx4a65c_size_8abf5 yJx4a65c_size_8abf5, Cond.initialized RJx4a65c, Cond.code yJx4a65c_size_8abf5 cJx4a65c_size_8abf5 1 (some .int), Cond.fieldLink RJx4a65c 48 "java/util/ArrayList" "size" "I", Cond.methodLink RX7 111 yJx4a65c_get_915e3, Cond.instanceMethod yJx4a65c_get_915e3, Cond.selects RJx4a65c yJx4a65c_get_915e3 yJx4a65c_get_915e3, Cond.code yJx4a65c_get_915e3 cJx4a65c_get_915e3 2 (some (.object "java/lang/Object")), Cond.methodLink RJx4a65c 118 yJ15_checkIndex_7cf53, Cond.static yJ15_checkIndex_7cf53]
def wsX7_sumBy_r2 : List Cond := [Cond.initialized RJ15, Cond.code yJ15_checkIndex_7cf53 cJ15_checkIndex_7cf53 2 (some .int), Cond.methodLink RJ15 105 yJ3_checkIndex_8e157, Cond.static yJ3_checkIndex_8e157, Cond.initialized RJ3, Cond.code yJ3_checkIndex_8e157 cJ3_checkIndex_8e157 3 (some .int), Cond.methodLink RJx4a65c 123 yJx4a65c_elementData_915e3, Cond.instanceMethod yJx4a65c_elementData_915e3, Cond.selects RJx4a65c yJx4a65c_elementData_915e3 yJx4a65c_elementData_915e3, Cond.code yJx4a65c_elementData_915e3 cJx4a65c_elementData_915e3 2 (some (.object "java/lang/Object")), Cond.fieldLink RJx4a65c 9 "java/util/ArrayList" "elementData" "[Ljava/lang/Object;", Cond.methodLink RX7 292 yX7_storageOfUnit, Cond.instanceMethod yX7_storageOfUnit, Cond.selects RX7 yX7_storageOfUnit yX7_storageOfUnit, Cond.code yX7_storageOfUnit cX7_storageOfUnit 8 (some .int), Cond.methodLink RX7 311 Lib.Math.min.name, Cond.static Lib.Math.min.name, Cond.code Lib.Math.min.name Lib.Math.min.code 2 (some .int), Cond.methodLink RX7 299 yX7_firstDayOf, Cond.static yX7_firstDayOf, Cond.code yX7_firstDayOf cX7_firstDayOf 1 (some .int), Cond.methodLink RX7 305 yX7_lastDayOf, Cond.static yX7_lastDayOf, Cond.code yX7_lastDayOf cX7_lastDayOf 1 (some .int)]
def wsX7_sumBy_r3 : List Cond := [Cond.methodLink RX7 314 yX6_kindOn, Cond.instanceMethod yX6_kindOn, Cond.selects RX6 yX6_kindOn yX6_kindOn, Cond.initialized RX6, Cond.code yX6_kindOn cX6_kindOn 4 (some .int), Cond.fieldLink RX6 19 "StorageCharge$Unit" "toldKinds" "[I", Cond.fieldLink RX6 26 "StorageCharge$Unit" "told" "I", Cond.fieldLink RX6 23 "StorageCharge$Unit" "toldDays" "[I", Cond.methodLink RX6 45 Lib.Math.max.name, Cond.methodLink RX7 317 yX2_storageCents, Cond.instanceMethod yX2_storageCents, Cond.selects RX2 yX2_storageCents yX2_storageCents, Cond.initialized RX2, Cond.code yX2_storageCents cX2_storageCents 3 (some .int), Cond.fieldLink RX2 9 "StorageCharge$Charges" "storage" "[I", Cond.methodLink RX2 57 yX2_place, Cond.static yX2_place, Cond.code yX2_place cX2_place 2 (some .int), Cond.methodLink RX2 72 yX2_toldOrZero, Cond.static yX2_toldOrZero, Cond.code yX2_toldOrZero cX2_toldOrZero 2 (some .int), Cond.static yX7_isWithin, Cond.code yX7_isWithin cX7_isWithin 3 (some .boolean), Cond.methodLink RX7 156 yX7_unitDays]
def wsX7_sumBy_r4 : List Cond := [Cond.instanceMethod yX7_unitDays, Cond.selects RX7 yX7_unitDays yX7_unitDays, Cond.code yX7_unitDays cX7_unitDays 6 (some .int), Cond.methodLink RX7 132 yX6_daysThere, Cond.instanceMethod yX6_daysThere, Cond.selects RX6 yX6_daysThere yX6_daysThere, Cond.code yX6_daysThere cX6_daysThere 3 (some .int), Cond.fieldLink RX6 9 "StorageCharge$Unit" "lastDay" "I", Cond.methodLink RX6 39 Lib.Math.min.name, Cond.fieldLink RX6 32 "StorageCharge$Unit" "firstDay" "I", Cond.methodLink RX7 296 yX2_percentFor, Cond.instanceMethod yX2_percentFor, Cond.selects RX2 yX2_percentFor yX2_percentFor, Cond.code yX2_percentFor cX2_percentFor 6 (some .int), Cond.fieldLink RX2 30 "StorageCharge$Charges" "discounts" "I", Cond.fieldLink RX2 21 "StorageCharge$Charges" "discountOwners" "[I", Cond.fieldLink RX2 24 "StorageCharge$Charges" "discountDays" "[I", Cond.fieldLink RX2 27 "StorageCharge$Charges" "discountPercents" "[I", Cond.methodLink RX7 280 yX7_handlingBy, Cond.instanceMethod yX7_handlingBy, Cond.selects RX7 yX7_handlingBy yX7_handlingBy, Cond.code yX7_handlingBy cX7_handlingBy 7 (some .int), Cond.fieldLink RX7 33 "StorageCharge" "moves" "Ljava/util/ArrayList;", Cond.classLink RX7 140 "StorageCharge$Move"]
def wsX7_sumBy_r5 : List Cond := [Cond.methodLink RX7 50 yX7_isWithin, Cond.methodLink RX7 329 yX2_handlingCents, Cond.instanceMethod yX2_handlingCents, Cond.selects RX2 yX2_handlingCents yX2_handlingCents, Cond.code yX2_handlingCents cX2_handlingCents 3 (some .int), Cond.fieldLink RX2 15 "StorageCharge$Charges" "handling" "[I", Cond.methodLink RX7 283 yX2_minimumOf, Cond.instanceMethod yX2_minimumOf, Cond.selects RX2 yX2_minimumOf yX2_minimumOf, Cond.code yX2_minimumOf cX2_minimumOf 2 (some .int), Cond.fieldLink RX2 18 "StorageCharge$Charges" "minimum" "[I"]
def wsX7_sumBy : List Cond := .code yX7_sumBy cX7_sumBy 5 (some .int) :: ((wsX7_sumBy_r1 ++ (wsX7_sumBy_r2 ++ (wsX7_sumBy_r3 ++ (wsX7_sumBy_r4 ++ wsX7_sumBy_r5)))) ++ wsX70 ++ wsX60 ++ wsJx4a65c0 ++ wsX20 ++ wsX30)
def wsX7_sum_r1 : List Cond := [Cond.methodLink RX7 86 yX7_checkOwner, Cond.static yX7_checkOwner, Cond.initialized RX7, Cond.code yX7_checkOwner cX7_checkOwner 1 none, Cond.classLink RX7 54 "java/lang/IllegalArgumentException", Cond.initialized "java/lang/IllegalArgumentException", Cond.methodLink RX7 50 yX7_isWithin, Cond.static yX7_isWithin, Cond.code yX7_isWithin cX7_isWithin 3 (some .boolean), Cond.methodLink RX7 149 yX7_checkMonth, Cond.static yX7_checkMonth, Cond.code yX7_checkMonth cX7_checkMonth 1 none, Cond.methodLink RX7 152 yX7_sumBy, Cond.instanceMethod yX7_sumBy, Cond.selects RX7 yX7_sumBy yX7_sumBy, Cond.code yX7_sumBy cX7_sumBy 5 (some .int), Cond.fieldLink RX7 19 "StorageCharge" "charges" "LStorageCharge$Charges;", Cond.methodLink RX7 286 Lib.Math.max.name, Cond.static Lib.Math.max.name, Cond.initialized "java/lang/Math", Cond.code Lib.Math.max.name Lib.Math.max.code 2 (some .int), Cond.methodLink RX7 164 yX7_storageBy, Cond.instanceMethod yX7_storageBy, Cond.selects RX7 yX7_storageBy yX7_storageBy]
def wsX7_sum_r2 : List Cond := [Cond.code yX7_storageBy cX7_storageBy 7 (some .int), Cond.fieldLink RX7 29 "StorageCharge" "units" "Ljava/util/ArrayList;", Cond.classLink RX7 100 "StorageCharge$Unit", Cond.methodLink RX7 95 yJx4a65c_size_8abf5, Cond.instanceMethod yJx4a65c_size_8abf5, Cond.selects RJx4a65c yJx4a65c_size_8abf5 yJx4a65c_size_8abf5, Cond.initialized RJx4a65c, Cond.code yJx4a65c_size_8abf5 cJx4a65c_size_8abf5 1 (some .int), Cond.fieldLink RJx4a65c 48 "java/util/ArrayList" "size" "I", Cond.methodLink RX7 111 yJx4a65c_get_915e3, Cond.instanceMethod yJx4a65c_get_915e3, Cond.selects RJx4a65c yJx4a65c_get_915e3 yJx4a65c_get_915e3, Cond.code yJx4a65c_get_915e3 cJx4a65c_get_915e3 2 (some (.object "java/lang/Object")), Cond.methodLink RJx4a65c 118 yJ15_checkIndex_7cf53, Cond.static yJ15_checkIndex_7cf53, Cond.initialized RJ15, Cond.code yJ15_checkIndex_7cf53 cJ15_checkIndex_7cf53 2 (some .int), Cond.methodLink RJ15 105 yJ3_checkIndex_8e157, Cond.static yJ3_checkIndex_8e157, Cond.initialized RJ3, Cond.code yJ3_checkIndex_8e157 cJ3_checkIndex_8e157 3 (some .int), Cond.methodLink RJx4a65c 123 yJx4a65c_elementData_915e3, Cond.instanceMethod yJx4a65c_elementData_915e3, Cond.selects RJx4a65c yJx4a65c_elementData_915e3 yJx4a65c_elementData_915e3]
def wsX7_sum_r3 : List Cond := [Cond.code yJx4a65c_elementData_915e3 cJx4a65c_elementData_915e3 2 (some (.object "java/lang/Object")), Cond.fieldLink RJx4a65c 9 "java/util/ArrayList" "elementData" "[Ljava/lang/Object;", Cond.methodLink RX7 292 yX7_storageOfUnit, Cond.instanceMethod yX7_storageOfUnit, Cond.selects RX7 yX7_storageOfUnit yX7_storageOfUnit, Cond.code yX7_storageOfUnit cX7_storageOfUnit 8 (some .int), Cond.methodLink RX7 311 Lib.Math.min.name, Cond.static Lib.Math.min.name, Cond.code Lib.Math.min.name Lib.Math.min.code 2 (some .int), Cond.methodLink RX7 299 yX7_firstDayOf, Cond.static yX7_firstDayOf, Cond.code yX7_firstDayOf cX7_firstDayOf 1 (some .int), Cond.methodLink RX7 305 yX7_lastDayOf, Cond.static yX7_lastDayOf, Cond.code yX7_lastDayOf cX7_lastDayOf 1 (some .int), Cond.methodLink RX7 314 yX6_kindOn, Cond.instanceMethod yX6_kindOn, Cond.selects RX6 yX6_kindOn yX6_kindOn, Cond.initialized RX6, Cond.code yX6_kindOn cX6_kindOn 4 (some .int), Cond.fieldLink RX6 19 "StorageCharge$Unit" "toldKinds" "[I", Cond.fieldLink RX6 26 "StorageCharge$Unit" "told" "I", Cond.fieldLink RX6 23 "StorageCharge$Unit" "toldDays" "[I", Cond.methodLink RX6 45 Lib.Math.max.name]
def wsX7_sum_r4 : List Cond := [Cond.methodLink RX7 317 yX2_storageCents, Cond.instanceMethod yX2_storageCents, Cond.selects RX2 yX2_storageCents yX2_storageCents, Cond.initialized RX2, Cond.code yX2_storageCents cX2_storageCents 3 (some .int), Cond.fieldLink RX2 9 "StorageCharge$Charges" "storage" "[I", Cond.methodLink RX2 57 yX2_place, Cond.static yX2_place, Cond.code yX2_place cX2_place 2 (some .int), Cond.methodLink RX2 72 yX2_toldOrZero, Cond.static yX2_toldOrZero, Cond.code yX2_toldOrZero cX2_toldOrZero 2 (some .int), Cond.methodLink RX7 156 yX7_unitDays, Cond.instanceMethod yX7_unitDays, Cond.selects RX7 yX7_unitDays yX7_unitDays, Cond.code yX7_unitDays cX7_unitDays 6 (some .int), Cond.methodLink RX7 132 yX6_daysThere, Cond.instanceMethod yX6_daysThere, Cond.selects RX6 yX6_daysThere yX6_daysThere, Cond.code yX6_daysThere cX6_daysThere 3 (some .int), Cond.fieldLink RX6 9 "StorageCharge$Unit" "lastDay" "I", Cond.methodLink RX6 39 Lib.Math.min.name, Cond.fieldLink RX6 32 "StorageCharge$Unit" "firstDay" "I", Cond.methodLink RX7 296 yX2_percentFor]
def wsX7_sum_r5 : List Cond := [Cond.instanceMethod yX2_percentFor, Cond.selects RX2 yX2_percentFor yX2_percentFor, Cond.code yX2_percentFor cX2_percentFor 6 (some .int), Cond.fieldLink RX2 30 "StorageCharge$Charges" "discounts" "I", Cond.fieldLink RX2 21 "StorageCharge$Charges" "discountOwners" "[I", Cond.fieldLink RX2 24 "StorageCharge$Charges" "discountDays" "[I", Cond.fieldLink RX2 27 "StorageCharge$Charges" "discountPercents" "[I", Cond.methodLink RX7 280 yX7_handlingBy, Cond.instanceMethod yX7_handlingBy, Cond.selects RX7 yX7_handlingBy yX7_handlingBy, Cond.code yX7_handlingBy cX7_handlingBy 7 (some .int), Cond.fieldLink RX7 33 "StorageCharge" "moves" "Ljava/util/ArrayList;", Cond.classLink RX7 140 "StorageCharge$Move", Cond.methodLink RX7 329 yX2_handlingCents, Cond.instanceMethod yX2_handlingCents, Cond.selects RX2 yX2_handlingCents yX2_handlingCents, Cond.code yX2_handlingCents cX2_handlingCents 3 (some .int), Cond.fieldLink RX2 15 "StorageCharge$Charges" "handling" "[I", Cond.methodLink RX7 283 yX2_minimumOf, Cond.instanceMethod yX2_minimumOf, Cond.selects RX2 yX2_minimumOf yX2_minimumOf, Cond.code yX2_minimumOf cX2_minimumOf 2 (some .int), Cond.fieldLink RX2 18 "StorageCharge$Charges" "minimum" "[I"]
def wsX7_sum : List Cond := .code yX7_sum cX7_sum 3 (some .int) :: ((wsX7_sum_r1 ++ (wsX7_sum_r2 ++ (wsX7_sum_r3 ++ (wsX7_sum_r4 ++ wsX7_sum_r5)))) ++ wsX70 ++ wsX60 ++ wsJx4a65c0 ++ wsX20 ++ wsX30 ++ (vx_atS RX7 58 "java/lang/IllegalArgumentException" ["java/lang/RuntimeException", "java/lang/Exception"]).filter goodWord)
def wsX7_days_r1 : List Cond := [Cond.methodLink RX7 86 yX7_checkOwner, Cond.static yX7_checkOwner, Cond.initialized RX7, Cond.code yX7_checkOwner cX7_checkOwner 1 none, Cond.classLink RX7 54 "java/lang/IllegalArgumentException", Cond.initialized "java/lang/IllegalArgumentException", Cond.methodLink RX7 50 yX7_isWithin, Cond.static yX7_isWithin, Cond.code yX7_isWithin cX7_isWithin 3 (some .boolean), Cond.methodLink RX7 149 yX7_checkMonth, Cond.static yX7_checkMonth, Cond.code yX7_checkMonth cX7_checkMonth 1 none, Cond.methodLink RX7 156 yX7_unitDays, Cond.instanceMethod yX7_unitDays, Cond.selects RX7 yX7_unitDays yX7_unitDays, Cond.code yX7_unitDays cX7_unitDays 6 (some .int), Cond.fieldLink RX7 29 "StorageCharge" "units" "Ljava/util/ArrayList;", Cond.classLink RX7 100 "StorageCharge$Unit", Cond.methodLink RX7 95 yJx4a65c_size_8abf5, Cond.instanceMethod yJx4a65c_size_8abf5, Cond.selects RJx4a65c yJx4a65c_size_8abf5 yJx4a65c_size_8abf5, Cond.initialized RJx4a65c, Cond.code yJx4a65c_size_8abf5 cJx4a65c_size_8abf5 1 (some .int), Cond.fieldLink RJx4a65c 48 "java/util/ArrayList" "size" "I"]
def wsX7_days_r2 : List Cond := [Cond.methodLink RX7 111 yJx4a65c_get_915e3, Cond.instanceMethod yJx4a65c_get_915e3, Cond.selects RJx4a65c yJx4a65c_get_915e3 yJx4a65c_get_915e3, Cond.code yJx4a65c_get_915e3 cJx4a65c_get_915e3 2 (some (.object "java/lang/Object")), Cond.methodLink RJx4a65c 118 yJ15_checkIndex_7cf53, Cond.static yJ15_checkIndex_7cf53, Cond.initialized RJ15, Cond.code yJ15_checkIndex_7cf53 cJ15_checkIndex_7cf53 2 (some .int), Cond.methodLink RJ15 105 yJ3_checkIndex_8e157, Cond.static yJ3_checkIndex_8e157, Cond.initialized RJ3, Cond.code yJ3_checkIndex_8e157 cJ3_checkIndex_8e157 3 (some .int), Cond.methodLink RJx4a65c 123 yJx4a65c_elementData_915e3, Cond.instanceMethod yJx4a65c_elementData_915e3, Cond.selects RJx4a65c yJx4a65c_elementData_915e3 yJx4a65c_elementData_915e3, Cond.code yJx4a65c_elementData_915e3 cJx4a65c_elementData_915e3 2 (some (.object "java/lang/Object")), Cond.fieldLink RJx4a65c 9 "java/util/ArrayList" "elementData" "[Ljava/lang/Object;", Cond.methodLink RX7 299 yX7_firstDayOf, Cond.static yX7_firstDayOf, Cond.code yX7_firstDayOf cX7_firstDayOf 1 (some .int), Cond.methodLink RX7 305 yX7_lastDayOf, Cond.static yX7_lastDayOf, Cond.code yX7_lastDayOf cX7_lastDayOf 1 (some .int), Cond.methodLink RX7 132 yX6_daysThere]
def wsX7_days_r3 : List Cond := [Cond.instanceMethod yX6_daysThere, Cond.selects RX6 yX6_daysThere yX6_daysThere, Cond.initialized RX6, Cond.code yX6_daysThere cX6_daysThere 3 (some .int), Cond.fieldLink RX6 9 "StorageCharge$Unit" "lastDay" "I", Cond.methodLink RX6 39 Lib.Math.min.name, Cond.static Lib.Math.min.name, Cond.initialized "java/lang/Math", Cond.code Lib.Math.min.name Lib.Math.min.code 2 (some .int), Cond.fieldLink RX6 32 "StorageCharge$Unit" "firstDay" "I", Cond.methodLink RX6 45 Lib.Math.max.name, Cond.static Lib.Math.max.name, Cond.code Lib.Math.max.name Lib.Math.max.code 2 (some .int)]
def wsX7_days : List Cond := .code yX7_days cX7_days 3 (some .int) :: ((wsX7_days_r1 ++ (wsX7_days_r2 ++ wsX7_days_r3)) ++ wsX70 ++ wsX60 ++ wsJx4a65c0 ++ (vx_atS RX7 58 "java/lang/IllegalArgumentException" ["java/lang/RuntimeException", "java/lang/Exception"]).filter goodWord)
def wsX7_average_r1 : List Cond := [Cond.classLink RX7 159 "java/lang/ArithmeticException", Cond.initialized "java/lang/ArithmeticException", Cond.methodLink RX7 86 yX7_checkOwner, Cond.static yX7_checkOwner, Cond.initialized RX7, Cond.code yX7_checkOwner cX7_checkOwner 1 none, Cond.classLink RX7 54 "java/lang/IllegalArgumentException", Cond.initialized "java/lang/IllegalArgumentException", Cond.methodLink RX7 50 yX7_isWithin, Cond.static yX7_isWithin, Cond.code yX7_isWithin cX7_isWithin 3 (some .boolean), Cond.methodLink RX7 149 yX7_checkMonth, Cond.static yX7_checkMonth, Cond.code yX7_checkMonth cX7_checkMonth 1 none, Cond.methodLink RX7 156 yX7_unitDays, Cond.instanceMethod yX7_unitDays, Cond.selects RX7 yX7_unitDays yX7_unitDays, Cond.code yX7_unitDays cX7_unitDays 6 (some .int), Cond.fieldLink RX7 29 "StorageCharge" "units" "Ljava/util/ArrayList;", Cond.classLink RX7 100 "StorageCharge$Unit", Cond.methodLink RX7 95 yJx4a65c_size_8abf5, Cond.instanceMethod yJx4a65c_size_8abf5, Cond.selects RJx4a65c yJx4a65c_size_8abf5 yJx4a65c_size_8abf5, Cond.initialized RJx4a65c]
def wsX7_average_r2 : List Cond := [Cond.code yJx4a65c_size_8abf5 cJx4a65c_size_8abf5 1 (some .int), Cond.fieldLink RJx4a65c 48 "java/util/ArrayList" "size" "I", Cond.methodLink RX7 111 yJx4a65c_get_915e3, Cond.instanceMethod yJx4a65c_get_915e3, Cond.selects RJx4a65c yJx4a65c_get_915e3 yJx4a65c_get_915e3, Cond.code yJx4a65c_get_915e3 cJx4a65c_get_915e3 2 (some (.object "java/lang/Object")), Cond.methodLink RJx4a65c 118 yJ15_checkIndex_7cf53, Cond.static yJ15_checkIndex_7cf53, Cond.initialized RJ15, Cond.code yJ15_checkIndex_7cf53 cJ15_checkIndex_7cf53 2 (some .int), Cond.methodLink RJ15 105 yJ3_checkIndex_8e157, Cond.static yJ3_checkIndex_8e157, Cond.initialized RJ3, Cond.code yJ3_checkIndex_8e157 cJ3_checkIndex_8e157 3 (some .int), Cond.methodLink RJx4a65c 123 yJx4a65c_elementData_915e3, Cond.instanceMethod yJx4a65c_elementData_915e3, Cond.selects RJx4a65c yJx4a65c_elementData_915e3 yJx4a65c_elementData_915e3, Cond.code yJx4a65c_elementData_915e3 cJx4a65c_elementData_915e3 2 (some (.object "java/lang/Object")), Cond.fieldLink RJx4a65c 9 "java/util/ArrayList" "elementData" "[Ljava/lang/Object;", Cond.methodLink RX7 299 yX7_firstDayOf, Cond.static yX7_firstDayOf, Cond.code yX7_firstDayOf cX7_firstDayOf 1 (some .int), Cond.methodLink RX7 305 yX7_lastDayOf, Cond.static yX7_lastDayOf]
def wsX7_average_r3 : List Cond := [Cond.code yX7_lastDayOf cX7_lastDayOf 1 (some .int), Cond.methodLink RX7 132 yX6_daysThere, Cond.instanceMethod yX6_daysThere, Cond.selects RX6 yX6_daysThere yX6_daysThere, Cond.initialized RX6, Cond.code yX6_daysThere cX6_daysThere 3 (some .int), Cond.fieldLink RX6 9 "StorageCharge$Unit" "lastDay" "I", Cond.methodLink RX6 39 Lib.Math.min.name, Cond.static Lib.Math.min.name, Cond.initialized "java/lang/Math", Cond.code Lib.Math.min.name Lib.Math.min.code 2 (some .int), Cond.fieldLink RX6 32 "StorageCharge$Unit" "firstDay" "I", Cond.methodLink RX6 45 Lib.Math.max.name, Cond.static Lib.Math.max.name, Cond.code Lib.Math.max.name Lib.Math.max.code 2 (some .int), Cond.methodLink RX7 164 yX7_storageBy, Cond.instanceMethod yX7_storageBy, Cond.selects RX7 yX7_storageBy yX7_storageBy, Cond.code yX7_storageBy cX7_storageBy 7 (some .int), Cond.fieldLink RX7 19 "StorageCharge" "charges" "LStorageCharge$Charges;", Cond.methodLink RX7 292 yX7_storageOfUnit, Cond.instanceMethod yX7_storageOfUnit, Cond.selects RX7 yX7_storageOfUnit yX7_storageOfUnit, Cond.code yX7_storageOfUnit cX7_storageOfUnit 8 (some .int)]
def wsX7_average_r4 : List Cond := [Cond.methodLink RX7 286 Lib.Math.max.name, Cond.methodLink RX7 311 Lib.Math.min.name, Cond.methodLink RX7 314 yX6_kindOn, Cond.instanceMethod yX6_kindOn, Cond.selects RX6 yX6_kindOn yX6_kindOn, Cond.code yX6_kindOn cX6_kindOn 4 (some .int), Cond.fieldLink RX6 19 "StorageCharge$Unit" "toldKinds" "[I", Cond.fieldLink RX6 26 "StorageCharge$Unit" "told" "I", Cond.fieldLink RX6 23 "StorageCharge$Unit" "toldDays" "[I", Cond.methodLink RX7 317 yX2_storageCents, Cond.instanceMethod yX2_storageCents, Cond.selects RX2 yX2_storageCents yX2_storageCents, Cond.initialized RX2, Cond.code yX2_storageCents cX2_storageCents 3 (some .int), Cond.fieldLink RX2 9 "StorageCharge$Charges" "storage" "[I", Cond.methodLink RX2 57 yX2_place, Cond.static yX2_place, Cond.code yX2_place cX2_place 2 (some .int), Cond.methodLink RX2 72 yX2_toldOrZero, Cond.static yX2_toldOrZero, Cond.code yX2_toldOrZero cX2_toldOrZero 2 (some .int), Cond.methodLink RX7 296 yX2_percentFor, Cond.instanceMethod yX2_percentFor, Cond.selects RX2 yX2_percentFor yX2_percentFor]
def wsX7_average_r5 : List Cond := [Cond.code yX2_percentFor cX2_percentFor 6 (some .int), Cond.fieldLink RX2 30 "StorageCharge$Charges" "discounts" "I", Cond.fieldLink RX2 21 "StorageCharge$Charges" "discountOwners" "[I", Cond.fieldLink RX2 24 "StorageCharge$Charges" "discountDays" "[I", Cond.fieldLink RX2 27 "StorageCharge$Charges" "discountPercents" "[I"]
def wsX7_average : List Cond := .code yX7_average cX7_average 4 (some .int) :: ((wsX7_average_r1 ++ (wsX7_average_r2 ++ (wsX7_average_r3 ++ (wsX7_average_r4 ++ wsX7_average_r5)))) ++ wsX70 ++ wsX60 ++ wsJx4a65c0 ++ wsX20 ++ (vx_atS RX7 163 "java/lang/ArithmeticException" ["java/lang/RuntimeException", "java/lang/Exception"]).filter goodWord ++ (vx_atS RX7 58 "java/lang/IllegalArgumentException" ["java/lang/RuntimeException", "java/lang/Exception"]).filter goodWord)
def wsX7_bill_r1 : List Cond := [Cond.classLink RX7 171 "java/lang/IllegalStateException", Cond.initialized "java/lang/IllegalStateException", Cond.fieldLink RX7 39 "StorageCharge" "bills" "LStorageCharge$Bills;", Cond.classLink RX7 176 RX0, Cond.instantiable RX0 4, Cond.initialized RX0, Cond.methodLink RX7 86 yX7_checkOwner, Cond.static yX7_checkOwner, Cond.initialized RX7, Cond.code yX7_checkOwner cX7_checkOwner 1 none, Cond.classLink RX7 54 "java/lang/IllegalArgumentException", Cond.initialized "java/lang/IllegalArgumentException", Cond.methodLink RX7 50 yX7_isWithin, Cond.static yX7_isWithin, Cond.code yX7_isWithin cX7_isWithin 3 (some .boolean), Cond.methodLink RX7 149 yX7_checkMonth, Cond.static yX7_checkMonth, Cond.code yX7_checkMonth cX7_checkMonth 1 none, Cond.methodLink RX7 167 yX1_isBilled, Cond.instanceMethod yX1_isBilled, Cond.selects RX1 yX1_isBilled yX1_isBilled, Cond.initialized RX1, Cond.code yX1_isBilled cX1_isBilled 5 (some .boolean), Cond.fieldLink RX1 12 "StorageCharge$Bills" "lines" "Ljava/util/ArrayList;"]
def wsX7_bill_r2 : List Cond := [Cond.classLink RX1 30 "StorageCharge$BillLine", Cond.methodLink RX1 18 yJx4a65c_size_8abf5, Cond.instanceMethod yJx4a65c_size_8abf5, Cond.selects RJx4a65c yJx4a65c_size_8abf5 yJx4a65c_size_8abf5, Cond.initialized RJx4a65c, Cond.code yJx4a65c_size_8abf5 cJx4a65c_size_8abf5 1 (some .int), Cond.fieldLink RJx4a65c 48 "java/util/ArrayList" "size" "I", Cond.methodLink RX1 26 yJx4a65c_get_915e3, Cond.instanceMethod yJx4a65c_get_915e3, Cond.selects RJx4a65c yJx4a65c_get_915e3 yJx4a65c_get_915e3, Cond.code yJx4a65c_get_915e3 cJx4a65c_get_915e3 2 (some (.object "java/lang/Object")), Cond.methodLink RJx4a65c 118 yJ15_checkIndex_7cf53, Cond.static yJ15_checkIndex_7cf53, Cond.initialized RJ15, Cond.code yJ15_checkIndex_7cf53 cJ15_checkIndex_7cf53 2 (some .int), Cond.methodLink RJ15 105 yJ3_checkIndex_8e157, Cond.static yJ3_checkIndex_8e157, Cond.initialized RJ3, Cond.code yJ3_checkIndex_8e157 cJ3_checkIndex_8e157 3 (some .int), Cond.methodLink RJx4a65c 123 yJx4a65c_elementData_915e3, Cond.instanceMethod yJx4a65c_elementData_915e3, Cond.selects RJx4a65c yJx4a65c_elementData_915e3 yJx4a65c_elementData_915e3, Cond.code yJx4a65c_elementData_915e3 cJx4a65c_elementData_915e3 2 (some (.object "java/lang/Object")), Cond.fieldLink RJx4a65c 9 "java/util/ArrayList" "elementData" "[Ljava/lang/Object;"]
def wsX7_bill_r3 : List Cond := [Cond.methodLink RX7 152 yX7_sumBy, Cond.instanceMethod yX7_sumBy, Cond.selects RX7 yX7_sumBy yX7_sumBy, Cond.code yX7_sumBy cX7_sumBy 5 (some .int), Cond.fieldLink RX7 19 "StorageCharge" "charges" "LStorageCharge$Charges;", Cond.methodLink RX7 286 Lib.Math.max.name, Cond.static Lib.Math.max.name, Cond.initialized "java/lang/Math", Cond.code Lib.Math.max.name Lib.Math.max.code 2 (some .int), Cond.methodLink RX7 164 yX7_storageBy, Cond.instanceMethod yX7_storageBy, Cond.selects RX7 yX7_storageBy yX7_storageBy, Cond.code yX7_storageBy cX7_storageBy 7 (some .int), Cond.fieldLink RX7 29 "StorageCharge" "units" "Ljava/util/ArrayList;", Cond.classLink RX7 100 "StorageCharge$Unit", Cond.methodLink RX7 95 yJx4a65c_size_8abf5, Cond.methodLink RX7 111 yJx4a65c_get_915e3, Cond.methodLink RX7 292 yX7_storageOfUnit, Cond.instanceMethod yX7_storageOfUnit, Cond.selects RX7 yX7_storageOfUnit yX7_storageOfUnit, Cond.code yX7_storageOfUnit cX7_storageOfUnit 8 (some .int), Cond.methodLink RX7 311 Lib.Math.min.name, Cond.static Lib.Math.min.name, Cond.code Lib.Math.min.name Lib.Math.min.code 2 (some .int)]
def wsX7_bill_r4 : List Cond := [Cond.methodLink RX7 299 yX7_firstDayOf, Cond.static yX7_firstDayOf, Cond.code yX7_firstDayOf cX7_firstDayOf 1 (some .int), Cond.methodLink RX7 305 yX7_lastDayOf, Cond.static yX7_lastDayOf, Cond.code yX7_lastDayOf cX7_lastDayOf 1 (some .int), Cond.methodLink RX7 314 yX6_kindOn, Cond.instanceMethod yX6_kindOn, Cond.selects RX6 yX6_kindOn yX6_kindOn, Cond.initialized RX6, Cond.code yX6_kindOn cX6_kindOn 4 (some .int), Cond.fieldLink RX6 19 "StorageCharge$Unit" "toldKinds" "[I", Cond.fieldLink RX6 26 "StorageCharge$Unit" "told" "I", Cond.fieldLink RX6 23 "StorageCharge$Unit" "toldDays" "[I", Cond.methodLink RX6 45 Lib.Math.max.name, Cond.methodLink RX7 317 yX2_storageCents, Cond.instanceMethod yX2_storageCents, Cond.selects RX2 yX2_storageCents yX2_storageCents, Cond.initialized RX2, Cond.code yX2_storageCents cX2_storageCents 3 (some .int), Cond.fieldLink RX2 9 "StorageCharge$Charges" "storage" "[I", Cond.methodLink RX2 57 yX2_place, Cond.static yX2_place, Cond.code yX2_place cX2_place 2 (some .int)]
def wsX7_bill_r5 : List Cond := [Cond.methodLink RX2 72 yX2_toldOrZero, Cond.static yX2_toldOrZero, Cond.code yX2_toldOrZero cX2_toldOrZero 2 (some .int), Cond.methodLink RX7 156 yX7_unitDays, Cond.instanceMethod yX7_unitDays, Cond.selects RX7 yX7_unitDays yX7_unitDays, Cond.code yX7_unitDays cX7_unitDays 6 (some .int), Cond.methodLink RX7 132 yX6_daysThere, Cond.instanceMethod yX6_daysThere, Cond.selects RX6 yX6_daysThere yX6_daysThere, Cond.code yX6_daysThere cX6_daysThere 3 (some .int), Cond.fieldLink RX6 9 "StorageCharge$Unit" "lastDay" "I", Cond.methodLink RX6 39 Lib.Math.min.name, Cond.fieldLink RX6 32 "StorageCharge$Unit" "firstDay" "I", Cond.methodLink RX7 296 yX2_percentFor, Cond.instanceMethod yX2_percentFor, Cond.selects RX2 yX2_percentFor yX2_percentFor, Cond.code yX2_percentFor cX2_percentFor 6 (some .int), Cond.fieldLink RX2 30 "StorageCharge$Charges" "discounts" "I", Cond.fieldLink RX2 21 "StorageCharge$Charges" "discountOwners" "[I", Cond.fieldLink RX2 24 "StorageCharge$Charges" "discountDays" "[I", Cond.fieldLink RX2 27 "StorageCharge$Charges" "discountPercents" "[I", Cond.methodLink RX7 280 yX7_handlingBy, Cond.instanceMethod yX7_handlingBy]
def wsX7_bill_r6 : List Cond := [Cond.selects RX7 yX7_handlingBy yX7_handlingBy, Cond.code yX7_handlingBy cX7_handlingBy 7 (some .int), Cond.fieldLink RX7 33 "StorageCharge" "moves" "Ljava/util/ArrayList;", Cond.classLink RX7 140 "StorageCharge$Move", Cond.methodLink RX7 329 yX2_handlingCents, Cond.instanceMethod yX2_handlingCents, Cond.selects RX2 yX2_handlingCents yX2_handlingCents, Cond.code yX2_handlingCents cX2_handlingCents 3 (some .int), Cond.fieldLink RX2 15 "StorageCharge$Charges" "handling" "[I", Cond.methodLink RX7 283 yX2_minimumOf, Cond.instanceMethod yX2_minimumOf, Cond.selects RX2 yX2_minimumOf yX2_minimumOf, Cond.code yX2_minimumOf cX2_minimumOf 2 (some .int), Cond.fieldLink RX2 18 "StorageCharge$Charges" "minimum" "[I", Cond.methodLink RX7 178 yX0_init, Cond.instanceMethod yX0_init, Cond.code yX0_init cX0_init 5 none, Cond.methodLink RX0 1 objectInit, Cond.instanceMethod objectInit, Cond.code objectInit ⟨#[0xb1]⟩ 1 none, Cond.fieldLink RX0 7 "StorageCharge$BillLine" "owner" "I", Cond.fieldLink RX0 13 "StorageCharge$BillLine" "month" "I", Cond.fieldLink RX0 16 "StorageCharge$BillLine" "cents" "I", Cond.fieldLink RX0 19 "StorageCharge$BillLine" "isCorrection" "Z"]
def wsX7_bill_r7 : List Cond := [Cond.methodLink RX7 181 yX1_add, Cond.instanceMethod yX1_add, Cond.selects RX1 yX1_add yX1_add, Cond.code yX1_add cX1_add 2 none, Cond.methodLink RX1 22 yJx4a65c_add_9ea2d, Cond.instanceMethod yJx4a65c_add_9ea2d, Cond.selects RJx4a65c yJx4a65c_add_9ea2d yJx4a65c_add_9ea2d, Cond.code yJx4a65c_add_9ea2d cJx4a65c_add_9ea2d 2 (some .boolean), Cond.fieldLink RJx4a65c 63 "java/util/ArrayList" "modCount" "I", Cond.sameField "java/util/ArrayList" "java/util/AbstractList" "modCount" "I", Cond.methodLink RJx4a65c 131 yJx4a65c_add_72be8, Cond.instanceMethod yJx4a65c_add_72be8, Cond.selects RJx4a65c yJx4a65c_add_72be8 yJx4a65c_add_72be8, Cond.code yJx4a65c_add_72be8 cJx4a65c_add_72be8 4 none, Cond.methodLink RJx4a65c 129 yJx4a65c_grow_d5877, Cond.instanceMethod yJx4a65c_grow_d5877, Cond.selects RJx4a65c yJx4a65c_grow_d5877 yJx4a65c_grow_d5877, Cond.code yJx4a65c_grow_d5877 cJx4a65c_grow_d5877 1 (some (.array (.object "java/lang/Object"))), Cond.methodLink RJx4a65c 69 yJx4a65c_grow_92f84, Cond.instanceMethod yJx4a65c_grow_92f84, Cond.selects RJx4a65c yJx4a65c_grow_92f84 yJx4a65c_grow_92f84, Cond.code yJx4a65c_grow_92f84 cJx4a65c_grow_92f84 4 (some (.array (.object "java/lang/Object"))), Cond.fieldLink RJx4a65c 39 "java/util/ArrayList" "DEFAULTCAPACITY_EMPTY_ELEMENTDATA" "[Ljava/lang/Object;", Cond.methodLink RJx4a65c 79 Lib.Math.max.name]
def wsX7_bill_r8 : List Cond := [Cond.classLink RJx4a65c 7 "java/lang/Object", Cond.methodLink RJx4a65c 73 yJ8_newLength_cabcc, Cond.static yJ8_newLength_cabcc, Cond.initialized RJ8, Cond.code yJ8_newLength_cabcc cJ8_newLength_cabcc 4 (some .int), Cond.methodLink RJ8 194 Lib.Math.max.name, Cond.constant RJ8 200 (2147483639), Cond.methodLink RJ8 201 yJ8_hugeLength_7cf53, Cond.static yJ8_hugeLength_7cf53, Cond.code yJ8_hugeLength_7cf53 cJ8_hugeLength_7cf53 3 (some .int), Cond.methodLink RJx4a65c 66 yJ7_copyOf_1904c, Cond.static yJ7_copyOf_1904c, Cond.initialized RJ7, Cond.code yJ7_copyOf_1904c cJ7_copyOf_1904c 2 (some (.array (.object "java/lang/Object"))), Cond.methodLink RJ7 86 ⟨"java/lang/Object", "getClass", "()Ljava/lang/Class;"⟩, Cond.selects "[Ljava/lang/Object;" ⟨"java/lang/Object", "getClass", "()Ljava/lang/Class;"⟩ ⟨"java/lang/Object", "getClass", "()Ljava/lang/Class;"⟩, Cond.instanceMethod ⟨"java/lang/Object", "getClass", "()Ljava/lang/Class;"⟩, Cond.native ⟨"java/lang/Object", "getClass", "()Ljava/lang/Class;"⟩, Cond.methodLink RJ7 300 yJ7_copyOf_6403c, Cond.static yJ7_copyOf_6403c, Cond.code yJ7_copyOf_6403c cJ7_copyOf_6403c 4 (some (.array (.object "java/lang/Object"))), Cond.classLink RJ7 110 "[Ljava/lang/Object;", Cond.classLink RJ7 2 "java/lang/Object", Cond.methodLink RJ7 304 Lib.Math.min.name]
def wsX7_bill_r9 : List Cond := [Cond.methodLink RJ7 150 arraycopyName, Cond.native arraycopyName, Cond.static arraycopyName, Cond.initialized "java/lang/System"]
def wsX7_bill : List Cond := .code yX7_bill cX7_bill 4 (some .int) :: ((wsX7_bill_r1 ++ (wsX7_bill_r2 ++ (wsX7_bill_r3 ++ (wsX7_bill_r4 ++ (wsX7_bill_r5 ++ (wsX7_bill_r6 ++ (wsX7_bill_r7 ++ (wsX7_bill_r8 ++ wsX7_bill_r9)))))))) ++ wsX70 ++ wsX00 ++ wsX10 ++ wsJx4a65c0 ++ wsX60 ++ wsX20 ++ wsX30 ++ (vx_atS RX7 175 "java/lang/IllegalStateException" ["java/lang/RuntimeException", "java/lang/Exception"]).filter goodWord ++ (vx_atS RX7 58 "java/lang/IllegalArgumentException" ["java/lang/RuntimeException", "java/lang/Exception"]).filter goodWord)
def wsX7_correct_r1 : List Cond := [Cond.classLink RX7 171 "java/lang/IllegalStateException", Cond.initialized "java/lang/IllegalStateException", Cond.fieldLink RX7 39 "StorageCharge" "bills" "LStorageCharge$Bills;", Cond.classLink RX7 176 RX0, Cond.instantiable RX0 4, Cond.initialized RX0, Cond.methodLink RX7 86 yX7_checkOwner, Cond.static yX7_checkOwner, Cond.initialized RX7, Cond.code yX7_checkOwner cX7_checkOwner 1 none, Cond.classLink RX7 54 "java/lang/IllegalArgumentException", Cond.initialized "java/lang/IllegalArgumentException", Cond.methodLink RX7 50 yX7_isWithin, Cond.static yX7_isWithin, Cond.code yX7_isWithin cX7_isWithin 3 (some .boolean), Cond.methodLink RX7 149 yX7_checkMonth, Cond.static yX7_checkMonth, Cond.code yX7_checkMonth cX7_checkMonth 1 none, Cond.methodLink RX7 167 yX1_isBilled, Cond.instanceMethod yX1_isBilled, Cond.selects RX1 yX1_isBilled yX1_isBilled, Cond.initialized RX1, Cond.code yX1_isBilled cX1_isBilled 5 (some .boolean), Cond.fieldLink RX1 12 "StorageCharge$Bills" "lines" "Ljava/util/ArrayList;"]
def wsX7_correct_r2 : List Cond := [Cond.classLink RX1 30 "StorageCharge$BillLine", Cond.methodLink RX1 18 yJx4a65c_size_8abf5, Cond.instanceMethod yJx4a65c_size_8abf5, Cond.selects RJx4a65c yJx4a65c_size_8abf5 yJx4a65c_size_8abf5, Cond.initialized RJx4a65c, Cond.code yJx4a65c_size_8abf5 cJx4a65c_size_8abf5 1 (some .int), Cond.fieldLink RJx4a65c 48 "java/util/ArrayList" "size" "I", Cond.methodLink RX1 26 yJx4a65c_get_915e3, Cond.instanceMethod yJx4a65c_get_915e3, Cond.selects RJx4a65c yJx4a65c_get_915e3 yJx4a65c_get_915e3, Cond.code yJx4a65c_get_915e3 cJx4a65c_get_915e3 2 (some (.object "java/lang/Object")), Cond.methodLink RJx4a65c 118 yJ15_checkIndex_7cf53, Cond.static yJ15_checkIndex_7cf53, Cond.initialized RJ15, Cond.code yJ15_checkIndex_7cf53 cJ15_checkIndex_7cf53 2 (some .int), Cond.methodLink RJ15 105 yJ3_checkIndex_8e157, Cond.static yJ3_checkIndex_8e157, Cond.initialized RJ3, Cond.code yJ3_checkIndex_8e157 cJ3_checkIndex_8e157 3 (some .int), Cond.methodLink RJx4a65c 123 yJx4a65c_elementData_915e3, Cond.instanceMethod yJx4a65c_elementData_915e3, Cond.selects RJx4a65c yJx4a65c_elementData_915e3 yJx4a65c_elementData_915e3, Cond.code yJx4a65c_elementData_915e3 cJx4a65c_elementData_915e3 2 (some (.object "java/lang/Object")), Cond.fieldLink RJx4a65c 9 "java/util/ArrayList" "elementData" "[Ljava/lang/Object;"]
def wsX7_correct_r3 : List Cond := [Cond.methodLink RX7 152 yX7_sumBy, Cond.instanceMethod yX7_sumBy, Cond.selects RX7 yX7_sumBy yX7_sumBy, Cond.code yX7_sumBy cX7_sumBy 5 (some .int), Cond.fieldLink RX7 19 "StorageCharge" "charges" "LStorageCharge$Charges;", Cond.methodLink RX7 286 Lib.Math.max.name, Cond.static Lib.Math.max.name, Cond.initialized "java/lang/Math", Cond.code Lib.Math.max.name Lib.Math.max.code 2 (some .int), Cond.methodLink RX7 164 yX7_storageBy, Cond.instanceMethod yX7_storageBy, Cond.selects RX7 yX7_storageBy yX7_storageBy, Cond.code yX7_storageBy cX7_storageBy 7 (some .int), Cond.fieldLink RX7 29 "StorageCharge" "units" "Ljava/util/ArrayList;", Cond.classLink RX7 100 "StorageCharge$Unit", Cond.methodLink RX7 95 yJx4a65c_size_8abf5, Cond.methodLink RX7 111 yJx4a65c_get_915e3, Cond.methodLink RX7 292 yX7_storageOfUnit, Cond.instanceMethod yX7_storageOfUnit, Cond.selects RX7 yX7_storageOfUnit yX7_storageOfUnit, Cond.code yX7_storageOfUnit cX7_storageOfUnit 8 (some .int), Cond.methodLink RX7 311 Lib.Math.min.name, Cond.static Lib.Math.min.name, Cond.code Lib.Math.min.name Lib.Math.min.code 2 (some .int)]
def wsX7_correct_r4 : List Cond := [Cond.methodLink RX7 299 yX7_firstDayOf, Cond.static yX7_firstDayOf, Cond.code yX7_firstDayOf cX7_firstDayOf 1 (some .int), Cond.methodLink RX7 305 yX7_lastDayOf, Cond.static yX7_lastDayOf, Cond.code yX7_lastDayOf cX7_lastDayOf 1 (some .int), Cond.methodLink RX7 314 yX6_kindOn, Cond.instanceMethod yX6_kindOn, Cond.selects RX6 yX6_kindOn yX6_kindOn, Cond.initialized RX6, Cond.code yX6_kindOn cX6_kindOn 4 (some .int), Cond.fieldLink RX6 19 "StorageCharge$Unit" "toldKinds" "[I", Cond.fieldLink RX6 26 "StorageCharge$Unit" "told" "I", Cond.fieldLink RX6 23 "StorageCharge$Unit" "toldDays" "[I", Cond.methodLink RX6 45 Lib.Math.max.name, Cond.methodLink RX7 317 yX2_storageCents, Cond.instanceMethod yX2_storageCents, Cond.selects RX2 yX2_storageCents yX2_storageCents, Cond.initialized RX2, Cond.code yX2_storageCents cX2_storageCents 3 (some .int), Cond.fieldLink RX2 9 "StorageCharge$Charges" "storage" "[I", Cond.methodLink RX2 57 yX2_place, Cond.static yX2_place, Cond.code yX2_place cX2_place 2 (some .int)]
def wsX7_correct_r5 : List Cond := [Cond.methodLink RX2 72 yX2_toldOrZero, Cond.static yX2_toldOrZero, Cond.code yX2_toldOrZero cX2_toldOrZero 2 (some .int), Cond.methodLink RX7 156 yX7_unitDays, Cond.instanceMethod yX7_unitDays, Cond.selects RX7 yX7_unitDays yX7_unitDays, Cond.code yX7_unitDays cX7_unitDays 6 (some .int), Cond.methodLink RX7 132 yX6_daysThere, Cond.instanceMethod yX6_daysThere, Cond.selects RX6 yX6_daysThere yX6_daysThere, Cond.code yX6_daysThere cX6_daysThere 3 (some .int), Cond.fieldLink RX6 9 "StorageCharge$Unit" "lastDay" "I", Cond.methodLink RX6 39 Lib.Math.min.name, Cond.fieldLink RX6 32 "StorageCharge$Unit" "firstDay" "I", Cond.methodLink RX7 296 yX2_percentFor, Cond.instanceMethod yX2_percentFor, Cond.selects RX2 yX2_percentFor yX2_percentFor, Cond.code yX2_percentFor cX2_percentFor 6 (some .int), Cond.fieldLink RX2 30 "StorageCharge$Charges" "discounts" "I", Cond.fieldLink RX2 21 "StorageCharge$Charges" "discountOwners" "[I", Cond.fieldLink RX2 24 "StorageCharge$Charges" "discountDays" "[I", Cond.fieldLink RX2 27 "StorageCharge$Charges" "discountPercents" "[I", Cond.methodLink RX7 280 yX7_handlingBy, Cond.instanceMethod yX7_handlingBy]
def wsX7_correct_r6 : List Cond := [Cond.selects RX7 yX7_handlingBy yX7_handlingBy, Cond.code yX7_handlingBy cX7_handlingBy 7 (some .int), Cond.fieldLink RX7 33 "StorageCharge" "moves" "Ljava/util/ArrayList;", Cond.classLink RX7 140 "StorageCharge$Move", Cond.methodLink RX7 329 yX2_handlingCents, Cond.instanceMethod yX2_handlingCents, Cond.selects RX2 yX2_handlingCents yX2_handlingCents, Cond.code yX2_handlingCents cX2_handlingCents 3 (some .int), Cond.fieldLink RX2 15 "StorageCharge$Charges" "handling" "[I", Cond.methodLink RX7 283 yX2_minimumOf, Cond.instanceMethod yX2_minimumOf, Cond.selects RX2 yX2_minimumOf yX2_minimumOf, Cond.code yX2_minimumOf cX2_minimumOf 2 (some .int), Cond.fieldLink RX2 18 "StorageCharge$Charges" "minimum" "[I", Cond.methodLink RX7 186 yX1_centsOfMonth, Cond.instanceMethod yX1_centsOfMonth, Cond.selects RX1 yX1_centsOfMonth yX1_centsOfMonth, Cond.code yX1_centsOfMonth cX1_centsOfMonth 6 (some .int), Cond.methodLink RX7 178 yX0_init, Cond.instanceMethod yX0_init, Cond.code yX0_init cX0_init 5 none, Cond.methodLink RX0 1 objectInit, Cond.instanceMethod objectInit, Cond.code objectInit ⟨#[0xb1]⟩ 1 none]
def wsX7_correct_r7 : List Cond := [Cond.fieldLink RX0 7 "StorageCharge$BillLine" "owner" "I", Cond.fieldLink RX0 13 "StorageCharge$BillLine" "month" "I", Cond.fieldLink RX0 16 "StorageCharge$BillLine" "cents" "I", Cond.fieldLink RX0 19 "StorageCharge$BillLine" "isCorrection" "Z", Cond.methodLink RX7 181 yX1_add, Cond.instanceMethod yX1_add, Cond.selects RX1 yX1_add yX1_add, Cond.code yX1_add cX1_add 2 none, Cond.methodLink RX1 22 yJx4a65c_add_9ea2d, Cond.instanceMethod yJx4a65c_add_9ea2d, Cond.selects RJx4a65c yJx4a65c_add_9ea2d yJx4a65c_add_9ea2d, Cond.code yJx4a65c_add_9ea2d cJx4a65c_add_9ea2d 2 (some .boolean), Cond.fieldLink RJx4a65c 63 "java/util/ArrayList" "modCount" "I", Cond.sameField "java/util/ArrayList" "java/util/AbstractList" "modCount" "I", Cond.methodLink RJx4a65c 131 yJx4a65c_add_72be8, Cond.instanceMethod yJx4a65c_add_72be8, Cond.selects RJx4a65c yJx4a65c_add_72be8 yJx4a65c_add_72be8, Cond.code yJx4a65c_add_72be8 cJx4a65c_add_72be8 4 none, Cond.methodLink RJx4a65c 129 yJx4a65c_grow_d5877, Cond.instanceMethod yJx4a65c_grow_d5877, Cond.selects RJx4a65c yJx4a65c_grow_d5877 yJx4a65c_grow_d5877, Cond.code yJx4a65c_grow_d5877 cJx4a65c_grow_d5877 1 (some (.array (.object "java/lang/Object"))), Cond.methodLink RJx4a65c 69 yJx4a65c_grow_92f84, Cond.instanceMethod yJx4a65c_grow_92f84]
def wsX7_correct_r8 : List Cond := [Cond.selects RJx4a65c yJx4a65c_grow_92f84 yJx4a65c_grow_92f84, Cond.code yJx4a65c_grow_92f84 cJx4a65c_grow_92f84 4 (some (.array (.object "java/lang/Object"))), Cond.fieldLink RJx4a65c 39 "java/util/ArrayList" "DEFAULTCAPACITY_EMPTY_ELEMENTDATA" "[Ljava/lang/Object;", Cond.methodLink RJx4a65c 79 Lib.Math.max.name, Cond.classLink RJx4a65c 7 "java/lang/Object", Cond.methodLink RJx4a65c 73 yJ8_newLength_cabcc, Cond.static yJ8_newLength_cabcc, Cond.initialized RJ8, Cond.code yJ8_newLength_cabcc cJ8_newLength_cabcc 4 (some .int), Cond.methodLink RJ8 194 Lib.Math.max.name, Cond.constant RJ8 200 (2147483639), Cond.methodLink RJ8 201 yJ8_hugeLength_7cf53, Cond.static yJ8_hugeLength_7cf53, Cond.code yJ8_hugeLength_7cf53 cJ8_hugeLength_7cf53 3 (some .int), Cond.methodLink RJx4a65c 66 yJ7_copyOf_1904c, Cond.static yJ7_copyOf_1904c, Cond.initialized RJ7, Cond.code yJ7_copyOf_1904c cJ7_copyOf_1904c 2 (some (.array (.object "java/lang/Object"))), Cond.methodLink RJ7 86 ⟨"java/lang/Object", "getClass", "()Ljava/lang/Class;"⟩, Cond.selects "[Ljava/lang/Object;" ⟨"java/lang/Object", "getClass", "()Ljava/lang/Class;"⟩ ⟨"java/lang/Object", "getClass", "()Ljava/lang/Class;"⟩, Cond.instanceMethod ⟨"java/lang/Object", "getClass", "()Ljava/lang/Class;"⟩, Cond.native ⟨"java/lang/Object", "getClass", "()Ljava/lang/Class;"⟩, Cond.methodLink RJ7 300 yJ7_copyOf_6403c, Cond.static yJ7_copyOf_6403c]
def wsX7_correct_r9 : List Cond := [Cond.code yJ7_copyOf_6403c cJ7_copyOf_6403c 4 (some (.array (.object "java/lang/Object"))), Cond.classLink RJ7 110 "[Ljava/lang/Object;", Cond.classLink RJ7 2 "java/lang/Object", Cond.methodLink RJ7 304 Lib.Math.min.name, Cond.methodLink RJ7 150 arraycopyName, Cond.native arraycopyName, Cond.static arraycopyName, Cond.initialized "java/lang/System"]
def wsX7_correct : List Cond := .code yX7_correct cX7_correct 4 (some .int) :: ((wsX7_correct_r1 ++ (wsX7_correct_r2 ++ (wsX7_correct_r3 ++ (wsX7_correct_r4 ++ (wsX7_correct_r5 ++ (wsX7_correct_r6 ++ (wsX7_correct_r7 ++ (wsX7_correct_r8 ++ wsX7_correct_r9)))))))) ++ wsX70 ++ wsX00 ++ wsX10 ++ wsJx4a65c0 ++ wsX60 ++ wsX20 ++ wsX30 ++ (vx_atS RX7 175 "java/lang/IllegalStateException" ["java/lang/RuntimeException", "java/lang/Exception"]).filter goodWord ++ (vx_atS RX7 58 "java/lang/IllegalArgumentException" ["java/lang/RuntimeException", "java/lang/Exception"]).filter goodWord)
def wsX7_line_r1 : List Cond := [Cond.classLink RX7 193 "java/util/NoSuchElementException", Cond.initialized "java/util/NoSuchElementException", Cond.classLink RX7 54 "java/lang/IllegalArgumentException", Cond.initialized "java/lang/IllegalArgumentException", Cond.fieldLink RX7 39 "StorageCharge" "bills" "LStorageCharge$Bills;", Cond.methodLink RX7 86 yX7_checkOwner, Cond.static yX7_checkOwner, Cond.initialized RX7, Cond.code yX7_checkOwner cX7_checkOwner 1 none, Cond.methodLink RX7 50 yX7_isWithin, Cond.static yX7_isWithin, Cond.code yX7_isWithin cX7_isWithin 3 (some .boolean), Cond.methodLink RX7 189 yX1_find, Cond.instanceMethod yX1_find, Cond.selects RX1 yX1_find yX1_find, Cond.initialized RX1, Cond.code yX1_find cX1_find 6 (some (.object "StorageCharge$BillLine")), Cond.fieldLink RX1 12 "StorageCharge$Bills" "lines" "Ljava/util/ArrayList;", Cond.classLink RX1 30 "StorageCharge$BillLine", Cond.methodLink RX1 18 yJx4a65c_size_8abf5, Cond.instanceMethod yJx4a65c_size_8abf5, Cond.selects RJx4a65c yJx4a65c_size_8abf5 yJx4a65c_size_8abf5, Cond.initialized RJx4a65c, Cond.code yJx4a65c_size_8abf5 cJx4a65c_size_8abf5 1 (some .int)]
def wsX7_line_r2 : List Cond := [Cond.fieldLink RJx4a65c 48 "java/util/ArrayList" "size" "I", Cond.methodLink RX1 26 yJx4a65c_get_915e3, Cond.instanceMethod yJx4a65c_get_915e3, Cond.selects RJx4a65c yJx4a65c_get_915e3 yJx4a65c_get_915e3, Cond.code yJx4a65c_get_915e3 cJx4a65c_get_915e3 2 (some (.object "java/lang/Object")), Cond.methodLink RJx4a65c 118 yJ15_checkIndex_7cf53, Cond.static yJ15_checkIndex_7cf53, Cond.initialized RJ15, Cond.code yJ15_checkIndex_7cf53 cJ15_checkIndex_7cf53 2 (some .int), Cond.methodLink RJ15 105 yJ3_checkIndex_8e157, Cond.static yJ3_checkIndex_8e157, Cond.initialized RJ3, Cond.code yJ3_checkIndex_8e157 cJ3_checkIndex_8e157 3 (some .int), Cond.methodLink RJx4a65c 123 yJx4a65c_elementData_915e3, Cond.instanceMethod yJx4a65c_elementData_915e3, Cond.selects RJx4a65c yJx4a65c_elementData_915e3 yJx4a65c_elementData_915e3, Cond.code yJx4a65c_elementData_915e3 cJx4a65c_elementData_915e3 2 (some (.object "java/lang/Object")), Cond.fieldLink RJx4a65c 9 "java/util/ArrayList" "elementData" "[Ljava/lang/Object;"]
def wsX7_line : List Cond := .code yX7_line cX7_line 5 (some .int) :: ((wsX7_line_r1 ++ wsX7_line_r2) ++ wsX70 ++ wsX00 ++ wsX10 ++ wsJx4a65c0 ++ (vx_atS RX7 197 "java/util/NoSuchElementException" ["java/lang/RuntimeException", "java/lang/Exception"]).filter goodWord ++ (vx_atS RX7 58 "java/lang/IllegalArgumentException" ["java/lang/RuntimeException", "java/lang/Exception"]).filter goodWord)
def wsX7_billed_r1 : List Cond := [Cond.fieldLink RX7 39 "StorageCharge" "bills" "LStorageCharge$Bills;", Cond.methodLink RX7 86 yX7_checkOwner, Cond.static yX7_checkOwner, Cond.initialized RX7, Cond.code yX7_checkOwner cX7_checkOwner 1 none, Cond.classLink RX7 54 "java/lang/IllegalArgumentException", Cond.initialized "java/lang/IllegalArgumentException", Cond.methodLink RX7 50 yX7_isWithin, Cond.static yX7_isWithin, Cond.code yX7_isWithin cX7_isWithin 3 (some .boolean), Cond.methodLink RX7 210 yX1_centsOfOwner, Cond.instanceMethod yX1_centsOfOwner, Cond.selects RX1 yX1_centsOfOwner yX1_centsOfOwner, Cond.initialized RX1, Cond.code yX1_centsOfOwner cX1_centsOfOwner 5 (some .int), Cond.fieldLink RX1 12 "StorageCharge$Bills" "lines" "Ljava/util/ArrayList;", Cond.classLink RX1 30 "StorageCharge$BillLine", Cond.methodLink RX1 18 yJx4a65c_size_8abf5, Cond.instanceMethod yJx4a65c_size_8abf5, Cond.selects RJx4a65c yJx4a65c_size_8abf5 yJx4a65c_size_8abf5, Cond.initialized RJx4a65c, Cond.code yJx4a65c_size_8abf5 cJx4a65c_size_8abf5 1 (some .int), Cond.fieldLink RJx4a65c 48 "java/util/ArrayList" "size" "I", Cond.methodLink RX1 26 yJx4a65c_get_915e3]
def wsX7_billed_r2 : List Cond := [Cond.instanceMethod yJx4a65c_get_915e3, Cond.selects RJx4a65c yJx4a65c_get_915e3 yJx4a65c_get_915e3, Cond.code yJx4a65c_get_915e3 cJx4a65c_get_915e3 2 (some (.object "java/lang/Object")), Cond.methodLink RJx4a65c 118 yJ15_checkIndex_7cf53, Cond.static yJ15_checkIndex_7cf53, Cond.initialized RJ15, Cond.code yJ15_checkIndex_7cf53 cJ15_checkIndex_7cf53 2 (some .int), Cond.methodLink RJ15 105 yJ3_checkIndex_8e157, Cond.static yJ3_checkIndex_8e157, Cond.initialized RJ3, Cond.code yJ3_checkIndex_8e157 cJ3_checkIndex_8e157 3 (some .int), Cond.methodLink RJx4a65c 123 yJx4a65c_elementData_915e3, Cond.instanceMethod yJx4a65c_elementData_915e3, Cond.selects RJx4a65c yJx4a65c_elementData_915e3 yJx4a65c_elementData_915e3, Cond.code yJx4a65c_elementData_915e3 cJx4a65c_elementData_915e3 2 (some (.object "java/lang/Object")), Cond.fieldLink RJx4a65c 9 "java/util/ArrayList" "elementData" "[Ljava/lang/Object;"]
def wsX7_billed : List Cond := .code yX7_billed cX7_billed 2 (some .int) :: ((wsX7_billed_r1 ++ wsX7_billed_r2) ++ wsX70 ++ wsX10 ++ wsX00 ++ wsJx4a65c0 ++ (vx_atS RX7 58 "java/lang/IllegalArgumentException" ["java/lang/RuntimeException", "java/lang/Exception"]).filter goodWord)
def wsX7_compare_r1 : List Cond := [Cond.methodLink RX7 86 yX7_checkOwner, Cond.static yX7_checkOwner, Cond.initialized RX7, Cond.code yX7_checkOwner cX7_checkOwner 1 none, Cond.classLink RX7 54 "java/lang/IllegalArgumentException", Cond.initialized "java/lang/IllegalArgumentException", Cond.methodLink RX7 50 yX7_isWithin, Cond.static yX7_isWithin, Cond.code yX7_isWithin cX7_isWithin 3 (some .boolean), Cond.methodLink RX7 149 yX7_checkMonth, Cond.static yX7_checkMonth, Cond.code yX7_checkMonth cX7_checkMonth 1 none, Cond.methodLink RX7 152 yX7_sumBy, Cond.instanceMethod yX7_sumBy, Cond.selects RX7 yX7_sumBy yX7_sumBy, Cond.code yX7_sumBy cX7_sumBy 5 (some .int), Cond.fieldLink RX7 19 "StorageCharge" "charges" "LStorageCharge$Charges;", Cond.methodLink RX7 286 Lib.Math.max.name, Cond.static Lib.Math.max.name, Cond.initialized "java/lang/Math", Cond.code Lib.Math.max.name Lib.Math.max.code 2 (some .int), Cond.methodLink RX7 164 yX7_storageBy, Cond.instanceMethod yX7_storageBy, Cond.selects RX7 yX7_storageBy yX7_storageBy]
def wsX7_compare_r2 : List Cond := [Cond.code yX7_storageBy cX7_storageBy 7 (some .int), Cond.fieldLink RX7 29 "StorageCharge" "units" "Ljava/util/ArrayList;", Cond.classLink RX7 100 "StorageCharge$Unit", Cond.methodLink RX7 95 yJx4a65c_size_8abf5, Cond.instanceMethod yJx4a65c_size_8abf5, Cond.selects RJx4a65c yJx4a65c_size_8abf5 yJx4a65c_size_8abf5, Cond.initialized RJx4a65c, Cond.code yJx4a65c_size_8abf5 cJx4a65c_size_8abf5 1 (some .int), Cond.fieldLink RJx4a65c 48 "java/util/ArrayList" "size" "I", Cond.methodLink RX7 111 yJx4a65c_get_915e3, Cond.instanceMethod yJx4a65c_get_915e3, Cond.selects RJx4a65c yJx4a65c_get_915e3 yJx4a65c_get_915e3, Cond.code yJx4a65c_get_915e3 cJx4a65c_get_915e3 2 (some (.object "java/lang/Object")), Cond.methodLink RJx4a65c 118 yJ15_checkIndex_7cf53, Cond.static yJ15_checkIndex_7cf53, Cond.initialized RJ15, Cond.code yJ15_checkIndex_7cf53 cJ15_checkIndex_7cf53 2 (some .int), Cond.methodLink RJ15 105 yJ3_checkIndex_8e157, Cond.static yJ3_checkIndex_8e157, Cond.initialized RJ3, Cond.code yJ3_checkIndex_8e157 cJ3_checkIndex_8e157 3 (some .int), Cond.methodLink RJx4a65c 123 yJx4a65c_elementData_915e3, Cond.instanceMethod yJx4a65c_elementData_915e3, Cond.selects RJx4a65c yJx4a65c_elementData_915e3 yJx4a65c_elementData_915e3]
def wsX7_compare_r3 : List Cond := [Cond.code yJx4a65c_elementData_915e3 cJx4a65c_elementData_915e3 2 (some (.object "java/lang/Object")), Cond.fieldLink RJx4a65c 9 "java/util/ArrayList" "elementData" "[Ljava/lang/Object;", Cond.methodLink RX7 292 yX7_storageOfUnit, Cond.instanceMethod yX7_storageOfUnit, Cond.selects RX7 yX7_storageOfUnit yX7_storageOfUnit, Cond.code yX7_storageOfUnit cX7_storageOfUnit 8 (some .int), Cond.methodLink RX7 311 Lib.Math.min.name, Cond.static Lib.Math.min.name, Cond.code Lib.Math.min.name Lib.Math.min.code 2 (some .int), Cond.methodLink RX7 299 yX7_firstDayOf, Cond.static yX7_firstDayOf, Cond.code yX7_firstDayOf cX7_firstDayOf 1 (some .int), Cond.methodLink RX7 305 yX7_lastDayOf, Cond.static yX7_lastDayOf, Cond.code yX7_lastDayOf cX7_lastDayOf 1 (some .int), Cond.methodLink RX7 314 yX6_kindOn, Cond.instanceMethod yX6_kindOn, Cond.selects RX6 yX6_kindOn yX6_kindOn, Cond.initialized RX6, Cond.code yX6_kindOn cX6_kindOn 4 (some .int), Cond.fieldLink RX6 19 "StorageCharge$Unit" "toldKinds" "[I", Cond.fieldLink RX6 26 "StorageCharge$Unit" "told" "I", Cond.fieldLink RX6 23 "StorageCharge$Unit" "toldDays" "[I", Cond.methodLink RX6 45 Lib.Math.max.name]
def wsX7_compare_r4 : List Cond := [Cond.methodLink RX7 317 yX2_storageCents, Cond.instanceMethod yX2_storageCents, Cond.selects RX2 yX2_storageCents yX2_storageCents, Cond.initialized RX2, Cond.code yX2_storageCents cX2_storageCents 3 (some .int), Cond.fieldLink RX2 9 "StorageCharge$Charges" "storage" "[I", Cond.methodLink RX2 57 yX2_place, Cond.static yX2_place, Cond.code yX2_place cX2_place 2 (some .int), Cond.methodLink RX2 72 yX2_toldOrZero, Cond.static yX2_toldOrZero, Cond.code yX2_toldOrZero cX2_toldOrZero 2 (some .int), Cond.methodLink RX7 156 yX7_unitDays, Cond.instanceMethod yX7_unitDays, Cond.selects RX7 yX7_unitDays yX7_unitDays, Cond.code yX7_unitDays cX7_unitDays 6 (some .int), Cond.methodLink RX7 132 yX6_daysThere, Cond.instanceMethod yX6_daysThere, Cond.selects RX6 yX6_daysThere yX6_daysThere, Cond.code yX6_daysThere cX6_daysThere 3 (some .int), Cond.fieldLink RX6 9 "StorageCharge$Unit" "lastDay" "I", Cond.methodLink RX6 39 Lib.Math.min.name, Cond.fieldLink RX6 32 "StorageCharge$Unit" "firstDay" "I", Cond.methodLink RX7 296 yX2_percentFor]
def wsX7_compare_r5 : List Cond := [Cond.instanceMethod yX2_percentFor, Cond.selects RX2 yX2_percentFor yX2_percentFor, Cond.code yX2_percentFor cX2_percentFor 6 (some .int), Cond.fieldLink RX2 30 "StorageCharge$Charges" "discounts" "I", Cond.fieldLink RX2 21 "StorageCharge$Charges" "discountOwners" "[I", Cond.fieldLink RX2 24 "StorageCharge$Charges" "discountDays" "[I", Cond.fieldLink RX2 27 "StorageCharge$Charges" "discountPercents" "[I", Cond.methodLink RX7 280 yX7_handlingBy, Cond.instanceMethod yX7_handlingBy, Cond.selects RX7 yX7_handlingBy yX7_handlingBy, Cond.code yX7_handlingBy cX7_handlingBy 7 (some .int), Cond.fieldLink RX7 33 "StorageCharge" "moves" "Ljava/util/ArrayList;", Cond.classLink RX7 140 "StorageCharge$Move", Cond.methodLink RX7 329 yX2_handlingCents, Cond.instanceMethod yX2_handlingCents, Cond.selects RX2 yX2_handlingCents yX2_handlingCents, Cond.code yX2_handlingCents cX2_handlingCents 3 (some .int), Cond.fieldLink RX2 15 "StorageCharge$Charges" "handling" "[I", Cond.methodLink RX7 283 yX2_minimumOf, Cond.instanceMethod yX2_minimumOf, Cond.selects RX2 yX2_minimumOf yX2_minimumOf, Cond.code yX2_minimumOf cX2_minimumOf 2 (some .int), Cond.fieldLink RX2 18 "StorageCharge$Charges" "minimum" "[I"]
def wsX7_compare : List Cond := .code yX7_compare cX7_compare 4 (some .int) :: ((wsX7_compare_r1 ++ (wsX7_compare_r2 ++ (wsX7_compare_r3 ++ (wsX7_compare_r4 ++ wsX7_compare_r5)))) ++ wsX70 ++ wsX60 ++ wsJx4a65c0 ++ wsX20 ++ wsX30 ++ (vx_atS RX7 58 "java/lang/IllegalArgumentException" ["java/lang/RuntimeException", "java/lang/Exception"]).filter goodWord)
def wsX7_print_r1 : List Cond := [Cond.fieldLink RX7 46 "StorageCharge" "paper" "LStorageCharge$Paper;", Cond.fieldLink RX7 39 "StorageCharge" "bills" "LStorageCharge$Bills;", Cond.classLink RX7 176 "StorageCharge$BillLine", Cond.methodLink RX7 86 yX7_checkOwner, Cond.static yX7_checkOwner, Cond.initialized RX7, Cond.code yX7_checkOwner cX7_checkOwner 1 none, Cond.classLink RX7 54 "java/lang/IllegalArgumentException", Cond.initialized "java/lang/IllegalArgumentException", Cond.methodLink RX7 50 yX7_isWithin, Cond.static yX7_isWithin, Cond.code yX7_isWithin cX7_isWithin 3 (some .boolean), Cond.methodLink RX7 213 yX4_clear, Cond.instanceMethod yX4_clear, Cond.selects RX4 yX4_clear yX4_clear, Cond.initialized RX4, Cond.code yX4_clear cX4_clear 1 none, Cond.fieldLink RX4 15 "StorageCharge$Paper" "length" "I", Cond.methodLink RX7 95 yJx4a65c_size_8abf5, Cond.instanceMethod yJx4a65c_size_8abf5, Cond.selects RJx4a65c yJx4a65c_size_8abf5 yJx4a65c_size_8abf5, Cond.initialized RJx4a65c, Cond.code yJx4a65c_size_8abf5 cJx4a65c_size_8abf5 1 (some .int), Cond.fieldLink RJx4a65c 48 "java/util/ArrayList" "size" "I"]
def wsX7_print_r2 : List Cond := [Cond.methodLink RX7 111 yJx4a65c_get_915e3, Cond.instanceMethod yJx4a65c_get_915e3, Cond.selects RJx4a65c yJx4a65c_get_915e3 yJx4a65c_get_915e3, Cond.code yJx4a65c_get_915e3 cJx4a65c_get_915e3 2 (some (.object "java/lang/Object")), Cond.methodLink RJx4a65c 118 yJ15_checkIndex_7cf53, Cond.static yJ15_checkIndex_7cf53, Cond.initialized RJ15, Cond.code yJ15_checkIndex_7cf53 cJ15_checkIndex_7cf53 2 (some .int), Cond.methodLink RJ15 105 yJ3_checkIndex_8e157, Cond.static yJ3_checkIndex_8e157, Cond.initialized RJ3, Cond.code yJ3_checkIndex_8e157 cJ3_checkIndex_8e157 3 (some .int), Cond.methodLink RJx4a65c 123 yJx4a65c_elementData_915e3, Cond.instanceMethod yJx4a65c_elementData_915e3, Cond.selects RJx4a65c yJx4a65c_elementData_915e3 yJx4a65c_elementData_915e3, Cond.code yJx4a65c_elementData_915e3 cJx4a65c_elementData_915e3 2 (some (.object "java/lang/Object")), Cond.fieldLink RJx4a65c 9 "java/util/ArrayList" "elementData" "[Ljava/lang/Object;", Cond.methodLink RX7 220 yX4_write, Cond.instanceMethod yX4_write, Cond.selects RX4 yX4_write yX4_write, Cond.code yX4_write cX4_write 2 none, Cond.methodLink RX4 25 yX4_put, Cond.instanceMethod yX4_put, Cond.selects RX4 yX4_put yX4_put]
def wsX7_print_r3 : List Cond := [Cond.code yX4_put cX4_put 2 none, Cond.fieldLink RX4 9 "StorageCharge$Paper" "signs" "[C", Cond.methodLink RX4 32 yX4_putNumber, Cond.instanceMethod yX4_putNumber, Cond.selects RX4 yX4_putNumber yX4_putNumber, Cond.code yX4_putNumber cX4_putNumber 6 none, Cond.methodLink RX4 38 Lib.MathLoose.abs_long.x, Cond.static Lib.MathLoose.abs_long.x, Cond.initialized "java/lang/Math", Cond.code Lib.MathLoose.abs_long.x Lib.MathLoose.abs_long.code 2 (some .long), Cond.constantLong RX4 44 (1000000000), Cond.constantLong RX4 46 (48), Cond.constantLong RX4 48 (10)]
def wsX7_print : List Cond := .code yX7_print cX7_print 4 (some .int) :: ((wsX7_print_r1 ++ (wsX7_print_r2 ++ wsX7_print_r3)) ++ wsX70 ++ wsX10 ++ wsX00 ++ wsX40 ++ wsJx4a65c0 ++ (vx_atS RX7 58 "java/lang/IllegalArgumentException" ["java/lang/RuntimeException", "java/lang/Exception"]).filter goodWord)
def wsX7_at : List Cond := .code yX7_at cX7_at 2 (some .int) :: ([.fieldLink RX7 46 "StorageCharge" "paper" "LStorageCharge$Paper;", .classLink RX7 224 RJx00060, .instantiable RJx00060 6, .initialized RJx00060, .methodLink RX7 50 yX7_isWithin, .static yX7_isWithin, .initialized RX7, .code yX7_isWithin cX7_isWithin 3 (some .boolean)] ++ wsX70 ++ wsX40 ++ wsJx000600)
def wsX7_unitsStillThere_r1 : List Cond := [Cond.fieldLink RX7 29 "StorageCharge" "units" "Ljava/util/ArrayList;", Cond.classLink RX7 100 "StorageCharge$Unit", Cond.methodLink RX7 95 yJx4a65c_size_8abf5, Cond.instanceMethod yJx4a65c_size_8abf5, Cond.selects RJx4a65c yJx4a65c_size_8abf5 yJx4a65c_size_8abf5, Cond.initialized RJx4a65c, Cond.code yJx4a65c_size_8abf5 cJx4a65c_size_8abf5 1 (some .int), Cond.fieldLink RJx4a65c 48 "java/util/ArrayList" "size" "I", Cond.methodLink RX7 111 yJx4a65c_get_915e3, Cond.instanceMethod yJx4a65c_get_915e3, Cond.selects RJx4a65c yJx4a65c_get_915e3 yJx4a65c_get_915e3, Cond.code yJx4a65c_get_915e3 cJx4a65c_get_915e3 2 (some (.object "java/lang/Object")), Cond.methodLink RJx4a65c 118 yJ15_checkIndex_7cf53, Cond.static yJ15_checkIndex_7cf53, Cond.initialized RJ15, Cond.code yJ15_checkIndex_7cf53 cJ15_checkIndex_7cf53 2 (some .int), Cond.methodLink RJ15 105 yJ3_checkIndex_8e157, Cond.static yJ3_checkIndex_8e157, Cond.initialized RJ3, Cond.code yJ3_checkIndex_8e157 cJ3_checkIndex_8e157 3 (some .int), Cond.methodLink RJx4a65c 123 yJx4a65c_elementData_915e3, Cond.instanceMethod yJx4a65c_elementData_915e3, Cond.selects RJx4a65c yJx4a65c_elementData_915e3 yJx4a65c_elementData_915e3, Cond.code yJx4a65c_elementData_915e3 cJx4a65c_elementData_915e3 2 (some (.object "java/lang/Object"))]
def wsX7_unitsStillThere_r2 : List Cond := [Cond.fieldLink RJx4a65c 9 "java/util/ArrayList" "elementData" "[Ljava/lang/Object;"]
def wsX7_unitsStillThere : List Cond := .code yX7_unitsStillThere cX7_unitsStillThere 3 (some .int) :: ((wsX7_unitsStillThere_r1 ++ wsX7_unitsStillThere_r2) ++ wsX70 ++ wsX60 ++ wsJx4a65c0)
def wsX7_count_r1 : List Cond := [Cond.fieldLink RX7 10 "StorageCharge" "text" "LStorageCharge$Text;", Cond.fieldLink RX7 19 "StorageCharge" "charges" "LStorageCharge$Charges;", Cond.fieldLink RX7 29 "StorageCharge" "units" "Ljava/util/ArrayList;", Cond.fieldLink RX7 33 "StorageCharge" "moves" "Ljava/util/ArrayList;", Cond.fieldLink RX7 46 "StorageCharge" "paper" "LStorageCharge$Paper;", Cond.methodLink RX7 95 yJx4a65c_size_8abf5, Cond.instanceMethod yJx4a65c_size_8abf5, Cond.selects RJx4a65c yJx4a65c_size_8abf5 yJx4a65c_size_8abf5, Cond.initialized RJx4a65c, Cond.code yJx4a65c_size_8abf5 cJx4a65c_size_8abf5 1 (some .int), Cond.fieldLink RJx4a65c 48 "java/util/ArrayList" "size" "I", Cond.methodLink RX7 235 yX7_unitsStillThere, Cond.instanceMethod yX7_unitsStillThere, Cond.selects RX7 yX7_unitsStillThere yX7_unitsStillThere, Cond.initialized RX7, Cond.code yX7_unitsStillThere cX7_unitsStillThere 3 (some .int), Cond.classLink RX7 100 "StorageCharge$Unit", Cond.methodLink RX7 111 yJx4a65c_get_915e3, Cond.instanceMethod yJx4a65c_get_915e3, Cond.selects RJx4a65c yJx4a65c_get_915e3 yJx4a65c_get_915e3, Cond.code yJx4a65c_get_915e3 cJx4a65c_get_915e3 2 (some (.object "java/lang/Object")), Cond.methodLink RJx4a65c 118 yJ15_checkIndex_7cf53, Cond.static yJ15_checkIndex_7cf53, Cond.initialized RJ15]
def wsX7_count_r2 : List Cond := [Cond.code yJ15_checkIndex_7cf53 cJ15_checkIndex_7cf53 2 (some .int), Cond.methodLink RJ15 105 yJ3_checkIndex_8e157, Cond.static yJ3_checkIndex_8e157, Cond.initialized RJ3, Cond.code yJ3_checkIndex_8e157 cJ3_checkIndex_8e157 3 (some .int), Cond.methodLink RJx4a65c 123 yJx4a65c_elementData_915e3, Cond.instanceMethod yJx4a65c_elementData_915e3, Cond.selects RJx4a65c yJx4a65c_elementData_915e3 yJx4a65c_elementData_915e3, Cond.code yJx4a65c_elementData_915e3 cJx4a65c_elementData_915e3 2 (some (.object "java/lang/Object")), Cond.fieldLink RJx4a65c 9 "java/util/ArrayList" "elementData" "[Ljava/lang/Object;"]
def wsX7_count : List Cond := .code yX7_count cX7_count 2 (some .int) :: ((wsX7_count_r1 ++ wsX7_count_r2) ++ wsX70 ++ wsX50 ++ wsX20 ++ wsX40 ++ wsJx4a65c0 ++ wsX60)
def wsX8_init_r1 : List Cond := [Cond.methodLink RX8 1 objectInit, Cond.instanceMethod objectInit, Cond.code objectInit ⟨#[0xb1]⟩ 1 none, Cond.arrayClass .int, Cond.fieldLink RX8 7 "StorageChargeModel" "text" "[I", Cond.fieldLink RX8 13 "StorageChargeModel" "letter" "[I", Cond.fieldLink RX8 16 "StorageChargeModel" "lineOwner" "[I", Cond.fieldLink RX8 19 "StorageChargeModel" "what" "[I", Cond.fieldLink RX8 22 "StorageChargeModel" "much" "[I", Cond.fieldLink RX8 25 "StorageChargeModel" "newLetter" "[I", Cond.fieldLink RX8 28 "StorageChargeModel" "newOwner" "[I", Cond.fieldLink RX8 31 "StorageChargeModel" "newWhat" "[I", Cond.fieldLink RX8 34 "StorageChargeModel" "newMuch" "[I", Cond.fieldLink RX8 37 "StorageChargeModel" "unitOwner" "[I", Cond.fieldLink RX8 40 "StorageChargeModel" "from" "[I", Cond.fieldLink RX8 43 "StorageChargeModel" "to" "[I", Cond.fieldLink RX8 46 "StorageChargeModel" "told" "[I", Cond.fieldLink RX8 49 "StorageChargeModel" "toldDay" "[I", Cond.fieldLink RX8 52 "StorageChargeModel" "toldKind" "[I", Cond.fieldLink RX8 55 "StorageChargeModel" "moveOwner" "[I", Cond.fieldLink RX8 58 "StorageChargeModel" "moveKind" "[I", Cond.fieldLink RX8 61 "StorageChargeModel" "moveDay" "[I", Cond.fieldLink RX8 64 "StorageChargeModel" "pieces" "[I", Cond.fieldLink RX8 67 "StorageChargeModel" "rowOwner" "[I"]
def wsX8_init_r2 : List Cond := [Cond.fieldLink RX8 70 "StorageChargeModel" "rowMonth" "[I", Cond.fieldLink RX8 73 "StorageChargeModel" "rowCents" "[I", Cond.arrayClass .boolean, Cond.fieldLink RX8 76 "StorageChargeModel" "rowCorrects" "[Z", Cond.fieldLink RX8 80 "StorageChargeModel" "isBilled" "[Z", Cond.fieldLink RX8 83 "StorageChargeModel" "print" "[I"]
def wsX8_init : List Cond := .code yX8_init cX8_init 1 none :: ((wsX8_init_r1 ++ wsX8_init_r2) ++ wsX80)
def wsX8_thrown : List Cond := .code yX8_thrown cX8_thrown 1 (some .int) :: ([.fieldLink RX8 86 "StorageChargeModel" "code" "I"] ++ wsX80)
def wsX8_in : List Cond := .code yX8_in cX8_in 3 (some .boolean) :: ([])
def wsX8_isOwner : List Cond := .code yX8_isOwner cX8_isOwner 1 (some .boolean) :: ([.methodLink RX8 90 yX8_in, .static yX8_in, .initialized RX8, .code yX8_in cX8_in 3 (some .boolean)])
def wsX8_isMonth : List Cond := .code yX8_isMonth cX8_isMonth 1 (some .boolean) :: ([.methodLink RX8 90 yX8_in, .static yX8_in, .initialized RX8, .code yX8_in cX8_in 3 (some .boolean)])
def wsX8_isDay : List Cond := .code yX8_isDay cX8_isDay 1 (some .boolean) :: ([.methodLink RX8 90 yX8_in, .static yX8_in, .initialized RX8, .code yX8_in cX8_in 3 (some .boolean)])
def wsX8_isKind : List Cond := .code yX8_isKind cX8_isKind 1 (some .boolean) :: ([.methodLink RX8 90 yX8_in, .static yX8_in, .initialized RX8, .code yX8_in cX8_in 3 (some .boolean)])
def wsX8_sign : List Cond := .code yX8_sign cX8_sign 2 (some .int) :: ([.fieldLink RX8 94 "StorageChargeModel" "signs" "I", .fieldLink RX8 86 "StorageChargeModel" "code" "I", .fieldLink RX8 7 "StorageChargeModel" "text" "[I", .methodLink RX8 90 yX8_in, .static yX8_in, .initialized RX8, .code yX8_in cX8_in 3 (some .boolean)] ++ wsX80)
def wsX8_next : List Cond := .code yX8_next cX8_next 1 (some .int) :: ([.fieldLink RX8 97 "StorageChargeModel" "at" "I", .fieldLink RX8 94 "StorageChargeModel" "signs" "I", .fieldLink RX8 7 "StorageChargeModel" "text" "[I"] ++ wsX80)
def wsX8_number : List Cond := .code yX8_number cX8_number 3 (some .int) :: ([.fieldLink RX8 97 "StorageChargeModel" "at" "I", .methodLink RX8 100 yX8_next, .instanceMethod yX8_next, .selects RX8 yX8_next yX8_next, .initialized RX8, .code yX8_next cX8_next 1 (some .int), .fieldLink RX8 94 "StorageChargeModel" "signs" "I", .fieldLink RX8 7 "StorageChargeModel" "text" "[I", .methodLink RX8 90 yX8_in, .static yX8_in, .code yX8_in cX8_in 3 (some .boolean)] ++ wsX80)
def wsX8_isAgain : List Cond := .code yX8_isAgain cX8_isAgain 5 (some .boolean) :: ([.fieldLink RX8 104 "StorageChargeModel" "fresh" "I", .fieldLink RX8 25 "StorageChargeModel" "newLetter" "[I", .fieldLink RX8 28 "StorageChargeModel" "newOwner" "[I", .fieldLink RX8 31 "StorageChargeModel" "newWhat" "[I"] ++ wsX80)
def wsX8_line_r1 : List Cond := [Cond.fieldLink RX8 97 "StorageChargeModel" "at" "I", Cond.fieldLink RX8 104 "StorageChargeModel" "fresh" "I", Cond.fieldLink RX8 25 "StorageChargeModel" "newLetter" "[I", Cond.fieldLink RX8 28 "StorageChargeModel" "newOwner" "[I", Cond.fieldLink RX8 31 "StorageChargeModel" "newWhat" "[I", Cond.fieldLink RX8 34 "StorageChargeModel" "newMuch" "[I", Cond.methodLink RX8 100 yX8_next, Cond.instanceMethod yX8_next, Cond.selects RX8 yX8_next yX8_next, Cond.initialized RX8, Cond.code yX8_next cX8_next 1 (some .int), Cond.fieldLink RX8 94 "StorageChargeModel" "signs" "I", Cond.fieldLink RX8 7 "StorageChargeModel" "text" "[I", Cond.methodLink RX8 107 yX8_number, Cond.instanceMethod yX8_number, Cond.selects RX8 yX8_number yX8_number, Cond.code yX8_number cX8_number 3 (some .int), Cond.methodLink RX8 90 yX8_in, Cond.static yX8_in, Cond.code yX8_in cX8_in 3 (some .boolean), Cond.methodLink RX8 110 yX8_isOwner, Cond.static yX8_isOwner, Cond.code yX8_isOwner cX8_isOwner 1 (some .boolean), Cond.methodLink RX8 114 yX8_isKind]
def wsX8_line_r2 : List Cond := [Cond.static yX8_isKind, Cond.code yX8_isKind cX8_isKind 1 (some .boolean), Cond.methodLink RX8 117 yX8_isAgain, Cond.instanceMethod yX8_isAgain, Cond.selects RX8 yX8_isAgain yX8_isAgain, Cond.code yX8_isAgain cX8_isAgain 5 (some .boolean)]
def wsX8_line : List Cond := .code yX8_line cX8_line 6 (some .boolean) :: ((wsX8_line_r1 ++ wsX8_line_r2) ++ wsX80)
def wsX8_read_r1 : List Cond := [Cond.fieldLink RX8 86 "StorageChargeModel" "code" "I", Cond.fieldLink RX8 97 "StorageChargeModel" "at" "I", Cond.fieldLink RX8 104 "StorageChargeModel" "fresh" "I", Cond.fieldLink RX8 94 "StorageChargeModel" "signs" "I", Cond.fieldLink RX8 124 "StorageChargeModel" "lines" "I", Cond.fieldLink RX8 13 "StorageChargeModel" "letter" "[I", Cond.fieldLink RX8 25 "StorageChargeModel" "newLetter" "[I", Cond.fieldLink RX8 16 "StorageChargeModel" "lineOwner" "[I", Cond.fieldLink RX8 28 "StorageChargeModel" "newOwner" "[I", Cond.fieldLink RX8 19 "StorageChargeModel" "what" "[I", Cond.fieldLink RX8 31 "StorageChargeModel" "newWhat" "[I", Cond.fieldLink RX8 22 "StorageChargeModel" "much" "[I", Cond.fieldLink RX8 34 "StorageChargeModel" "newMuch" "[I", Cond.methodLink RX8 120 yX8_line, Cond.instanceMethod yX8_line, Cond.selects RX8 yX8_line yX8_line, Cond.initialized RX8, Cond.code yX8_line cX8_line 6 (some .boolean), Cond.methodLink RX8 100 yX8_next, Cond.instanceMethod yX8_next, Cond.selects RX8 yX8_next yX8_next, Cond.code yX8_next cX8_next 1 (some .int), Cond.fieldLink RX8 7 "StorageChargeModel" "text" "[I", Cond.methodLink RX8 107 yX8_number]
def wsX8_read_r2 : List Cond := [Cond.instanceMethod yX8_number, Cond.selects RX8 yX8_number yX8_number, Cond.code yX8_number cX8_number 3 (some .int), Cond.methodLink RX8 90 yX8_in, Cond.static yX8_in, Cond.code yX8_in cX8_in 3 (some .boolean), Cond.methodLink RX8 110 yX8_isOwner, Cond.static yX8_isOwner, Cond.code yX8_isOwner cX8_isOwner 1 (some .boolean), Cond.methodLink RX8 114 yX8_isKind, Cond.static yX8_isKind, Cond.code yX8_isKind cX8_isKind 1 (some .boolean), Cond.methodLink RX8 117 yX8_isAgain, Cond.instanceMethod yX8_isAgain, Cond.selects RX8 yX8_isAgain yX8_isAgain, Cond.code yX8_isAgain cX8_isAgain 5 (some .boolean)]
def wsX8_read : List Cond := .code yX8_read cX8_read 2 (some .int) :: ((wsX8_read_r1 ++ wsX8_read_r2) ++ wsX80)
def wsX8_charge : List Cond := .code yX8_charge cX8_charge 5 (some .int) :: ([.fieldLink RX8 124 "StorageChargeModel" "lines" "I", .fieldLink RX8 13 "StorageChargeModel" "letter" "[I", .fieldLink RX8 16 "StorageChargeModel" "lineOwner" "[I", .fieldLink RX8 19 "StorageChargeModel" "what" "[I", .fieldLink RX8 22 "StorageChargeModel" "much" "[I"] ++ wsX80)
def wsX8_cents : List Cond := .code yX8_cents cX8_cents 5 (some .int) :: ([.methodLink RX8 127 yX8_charge, .instanceMethod yX8_charge, .selects RX8 yX8_charge yX8_charge, .initialized RX8, .code yX8_charge cX8_charge 5 (some .int), .fieldLink RX8 124 "StorageChargeModel" "lines" "I", .fieldLink RX8 13 "StorageChargeModel" "letter" "[I", .fieldLink RX8 16 "StorageChargeModel" "lineOwner" "[I", .fieldLink RX8 19 "StorageChargeModel" "what" "[I", .fieldLink RX8 22 "StorageChargeModel" "much" "[I"] ++ wsX80)
def wsX8_unit : List Cond := .code yX8_unit cX8_unit 4 (some .int) :: ([.fieldLink RX8 134 "StorageChargeModel" "units" "I", .fieldLink RX8 86 "StorageChargeModel" "code" "I", .fieldLink RX8 37 "StorageChargeModel" "unitOwner" "[I", .fieldLink RX8 40 "StorageChargeModel" "from" "[I", .fieldLink RX8 43 "StorageChargeModel" "to" "[I", .constant RX8 137 (100000), .fieldLink RX8 46 "StorageChargeModel" "told" "[I", .fieldLink RX8 49 "StorageChargeModel" "toldDay" "[I", .fieldLink RX8 52 "StorageChargeModel" "toldKind" "[I", .methodLink RX8 110 yX8_isOwner, .static yX8_isOwner, .initialized RX8, .code yX8_isOwner cX8_isOwner 1 (some .boolean), .methodLink RX8 90 yX8_in, .static yX8_in, .code yX8_in cX8_in 3 (some .boolean), .methodLink RX8 114 yX8_isKind, .static yX8_isKind, .code yX8_isKind cX8_isKind 1 (some .boolean), .methodLink RX8 131 yX8_isDay, .static yX8_isDay, .code yX8_isDay cX8_isDay 1 (some .boolean)] ++ wsX80)
def wsX8_isUnit : List Cond := .code yX8_isUnit cX8_isUnit 2 (some .boolean) :: ([.fieldLink RX8 134 "StorageChargeModel" "units" "I", .methodLink RX8 90 yX8_in, .static yX8_in, .initialized RX8, .code yX8_in cX8_in 3 (some .boolean)] ++ wsX80)
def wsX8_isLate : List Cond := .code yX8_isLate cX8_isLate 3 (some .boolean) :: ([.fieldLink RX8 43 "StorageChargeModel" "to" "[I", .constant RX8 137 (100000), .fieldLink RX8 49 "StorageChargeModel" "toldDay" "[I", .fieldLink RX8 46 "StorageChargeModel" "told" "[I"] ++ wsX80)
def wsX8_change_r1 : List Cond := [Cond.fieldLink RX8 86 "StorageChargeModel" "code" "I", Cond.fieldLink RX8 46 "StorageChargeModel" "told" "[I", Cond.fieldLink RX8 52 "StorageChargeModel" "toldKind" "[I", Cond.fieldLink RX8 49 "StorageChargeModel" "toldDay" "[I", Cond.methodLink RX8 138 yX8_isUnit, Cond.instanceMethod yX8_isUnit, Cond.selects RX8 yX8_isUnit yX8_isUnit, Cond.initialized RX8, Cond.code yX8_isUnit cX8_isUnit 2 (some .boolean), Cond.fieldLink RX8 134 "StorageChargeModel" "units" "I", Cond.methodLink RX8 90 yX8_in, Cond.static yX8_in, Cond.code yX8_in cX8_in 3 (some .boolean), Cond.methodLink RX8 114 yX8_isKind, Cond.static yX8_isKind, Cond.code yX8_isKind cX8_isKind 1 (some .boolean), Cond.methodLink RX8 131 yX8_isDay, Cond.static yX8_isDay, Cond.code yX8_isDay cX8_isDay 1 (some .boolean), Cond.methodLink RX8 141 yX8_isLate, Cond.instanceMethod yX8_isLate, Cond.selects RX8 yX8_isLate yX8_isLate, Cond.code yX8_isLate cX8_isLate 3 (some .boolean), Cond.fieldLink RX8 43 "StorageChargeModel" "to" "[I"]
def wsX8_change_r2 : List Cond := [Cond.constant RX8 137 (100000)]
def wsX8_change : List Cond := .code yX8_change cX8_change 5 (some .boolean) :: ((wsX8_change_r1 ++ wsX8_change_r2) ++ wsX80)
def wsX8_gone : List Cond := .code yX8_gone cX8_gone 3 (some .int) :: ([.fieldLink RX8 86 "StorageChargeModel" "code" "I", .fieldLink RX8 43 "StorageChargeModel" "to" "[I", .fieldLink RX8 40 "StorageChargeModel" "from" "[I", .methodLink RX8 138 yX8_isUnit, .instanceMethod yX8_isUnit, .selects RX8 yX8_isUnit yX8_isUnit, .initialized RX8, .code yX8_isUnit cX8_isUnit 2 (some .boolean), .fieldLink RX8 134 "StorageChargeModel" "units" "I", .methodLink RX8 90 yX8_in, .static yX8_in, .code yX8_in cX8_in 3 (some .boolean), .methodLink RX8 131 yX8_isDay, .static yX8_isDay, .code yX8_isDay cX8_isDay 1 (some .boolean), .methodLink RX8 141 yX8_isLate, .instanceMethod yX8_isLate, .selects RX8 yX8_isLate yX8_isLate, .code yX8_isLate cX8_isLate 3 (some .boolean), .constant RX8 137 (100000), .fieldLink RX8 49 "StorageChargeModel" "toldDay" "[I", .fieldLink RX8 46 "StorageChargeModel" "told" "[I"] ++ wsX80)
def wsX8_move : List Cond := .code yX8_move cX8_move 7 (some .int) :: ([.fieldLink RX8 145 "StorageChargeModel" "moves" "I", .fieldLink RX8 86 "StorageChargeModel" "code" "I", .fieldLink RX8 55 "StorageChargeModel" "moveOwner" "[I", .fieldLink RX8 58 "StorageChargeModel" "moveKind" "[I", .fieldLink RX8 61 "StorageChargeModel" "moveDay" "[I", .fieldLink RX8 64 "StorageChargeModel" "pieces" "[I", .methodLink RX8 110 yX8_isOwner, .static yX8_isOwner, .initialized RX8, .code yX8_isOwner cX8_isOwner 1 (some .boolean), .methodLink RX8 90 yX8_in, .static yX8_in, .code yX8_in cX8_in 3 (some .boolean), .methodLink RX8 114 yX8_isKind, .static yX8_isKind, .code yX8_isKind cX8_isKind 1 (some .boolean), .methodLink RX8 131 yX8_isDay, .static yX8_isDay, .code yX8_isDay cX8_isDay 1 (some .boolean)] ++ wsX80)
def wsX8_kindOn : List Cond := .code yX8_kindOn cX8_kindOn 5 (some .int) :: ([.fieldLink RX8 46 "StorageChargeModel" "told" "[I", .fieldLink RX8 49 "StorageChargeModel" "toldDay" "[I", .fieldLink RX8 52 "StorageChargeModel" "toldKind" "[I"] ++ wsX80)
def wsX8_unitDays : List Cond := .code yX8_unitDays cX8_unitDays 6 (some .int) :: ([.fieldLink RX8 134 "StorageChargeModel" "units" "I", .fieldLink RX8 37 "StorageChargeModel" "unitOwner" "[I", .fieldLink RX8 40 "StorageChargeModel" "from" "[I", .fieldLink RX8 43 "StorageChargeModel" "to" "[I", .methodLink RX8 90 yX8_in, .static yX8_in, .initialized RX8, .code yX8_in cX8_in 3 (some .boolean)] ++ wsX80)
def wsX8_storage_r1 : List Cond := [Cond.fieldLink RX8 134 "StorageChargeModel" "units" "I", Cond.fieldLink RX8 37 "StorageChargeModel" "unitOwner" "[I", Cond.fieldLink RX8 40 "StorageChargeModel" "from" "[I", Cond.fieldLink RX8 43 "StorageChargeModel" "to" "[I", Cond.fieldLink RX8 124 "StorageChargeModel" "lines" "I", Cond.fieldLink RX8 13 "StorageChargeModel" "letter" "[I", Cond.fieldLink RX8 16 "StorageChargeModel" "lineOwner" "[I", Cond.fieldLink RX8 19 "StorageChargeModel" "what" "[I", Cond.fieldLink RX8 22 "StorageChargeModel" "much" "[I", Cond.methodLink RX8 90 yX8_in, Cond.static yX8_in, Cond.initialized RX8, Cond.code yX8_in cX8_in 3 (some .boolean), Cond.methodLink RX8 148 yX8_kindOn, Cond.instanceMethod yX8_kindOn, Cond.selects RX8 yX8_kindOn yX8_kindOn, Cond.code yX8_kindOn cX8_kindOn 5 (some .int), Cond.fieldLink RX8 46 "StorageChargeModel" "told" "[I", Cond.fieldLink RX8 49 "StorageChargeModel" "toldDay" "[I", Cond.fieldLink RX8 52 "StorageChargeModel" "toldKind" "[I", Cond.methodLink RX8 152 yX8_cents, Cond.instanceMethod yX8_cents, Cond.selects RX8 yX8_cents yX8_cents, Cond.code yX8_cents cX8_cents 5 (some .int)]
def wsX8_storage_r2 : List Cond := [Cond.methodLink RX8 127 yX8_charge, Cond.instanceMethod yX8_charge, Cond.selects RX8 yX8_charge yX8_charge, Cond.code yX8_charge cX8_charge 5 (some .int), Cond.methodLink RX8 155 yX8_unitDays, Cond.instanceMethod yX8_unitDays, Cond.selects RX8 yX8_unitDays yX8_unitDays, Cond.code yX8_unitDays cX8_unitDays 6 (some .int)]
def wsX8_storage : List Cond := .code yX8_storage cX8_storage 8 (some .int) :: ((wsX8_storage_r1 ++ wsX8_storage_r2) ++ wsX80)
def wsX8_handling : List Cond := .code yX8_handling cX8_handling 6 (some .int) :: ([.fieldLink RX8 145 "StorageChargeModel" "moves" "I", .fieldLink RX8 55 "StorageChargeModel" "moveOwner" "[I", .fieldLink RX8 61 "StorageChargeModel" "moveDay" "[I", .fieldLink RX8 64 "StorageChargeModel" "pieces" "[I", .fieldLink RX8 58 "StorageChargeModel" "moveKind" "[I", .methodLink RX8 152 yX8_cents, .instanceMethod yX8_cents, .selects RX8 yX8_cents yX8_cents, .initialized RX8, .code yX8_cents cX8_cents 5 (some .int), .methodLink RX8 127 yX8_charge, .instanceMethod yX8_charge, .selects RX8 yX8_charge yX8_charge, .code yX8_charge cX8_charge 5 (some .int), .fieldLink RX8 124 "StorageChargeModel" "lines" "I", .fieldLink RX8 13 "StorageChargeModel" "letter" "[I", .fieldLink RX8 16 "StorageChargeModel" "lineOwner" "[I", .fieldLink RX8 19 "StorageChargeModel" "what" "[I", .fieldLink RX8 22 "StorageChargeModel" "much" "[I"] ++ wsX80)
def wsX8_sumOf_r1 : List Cond := [Cond.methodLink RX8 158 yX8_storage, Cond.instanceMethod yX8_storage, Cond.selects RX8 yX8_storage yX8_storage, Cond.initialized RX8, Cond.code yX8_storage cX8_storage 8 (some .int), Cond.fieldLink RX8 134 "StorageChargeModel" "units" "I", Cond.fieldLink RX8 37 "StorageChargeModel" "unitOwner" "[I", Cond.fieldLink RX8 40 "StorageChargeModel" "from" "[I", Cond.fieldLink RX8 43 "StorageChargeModel" "to" "[I", Cond.fieldLink RX8 124 "StorageChargeModel" "lines" "I", Cond.fieldLink RX8 13 "StorageChargeModel" "letter" "[I", Cond.fieldLink RX8 16 "StorageChargeModel" "lineOwner" "[I", Cond.fieldLink RX8 19 "StorageChargeModel" "what" "[I", Cond.fieldLink RX8 22 "StorageChargeModel" "much" "[I", Cond.methodLink RX8 90 yX8_in, Cond.static yX8_in, Cond.code yX8_in cX8_in 3 (some .boolean), Cond.methodLink RX8 148 yX8_kindOn, Cond.instanceMethod yX8_kindOn, Cond.selects RX8 yX8_kindOn yX8_kindOn, Cond.code yX8_kindOn cX8_kindOn 5 (some .int), Cond.fieldLink RX8 46 "StorageChargeModel" "told" "[I", Cond.fieldLink RX8 49 "StorageChargeModel" "toldDay" "[I", Cond.fieldLink RX8 52 "StorageChargeModel" "toldKind" "[I"]
def wsX8_sumOf_r2 : List Cond := [Cond.methodLink RX8 152 yX8_cents, Cond.instanceMethod yX8_cents, Cond.selects RX8 yX8_cents yX8_cents, Cond.code yX8_cents cX8_cents 5 (some .int), Cond.methodLink RX8 127 yX8_charge, Cond.instanceMethod yX8_charge, Cond.selects RX8 yX8_charge yX8_charge, Cond.code yX8_charge cX8_charge 5 (some .int), Cond.methodLink RX8 155 yX8_unitDays, Cond.instanceMethod yX8_unitDays, Cond.selects RX8 yX8_unitDays yX8_unitDays, Cond.code yX8_unitDays cX8_unitDays 6 (some .int), Cond.methodLink RX8 161 yX8_handling, Cond.instanceMethod yX8_handling, Cond.selects RX8 yX8_handling yX8_handling, Cond.code yX8_handling cX8_handling 6 (some .int), Cond.fieldLink RX8 145 "StorageChargeModel" "moves" "I", Cond.fieldLink RX8 55 "StorageChargeModel" "moveOwner" "[I", Cond.fieldLink RX8 61 "StorageChargeModel" "moveDay" "[I", Cond.fieldLink RX8 64 "StorageChargeModel" "pieces" "[I", Cond.fieldLink RX8 58 "StorageChargeModel" "moveKind" "[I"]
def wsX8_sumOf : List Cond := .code yX8_sumOf cX8_sumOf 6 (some .int) :: ((wsX8_sumOf_r1 ++ wsX8_sumOf_r2) ++ wsX80)
def wsX8_sum_r1 : List Cond := [Cond.fieldLink RX8 86 "StorageChargeModel" "code" "I", Cond.methodLink RX8 110 yX8_isOwner, Cond.static yX8_isOwner, Cond.initialized RX8, Cond.code yX8_isOwner cX8_isOwner 1 (some .boolean), Cond.methodLink RX8 90 yX8_in, Cond.static yX8_in, Cond.code yX8_in cX8_in 3 (some .boolean), Cond.methodLink RX8 164 yX8_isMonth, Cond.static yX8_isMonth, Cond.code yX8_isMonth cX8_isMonth 1 (some .boolean), Cond.methodLink RX8 167 yX8_sumOf, Cond.instanceMethod yX8_sumOf, Cond.selects RX8 yX8_sumOf yX8_sumOf, Cond.code yX8_sumOf cX8_sumOf 6 (some .int), Cond.methodLink RX8 158 yX8_storage, Cond.instanceMethod yX8_storage, Cond.selects RX8 yX8_storage yX8_storage, Cond.code yX8_storage cX8_storage 8 (some .int), Cond.fieldLink RX8 134 "StorageChargeModel" "units" "I", Cond.fieldLink RX8 37 "StorageChargeModel" "unitOwner" "[I", Cond.fieldLink RX8 40 "StorageChargeModel" "from" "[I", Cond.fieldLink RX8 43 "StorageChargeModel" "to" "[I", Cond.fieldLink RX8 124 "StorageChargeModel" "lines" "I"]
def wsX8_sum_r2 : List Cond := [Cond.fieldLink RX8 13 "StorageChargeModel" "letter" "[I", Cond.fieldLink RX8 16 "StorageChargeModel" "lineOwner" "[I", Cond.fieldLink RX8 19 "StorageChargeModel" "what" "[I", Cond.fieldLink RX8 22 "StorageChargeModel" "much" "[I", Cond.methodLink RX8 148 yX8_kindOn, Cond.instanceMethod yX8_kindOn, Cond.selects RX8 yX8_kindOn yX8_kindOn, Cond.code yX8_kindOn cX8_kindOn 5 (some .int), Cond.fieldLink RX8 46 "StorageChargeModel" "told" "[I", Cond.fieldLink RX8 49 "StorageChargeModel" "toldDay" "[I", Cond.fieldLink RX8 52 "StorageChargeModel" "toldKind" "[I", Cond.methodLink RX8 152 yX8_cents, Cond.instanceMethod yX8_cents, Cond.selects RX8 yX8_cents yX8_cents, Cond.code yX8_cents cX8_cents 5 (some .int), Cond.methodLink RX8 127 yX8_charge, Cond.instanceMethod yX8_charge, Cond.selects RX8 yX8_charge yX8_charge, Cond.code yX8_charge cX8_charge 5 (some .int), Cond.methodLink RX8 155 yX8_unitDays, Cond.instanceMethod yX8_unitDays, Cond.selects RX8 yX8_unitDays yX8_unitDays, Cond.code yX8_unitDays cX8_unitDays 6 (some .int), Cond.methodLink RX8 161 yX8_handling]
def wsX8_sum_r3 : List Cond := [Cond.instanceMethod yX8_handling, Cond.selects RX8 yX8_handling yX8_handling, Cond.code yX8_handling cX8_handling 6 (some .int), Cond.fieldLink RX8 145 "StorageChargeModel" "moves" "I", Cond.fieldLink RX8 55 "StorageChargeModel" "moveOwner" "[I", Cond.fieldLink RX8 61 "StorageChargeModel" "moveDay" "[I", Cond.fieldLink RX8 64 "StorageChargeModel" "pieces" "[I", Cond.fieldLink RX8 58 "StorageChargeModel" "moveKind" "[I"]
def wsX8_sum : List Cond := .code yX8_sum cX8_sum 3 (some .int) :: ((wsX8_sum_r1 ++ (wsX8_sum_r2 ++ wsX8_sum_r3)) ++ wsX80)
def wsX8_days : List Cond := .code yX8_days cX8_days 3 (some .int) :: ([.fieldLink RX8 86 "StorageChargeModel" "code" "I", .methodLink RX8 110 yX8_isOwner, .static yX8_isOwner, .initialized RX8, .code yX8_isOwner cX8_isOwner 1 (some .boolean), .methodLink RX8 90 yX8_in, .static yX8_in, .code yX8_in cX8_in 3 (some .boolean), .methodLink RX8 164 yX8_isMonth, .static yX8_isMonth, .code yX8_isMonth cX8_isMonth 1 (some .boolean), .methodLink RX8 155 yX8_unitDays, .instanceMethod yX8_unitDays, .selects RX8 yX8_unitDays yX8_unitDays, .code yX8_unitDays cX8_unitDays 6 (some .int), .fieldLink RX8 134 "StorageChargeModel" "units" "I", .fieldLink RX8 37 "StorageChargeModel" "unitOwner" "[I", .fieldLink RX8 40 "StorageChargeModel" "from" "[I", .fieldLink RX8 43 "StorageChargeModel" "to" "[I"] ++ wsX80)
def wsX8_average_r1 : List Cond := [Cond.fieldLink RX8 86 "StorageChargeModel" "code" "I", Cond.methodLink RX8 110 yX8_isOwner, Cond.static yX8_isOwner, Cond.initialized RX8, Cond.code yX8_isOwner cX8_isOwner 1 (some .boolean), Cond.methodLink RX8 90 yX8_in, Cond.static yX8_in, Cond.code yX8_in cX8_in 3 (some .boolean), Cond.methodLink RX8 164 yX8_isMonth, Cond.static yX8_isMonth, Cond.code yX8_isMonth cX8_isMonth 1 (some .boolean), Cond.methodLink RX8 155 yX8_unitDays, Cond.instanceMethod yX8_unitDays, Cond.selects RX8 yX8_unitDays yX8_unitDays, Cond.code yX8_unitDays cX8_unitDays 6 (some .int), Cond.fieldLink RX8 134 "StorageChargeModel" "units" "I", Cond.fieldLink RX8 37 "StorageChargeModel" "unitOwner" "[I", Cond.fieldLink RX8 40 "StorageChargeModel" "from" "[I", Cond.fieldLink RX8 43 "StorageChargeModel" "to" "[I", Cond.methodLink RX8 158 yX8_storage, Cond.instanceMethod yX8_storage, Cond.selects RX8 yX8_storage yX8_storage, Cond.code yX8_storage cX8_storage 8 (some .int), Cond.fieldLink RX8 124 "StorageChargeModel" "lines" "I"]
def wsX8_average_r2 : List Cond := [Cond.fieldLink RX8 13 "StorageChargeModel" "letter" "[I", Cond.fieldLink RX8 16 "StorageChargeModel" "lineOwner" "[I", Cond.fieldLink RX8 19 "StorageChargeModel" "what" "[I", Cond.fieldLink RX8 22 "StorageChargeModel" "much" "[I", Cond.methodLink RX8 148 yX8_kindOn, Cond.instanceMethod yX8_kindOn, Cond.selects RX8 yX8_kindOn yX8_kindOn, Cond.code yX8_kindOn cX8_kindOn 5 (some .int), Cond.fieldLink RX8 46 "StorageChargeModel" "told" "[I", Cond.fieldLink RX8 49 "StorageChargeModel" "toldDay" "[I", Cond.fieldLink RX8 52 "StorageChargeModel" "toldKind" "[I", Cond.methodLink RX8 152 yX8_cents, Cond.instanceMethod yX8_cents, Cond.selects RX8 yX8_cents yX8_cents, Cond.code yX8_cents cX8_cents 5 (some .int), Cond.methodLink RX8 127 yX8_charge, Cond.instanceMethod yX8_charge, Cond.selects RX8 yX8_charge yX8_charge, Cond.code yX8_charge cX8_charge 5 (some .int)]
def wsX8_average : List Cond := .code yX8_average cX8_average 3 (some .int) :: ((wsX8_average_r1 ++ wsX8_average_r2) ++ wsX80)
def wsX8_compare_r1 : List Cond := [Cond.fieldLink RX8 86 "StorageChargeModel" "code" "I", Cond.methodLink RX8 110 yX8_isOwner, Cond.static yX8_isOwner, Cond.initialized RX8, Cond.code yX8_isOwner cX8_isOwner 1 (some .boolean), Cond.methodLink RX8 90 yX8_in, Cond.static yX8_in, Cond.code yX8_in cX8_in 3 (some .boolean), Cond.methodLink RX8 164 yX8_isMonth, Cond.static yX8_isMonth, Cond.code yX8_isMonth cX8_isMonth 1 (some .boolean), Cond.methodLink RX8 167 yX8_sumOf, Cond.instanceMethod yX8_sumOf, Cond.selects RX8 yX8_sumOf yX8_sumOf, Cond.code yX8_sumOf cX8_sumOf 6 (some .int), Cond.methodLink RX8 158 yX8_storage, Cond.instanceMethod yX8_storage, Cond.selects RX8 yX8_storage yX8_storage, Cond.code yX8_storage cX8_storage 8 (some .int), Cond.fieldLink RX8 134 "StorageChargeModel" "units" "I", Cond.fieldLink RX8 37 "StorageChargeModel" "unitOwner" "[I", Cond.fieldLink RX8 40 "StorageChargeModel" "from" "[I", Cond.fieldLink RX8 43 "StorageChargeModel" "to" "[I", Cond.fieldLink RX8 124 "StorageChargeModel" "lines" "I"]
def wsX8_compare_r2 : List Cond := [Cond.fieldLink RX8 13 "StorageChargeModel" "letter" "[I", Cond.fieldLink RX8 16 "StorageChargeModel" "lineOwner" "[I", Cond.fieldLink RX8 19 "StorageChargeModel" "what" "[I", Cond.fieldLink RX8 22 "StorageChargeModel" "much" "[I", Cond.methodLink RX8 148 yX8_kindOn, Cond.instanceMethod yX8_kindOn, Cond.selects RX8 yX8_kindOn yX8_kindOn, Cond.code yX8_kindOn cX8_kindOn 5 (some .int), Cond.fieldLink RX8 46 "StorageChargeModel" "told" "[I", Cond.fieldLink RX8 49 "StorageChargeModel" "toldDay" "[I", Cond.fieldLink RX8 52 "StorageChargeModel" "toldKind" "[I", Cond.methodLink RX8 152 yX8_cents, Cond.instanceMethod yX8_cents, Cond.selects RX8 yX8_cents yX8_cents, Cond.code yX8_cents cX8_cents 5 (some .int), Cond.methodLink RX8 127 yX8_charge, Cond.instanceMethod yX8_charge, Cond.selects RX8 yX8_charge yX8_charge, Cond.code yX8_charge cX8_charge 5 (some .int), Cond.methodLink RX8 155 yX8_unitDays, Cond.instanceMethod yX8_unitDays, Cond.selects RX8 yX8_unitDays yX8_unitDays, Cond.code yX8_unitDays cX8_unitDays 6 (some .int), Cond.methodLink RX8 161 yX8_handling]
def wsX8_compare_r3 : List Cond := [Cond.instanceMethod yX8_handling, Cond.selects RX8 yX8_handling yX8_handling, Cond.code yX8_handling cX8_handling 6 (some .int), Cond.fieldLink RX8 145 "StorageChargeModel" "moves" "I", Cond.fieldLink RX8 55 "StorageChargeModel" "moveOwner" "[I", Cond.fieldLink RX8 61 "StorageChargeModel" "moveDay" "[I", Cond.fieldLink RX8 64 "StorageChargeModel" "pieces" "[I", Cond.fieldLink RX8 58 "StorageChargeModel" "moveKind" "[I"]
def wsX8_compare : List Cond := .code yX8_compare cX8_compare 4 (some .int) :: ((wsX8_compare_r1 ++ (wsX8_compare_r2 ++ wsX8_compare_r3)) ++ wsX80)
def wsX8_keep : List Cond := .code yX8_keep cX8_keep 5 none :: ([.fieldLink RX8 67 "StorageChargeModel" "rowOwner" "[I", .fieldLink RX8 170 "StorageChargeModel" "rows" "I", .fieldLink RX8 70 "StorageChargeModel" "rowMonth" "[I", .fieldLink RX8 73 "StorageChargeModel" "rowCents" "[I", .fieldLink RX8 76 "StorageChargeModel" "rowCorrects" "[Z"] ++ wsX80)
def wsX8_bill_r1 : List Cond := [Cond.fieldLink RX8 86 "StorageChargeModel" "code" "I", Cond.fieldLink RX8 80 "StorageChargeModel" "isBilled" "[Z", Cond.methodLink RX8 110 yX8_isOwner, Cond.static yX8_isOwner, Cond.initialized RX8, Cond.code yX8_isOwner cX8_isOwner 1 (some .boolean), Cond.methodLink RX8 90 yX8_in, Cond.static yX8_in, Cond.code yX8_in cX8_in 3 (some .boolean), Cond.methodLink RX8 164 yX8_isMonth, Cond.static yX8_isMonth, Cond.code yX8_isMonth cX8_isMonth 1 (some .boolean), Cond.methodLink RX8 167 yX8_sumOf, Cond.instanceMethod yX8_sumOf, Cond.selects RX8 yX8_sumOf yX8_sumOf, Cond.code yX8_sumOf cX8_sumOf 6 (some .int), Cond.methodLink RX8 158 yX8_storage, Cond.instanceMethod yX8_storage, Cond.selects RX8 yX8_storage yX8_storage, Cond.code yX8_storage cX8_storage 8 (some .int), Cond.fieldLink RX8 134 "StorageChargeModel" "units" "I", Cond.fieldLink RX8 37 "StorageChargeModel" "unitOwner" "[I", Cond.fieldLink RX8 40 "StorageChargeModel" "from" "[I", Cond.fieldLink RX8 43 "StorageChargeModel" "to" "[I"]
def wsX8_bill_r2 : List Cond := [Cond.fieldLink RX8 124 "StorageChargeModel" "lines" "I", Cond.fieldLink RX8 13 "StorageChargeModel" "letter" "[I", Cond.fieldLink RX8 16 "StorageChargeModel" "lineOwner" "[I", Cond.fieldLink RX8 19 "StorageChargeModel" "what" "[I", Cond.fieldLink RX8 22 "StorageChargeModel" "much" "[I", Cond.methodLink RX8 148 yX8_kindOn, Cond.instanceMethod yX8_kindOn, Cond.selects RX8 yX8_kindOn yX8_kindOn, Cond.code yX8_kindOn cX8_kindOn 5 (some .int), Cond.fieldLink RX8 46 "StorageChargeModel" "told" "[I", Cond.fieldLink RX8 49 "StorageChargeModel" "toldDay" "[I", Cond.fieldLink RX8 52 "StorageChargeModel" "toldKind" "[I", Cond.methodLink RX8 152 yX8_cents, Cond.instanceMethod yX8_cents, Cond.selects RX8 yX8_cents yX8_cents, Cond.code yX8_cents cX8_cents 5 (some .int), Cond.methodLink RX8 127 yX8_charge, Cond.instanceMethod yX8_charge, Cond.selects RX8 yX8_charge yX8_charge, Cond.code yX8_charge cX8_charge 5 (some .int), Cond.methodLink RX8 155 yX8_unitDays, Cond.instanceMethod yX8_unitDays, Cond.selects RX8 yX8_unitDays yX8_unitDays, Cond.code yX8_unitDays cX8_unitDays 6 (some .int)]
def wsX8_bill_r3 : List Cond := [Cond.methodLink RX8 161 yX8_handling, Cond.instanceMethod yX8_handling, Cond.selects RX8 yX8_handling yX8_handling, Cond.code yX8_handling cX8_handling 6 (some .int), Cond.fieldLink RX8 145 "StorageChargeModel" "moves" "I", Cond.fieldLink RX8 55 "StorageChargeModel" "moveOwner" "[I", Cond.fieldLink RX8 61 "StorageChargeModel" "moveDay" "[I", Cond.fieldLink RX8 64 "StorageChargeModel" "pieces" "[I", Cond.fieldLink RX8 58 "StorageChargeModel" "moveKind" "[I", Cond.methodLink RX8 173 yX8_keep, Cond.instanceMethod yX8_keep, Cond.selects RX8 yX8_keep yX8_keep, Cond.code yX8_keep cX8_keep 5 none, Cond.fieldLink RX8 67 "StorageChargeModel" "rowOwner" "[I", Cond.fieldLink RX8 170 "StorageChargeModel" "rows" "I", Cond.fieldLink RX8 70 "StorageChargeModel" "rowMonth" "[I", Cond.fieldLink RX8 73 "StorageChargeModel" "rowCents" "[I", Cond.fieldLink RX8 76 "StorageChargeModel" "rowCorrects" "[Z"]
def wsX8_bill : List Cond := .code yX8_bill cX8_bill 3 (some .int) :: ((wsX8_bill_r1 ++ (wsX8_bill_r2 ++ wsX8_bill_r3)) ++ wsX80)
def wsX8_correct_r1 : List Cond := [Cond.fieldLink RX8 86 "StorageChargeModel" "code" "I", Cond.fieldLink RX8 80 "StorageChargeModel" "isBilled" "[Z", Cond.fieldLink RX8 170 "StorageChargeModel" "rows" "I", Cond.fieldLink RX8 67 "StorageChargeModel" "rowOwner" "[I", Cond.fieldLink RX8 70 "StorageChargeModel" "rowMonth" "[I", Cond.fieldLink RX8 73 "StorageChargeModel" "rowCents" "[I", Cond.methodLink RX8 110 yX8_isOwner, Cond.static yX8_isOwner, Cond.initialized RX8, Cond.code yX8_isOwner cX8_isOwner 1 (some .boolean), Cond.methodLink RX8 90 yX8_in, Cond.static yX8_in, Cond.code yX8_in cX8_in 3 (some .boolean), Cond.methodLink RX8 164 yX8_isMonth, Cond.static yX8_isMonth, Cond.code yX8_isMonth cX8_isMonth 1 (some .boolean), Cond.methodLink RX8 167 yX8_sumOf, Cond.instanceMethod yX8_sumOf, Cond.selects RX8 yX8_sumOf yX8_sumOf, Cond.code yX8_sumOf cX8_sumOf 6 (some .int), Cond.methodLink RX8 158 yX8_storage, Cond.instanceMethod yX8_storage, Cond.selects RX8 yX8_storage yX8_storage, Cond.code yX8_storage cX8_storage 8 (some .int)]
def wsX8_correct_r2 : List Cond := [Cond.fieldLink RX8 134 "StorageChargeModel" "units" "I", Cond.fieldLink RX8 37 "StorageChargeModel" "unitOwner" "[I", Cond.fieldLink RX8 40 "StorageChargeModel" "from" "[I", Cond.fieldLink RX8 43 "StorageChargeModel" "to" "[I", Cond.fieldLink RX8 124 "StorageChargeModel" "lines" "I", Cond.fieldLink RX8 13 "StorageChargeModel" "letter" "[I", Cond.fieldLink RX8 16 "StorageChargeModel" "lineOwner" "[I", Cond.fieldLink RX8 19 "StorageChargeModel" "what" "[I", Cond.fieldLink RX8 22 "StorageChargeModel" "much" "[I", Cond.methodLink RX8 148 yX8_kindOn, Cond.instanceMethod yX8_kindOn, Cond.selects RX8 yX8_kindOn yX8_kindOn, Cond.code yX8_kindOn cX8_kindOn 5 (some .int), Cond.fieldLink RX8 46 "StorageChargeModel" "told" "[I", Cond.fieldLink RX8 49 "StorageChargeModel" "toldDay" "[I", Cond.fieldLink RX8 52 "StorageChargeModel" "toldKind" "[I", Cond.methodLink RX8 152 yX8_cents, Cond.instanceMethod yX8_cents, Cond.selects RX8 yX8_cents yX8_cents, Cond.code yX8_cents cX8_cents 5 (some .int), Cond.methodLink RX8 127 yX8_charge, Cond.instanceMethod yX8_charge, Cond.selects RX8 yX8_charge yX8_charge, Cond.code yX8_charge cX8_charge 5 (some .int)]
def wsX8_correct_r3 : List Cond := [Cond.methodLink RX8 155 yX8_unitDays, Cond.instanceMethod yX8_unitDays, Cond.selects RX8 yX8_unitDays yX8_unitDays, Cond.code yX8_unitDays cX8_unitDays 6 (some .int), Cond.methodLink RX8 161 yX8_handling, Cond.instanceMethod yX8_handling, Cond.selects RX8 yX8_handling yX8_handling, Cond.code yX8_handling cX8_handling 6 (some .int), Cond.fieldLink RX8 145 "StorageChargeModel" "moves" "I", Cond.fieldLink RX8 55 "StorageChargeModel" "moveOwner" "[I", Cond.fieldLink RX8 61 "StorageChargeModel" "moveDay" "[I", Cond.fieldLink RX8 64 "StorageChargeModel" "pieces" "[I", Cond.fieldLink RX8 58 "StorageChargeModel" "moveKind" "[I", Cond.methodLink RX8 173 yX8_keep, Cond.instanceMethod yX8_keep, Cond.selects RX8 yX8_keep yX8_keep, Cond.code yX8_keep cX8_keep 5 none, Cond.fieldLink RX8 76 "StorageChargeModel" "rowCorrects" "[Z"]
def wsX8_correct : List Cond := .code yX8_correct cX8_correct 5 (some .int) :: ((wsX8_correct_r1 ++ (wsX8_correct_r2 ++ wsX8_correct_r3)) ++ wsX80)
def wsX8_rowOf : List Cond := .code yX8_rowOf cX8_rowOf 5 (some .int) :: ([.fieldLink RX8 170 "StorageChargeModel" "rows" "I", .fieldLink RX8 67 "StorageChargeModel" "rowOwner" "[I"] ++ wsX80)
def wsX8_line_ : List Cond := .code yX8_line_ cX8_line_ 5 (some .int) :: ([.fieldLink RX8 86 "StorageChargeModel" "code" "I", .fieldLink RX8 70 "StorageChargeModel" "rowMonth" "[I", .fieldLink RX8 73 "StorageChargeModel" "rowCents" "[I", .fieldLink RX8 76 "StorageChargeModel" "rowCorrects" "[Z", .methodLink RX8 110 yX8_isOwner, .static yX8_isOwner, .initialized RX8, .code yX8_isOwner cX8_isOwner 1 (some .boolean), .methodLink RX8 90 yX8_in, .static yX8_in, .code yX8_in cX8_in 3 (some .boolean), .methodLink RX8 177 yX8_rowOf, .instanceMethod yX8_rowOf, .selects RX8 yX8_rowOf yX8_rowOf, .code yX8_rowOf cX8_rowOf 5 (some .int), .fieldLink RX8 170 "StorageChargeModel" "rows" "I", .fieldLink RX8 67 "StorageChargeModel" "rowOwner" "[I"] ++ wsX80)
def wsX8_billed : List Cond := .code yX8_billed cX8_billed 4 (some .int) :: ([.fieldLink RX8 86 "StorageChargeModel" "code" "I", .fieldLink RX8 170 "StorageChargeModel" "rows" "I", .fieldLink RX8 67 "StorageChargeModel" "rowOwner" "[I", .fieldLink RX8 73 "StorageChargeModel" "rowCents" "[I", .methodLink RX8 110 yX8_isOwner, .static yX8_isOwner, .initialized RX8, .code yX8_isOwner cX8_isOwner 1 (some .boolean), .methodLink RX8 90 yX8_in, .static yX8_in, .code yX8_in cX8_in 3 (some .boolean)] ++ wsX80)
def wsX8_put : List Cond := .code yX8_put cX8_put 2 none :: ([.fieldLink RX8 83 "StorageChargeModel" "print" "[I", .fieldLink RX8 180 "StorageChargeModel" "printed" "I"] ++ wsX80)
def wsX8_putNumber : List Cond := .code yX8_putNumber cX8_putNumber 4 none :: ([.methodLink RX8 183 yX8_put, .instanceMethod yX8_put, .selects RX8 yX8_put yX8_put, .initialized RX8, .code yX8_put cX8_put 2 none, .fieldLink RX8 83 "StorageChargeModel" "print" "[I", .fieldLink RX8 180 "StorageChargeModel" "printed" "I"] ++ wsX80)
def wsX8_print : List Cond := .code yX8_print cX8_print 3 (some .int) :: ([.fieldLink RX8 86 "StorageChargeModel" "code" "I", .fieldLink RX8 180 "StorageChargeModel" "printed" "I", .fieldLink RX8 170 "StorageChargeModel" "rows" "I", .fieldLink RX8 67 "StorageChargeModel" "rowOwner" "[I", .fieldLink RX8 76 "StorageChargeModel" "rowCorrects" "[Z", .fieldLink RX8 70 "StorageChargeModel" "rowMonth" "[I", .fieldLink RX8 73 "StorageChargeModel" "rowCents" "[I", .methodLink RX8 110 yX8_isOwner, .static yX8_isOwner, .initialized RX8, .code yX8_isOwner cX8_isOwner 1 (some .boolean), .methodLink RX8 90 yX8_in, .static yX8_in, .code yX8_in cX8_in 3 (some .boolean), .methodLink RX8 183 yX8_put, .instanceMethod yX8_put, .selects RX8 yX8_put yX8_put, .code yX8_put cX8_put 2 none, .fieldLink RX8 83 "StorageChargeModel" "print" "[I", .methodLink RX8 187 yX8_putNumber, .instanceMethod yX8_putNumber, .selects RX8 yX8_putNumber yX8_putNumber, .code yX8_putNumber cX8_putNumber 4 none] ++ wsX80)
def wsX8_at : List Cond := .code yX8_at cX8_at 2 (some .int) :: ([.fieldLink RX8 180 "StorageChargeModel" "printed" "I", .fieldLink RX8 86 "StorageChargeModel" "code" "I", .fieldLink RX8 83 "StorageChargeModel" "print" "[I", .methodLink RX8 90 yX8_in, .static yX8_in, .initialized RX8, .code yX8_in cX8_in 3 (some .boolean)] ++ wsX80)
def wsX8_count : List Cond := .code yX8_count cX8_count 4 (some .int) :: ([.fieldLink RX8 86 "StorageChargeModel" "code" "I", .fieldLink RX8 94 "StorageChargeModel" "signs" "I", .fieldLink RX8 124 "StorageChargeModel" "lines" "I", .fieldLink RX8 134 "StorageChargeModel" "units" "I", .fieldLink RX8 145 "StorageChargeModel" "moves" "I", .fieldLink RX8 180 "StorageChargeModel" "printed" "I", .fieldLink RX8 43 "StorageChargeModel" "to" "[I", .constant RX8 137 (100000), .fieldLink RX8 16 "StorageChargeModel" "lineOwner" "[I"] ++ wsX80)
def wsJx00060_init_a7421 : List Cond := .code yJx00060_init_a7421 cJx00060_init_a7421 2 none :: ([])
def wsJ9_abs_067f4 : List Cond := .code yJ9_abs_067f4 cJ9_abs_067f4 2 (some .long) :: ([])
def wsJ9_max_7cf53 : List Cond := .code yJ9_max_7cf53 cJ9_max_7cf53 2 (some .int) :: ([])
def wsJ9_min_7cf53 : List Cond := .code yJ9_min_7cf53 cJ9_min_7cf53 2 (some .int) :: ([])
def wsL_sign_r1 : List Cond := [Cond.classLink RL 13 "java/lang/IllegalArgumentException", Cond.classLink RL 15 "java/lang/UnsupportedOperationException", Cond.methodLink RL 7 yX7_sign, Cond.instanceMethod yX7_sign, Cond.selects RX7 yX7_sign yX7_sign, Cond.initialized RX7, Cond.code yX7_sign cX7_sign 2 (some .int), Cond.classLink RX7 54 "java/lang/IllegalArgumentException", Cond.initialized "java/lang/IllegalArgumentException", Cond.classLink RX7 65 "java/lang/UnsupportedOperationException", Cond.initialized "java/lang/UnsupportedOperationException", Cond.fieldLink RX7 10 "StorageCharge" "text" "LStorageCharge$Text;", Cond.methodLink RX7 50 yX7_isWithin, Cond.static yX7_isWithin, Cond.code yX7_isWithin cX7_isWithin 3 (some .boolean), Cond.methodLink RX7 61 yX5_isFull, Cond.instanceMethod yX5_isFull, Cond.selects RX5 yX5_isFull yX5_isFull, Cond.initialized RX5, Cond.code yX5_isFull cX5_isFull 1 (some .boolean), Cond.fieldLink RX5 15 "StorageCharge$Text" "length" "I", Cond.fieldLink RX5 9 "StorageCharge$Text" "signs" "[C", Cond.methodLink RX7 70 yX5_add, Cond.instanceMethod yX5_add]
def wsL_sign_r2 : List Cond := [Cond.selects RX5 yX5_add yX5_add, Cond.code yX5_add cX5_add 2 none, Cond.methodLink RX5 22 yX5_isFull]
def wsL_sign : List Cond := .codeWith yL_sign cL_sign 4 (some .int) [(0, 9, 12, 13), (0, 9, 15, 15)] :: ((wsL_sign_r1 ++ wsL_sign_r2) ++ wsX70 ++ wsX50 ++ (vx_atS RX7 58 "java/lang/IllegalArgumentException" ["java/lang/RuntimeException", "java/lang/Exception"]).filter goodWord ++ (vx_atS RX7 69 "java/lang/UnsupportedOperationException" ["java/lang/RuntimeException", "java/lang/Exception"]).filter goodWord)
def wsL_unit_r1 : List Cond := [Cond.classLink RL 13 "java/lang/IllegalArgumentException", Cond.classLink RL 15 "java/lang/UnsupportedOperationException", Cond.methodLink RL 17 yX7_unit, Cond.instanceMethod yX7_unit, Cond.selects RX7 yX7_unit yX7_unit, Cond.initialized RX7, Cond.code yX7_unit cX7_unit 4 (some .int), Cond.classLink RX7 65 "java/lang/UnsupportedOperationException", Cond.initialized "java/lang/UnsupportedOperationException", Cond.fieldLink RX7 29 "StorageCharge" "units" "Ljava/util/ArrayList;", Cond.classLink RX7 100 RX6, Cond.instantiable RX6 7, Cond.initialized RX6, Cond.methodLink RX7 86 yX7_checkOwner, Cond.static yX7_checkOwner, Cond.code yX7_checkOwner cX7_checkOwner 1 none, Cond.classLink RX7 54 "java/lang/IllegalArgumentException", Cond.initialized "java/lang/IllegalArgumentException", Cond.methodLink RX7 50 yX7_isWithin, Cond.static yX7_isWithin, Cond.code yX7_isWithin cX7_isWithin 3 (some .boolean), Cond.methodLink RX7 89 yX7_checkKind, Cond.static yX7_checkKind, Cond.code yX7_checkKind cX7_checkKind 1 none]
def wsL_unit_r2 : List Cond := [Cond.methodLink RX7 92 yX7_checkDay, Cond.static yX7_checkDay, Cond.code yX7_checkDay cX7_checkDay 1 none, Cond.methodLink RX7 95 yJx4a65c_size_8abf5, Cond.instanceMethod yJx4a65c_size_8abf5, Cond.selects RJx4a65c yJx4a65c_size_8abf5 yJx4a65c_size_8abf5, Cond.initialized RJx4a65c, Cond.code yJx4a65c_size_8abf5 cJx4a65c_size_8abf5 1 (some .int), Cond.fieldLink RJx4a65c 48 "java/util/ArrayList" "size" "I", Cond.methodLink RX7 102 yX6_init, Cond.instanceMethod yX6_init, Cond.code yX6_init cX6_init 4 none, Cond.methodLink RX6 3 objectInit, Cond.instanceMethod objectInit, Cond.code objectInit ⟨#[0xb1]⟩ 1 none, Cond.fieldLink RX6 9 "StorageCharge$Unit" "lastDay" "I", Cond.fieldLink RX6 15 "StorageCharge$Unit" "isGone" "Z", Cond.arrayClass .int, Cond.fieldLink RX6 19 "StorageCharge$Unit" "toldKinds" "[I", Cond.fieldLink RX6 23 "StorageCharge$Unit" "toldDays" "[I", Cond.fieldLink RX6 26 "StorageCharge$Unit" "told" "I", Cond.fieldLink RX6 29 "StorageCharge$Unit" "owner" "I", Cond.fieldLink RX6 32 "StorageCharge$Unit" "firstDay" "I", Cond.methodLink RX7 105 yJx4a65c_add_9ea2d]
def wsL_unit_r3 : List Cond := [Cond.instanceMethod yJx4a65c_add_9ea2d, Cond.selects RJx4a65c yJx4a65c_add_9ea2d yJx4a65c_add_9ea2d, Cond.code yJx4a65c_add_9ea2d cJx4a65c_add_9ea2d 2 (some .boolean), Cond.fieldLink RJx4a65c 63 "java/util/ArrayList" "modCount" "I", Cond.sameField "java/util/ArrayList" "java/util/AbstractList" "modCount" "I", Cond.fieldLink RJx4a65c 9 "java/util/ArrayList" "elementData" "[Ljava/lang/Object;", Cond.methodLink RJx4a65c 131 yJx4a65c_add_72be8, Cond.instanceMethod yJx4a65c_add_72be8, Cond.selects RJx4a65c yJx4a65c_add_72be8 yJx4a65c_add_72be8, Cond.code yJx4a65c_add_72be8 cJx4a65c_add_72be8 4 none, Cond.methodLink RJx4a65c 129 yJx4a65c_grow_d5877, Cond.instanceMethod yJx4a65c_grow_d5877, Cond.selects RJx4a65c yJx4a65c_grow_d5877 yJx4a65c_grow_d5877, Cond.code yJx4a65c_grow_d5877 cJx4a65c_grow_d5877 1 (some (.array (.object "java/lang/Object"))), Cond.methodLink RJx4a65c 69 yJx4a65c_grow_92f84, Cond.instanceMethod yJx4a65c_grow_92f84, Cond.selects RJx4a65c yJx4a65c_grow_92f84 yJx4a65c_grow_92f84, Cond.code yJx4a65c_grow_92f84 cJx4a65c_grow_92f84 4 (some (.array (.object "java/lang/Object"))), Cond.fieldLink RJx4a65c 39 "java/util/ArrayList" "DEFAULTCAPACITY_EMPTY_ELEMENTDATA" "[Ljava/lang/Object;", Cond.methodLink RJx4a65c 79 Lib.Math.max.name, Cond.static Lib.Math.max.name, Cond.initialized "java/lang/Math", Cond.code Lib.Math.max.name Lib.Math.max.code 2 (some .int), Cond.classLink RJx4a65c 7 "java/lang/Object"]
def wsL_unit_r4 : List Cond := [Cond.methodLink RJx4a65c 73 yJ8_newLength_cabcc, Cond.static yJ8_newLength_cabcc, Cond.initialized RJ8, Cond.code yJ8_newLength_cabcc cJ8_newLength_cabcc 4 (some .int), Cond.methodLink RJ8 194 Lib.Math.max.name, Cond.constant RJ8 200 (2147483639), Cond.methodLink RJ8 201 yJ8_hugeLength_7cf53, Cond.static yJ8_hugeLength_7cf53, Cond.code yJ8_hugeLength_7cf53 cJ8_hugeLength_7cf53 3 (some .int), Cond.methodLink RJx4a65c 66 yJ7_copyOf_1904c, Cond.static yJ7_copyOf_1904c, Cond.initialized RJ7, Cond.code yJ7_copyOf_1904c cJ7_copyOf_1904c 2 (some (.array (.object "java/lang/Object"))), Cond.methodLink RJ7 86 ⟨"java/lang/Object", "getClass", "()Ljava/lang/Class;"⟩, Cond.selects "[Ljava/lang/Object;" ⟨"java/lang/Object", "getClass", "()Ljava/lang/Class;"⟩ ⟨"java/lang/Object", "getClass", "()Ljava/lang/Class;"⟩, Cond.instanceMethod ⟨"java/lang/Object", "getClass", "()Ljava/lang/Class;"⟩, Cond.native ⟨"java/lang/Object", "getClass", "()Ljava/lang/Class;"⟩, Cond.methodLink RJ7 300 yJ7_copyOf_6403c, Cond.static yJ7_copyOf_6403c, Cond.code yJ7_copyOf_6403c cJ7_copyOf_6403c 4 (some (.array (.object "java/lang/Object"))), Cond.classLink RJ7 110 "[Ljava/lang/Object;", Cond.classLink RJ7 2 "java/lang/Object", Cond.methodLink RJ7 304 Lib.Math.min.name, Cond.static Lib.Math.min.name]
def wsL_unit_r5 : List Cond := [Cond.code Lib.Math.min.name Lib.Math.min.code 2 (some .int), Cond.methodLink RJ7 150 arraycopyName, Cond.native arraycopyName, Cond.static arraycopyName, Cond.initialized "java/lang/System"]
def wsL_unit : List Cond := .codeWith yL_unit cL_unit 6 (some .int) [(0, 12, 15, 13), (0, 12, 19, 15)] :: ((wsL_unit_r1 ++ (wsL_unit_r2 ++ (wsL_unit_r3 ++ (wsL_unit_r4 ++ wsL_unit_r5)))) ++ wsX70 ++ wsX60 ++ wsJx4a65c0 ++ (vx_atS RX7 69 "java/lang/UnsupportedOperationException" ["java/lang/RuntimeException", "java/lang/Exception"]).filter goodWord ++ (vx_atS RX7 58 "java/lang/IllegalArgumentException" ["java/lang/RuntimeException", "java/lang/Exception"]).filter goodWord)
def wsL_change_r1 : List Cond := [Cond.classLink RL 25 "java/util/NoSuchElementException", Cond.classLink RL 13 "java/lang/IllegalArgumentException", Cond.classLink RL 27 "java/lang/IllegalStateException", Cond.classLink RL 15 "java/lang/UnsupportedOperationException", Cond.methodLink RL 21 yX7_change, Cond.instanceMethod yX7_change, Cond.selects RX7 yX7_change yX7_change, Cond.initialized RX7, Cond.code yX7_change cX7_change 6 (some .boolean), Cond.classLink RX7 65 "java/lang/UnsupportedOperationException", Cond.initialized "java/lang/UnsupportedOperationException", Cond.fieldLink RX7 29 "StorageCharge" "units" "Ljava/util/ArrayList;", Cond.classLink RX7 100 "StorageCharge$Unit", Cond.methodLink RX7 108 yX7_checkUnit, Cond.instanceMethod yX7_checkUnit, Cond.selects RX7 yX7_checkUnit yX7_checkUnit, Cond.code yX7_checkUnit cX7_checkUnit 2 none, Cond.classLink RX7 193 "java/util/NoSuchElementException", Cond.initialized "java/util/NoSuchElementException", Cond.methodLink RX7 95 yJx4a65c_size_8abf5, Cond.instanceMethod yJx4a65c_size_8abf5, Cond.selects RJx4a65c yJx4a65c_size_8abf5 yJx4a65c_size_8abf5, Cond.initialized RJx4a65c, Cond.code yJx4a65c_size_8abf5 cJx4a65c_size_8abf5 1 (some .int)]
def wsL_change_r2 : List Cond := [Cond.fieldLink RJx4a65c 48 "java/util/ArrayList" "size" "I", Cond.methodLink RX7 50 yX7_isWithin, Cond.static yX7_isWithin, Cond.code yX7_isWithin cX7_isWithin 3 (some .boolean), Cond.methodLink RX7 89 yX7_checkKind, Cond.static yX7_checkKind, Cond.code yX7_checkKind cX7_checkKind 1 none, Cond.classLink RX7 54 "java/lang/IllegalArgumentException", Cond.initialized "java/lang/IllegalArgumentException", Cond.methodLink RX7 92 yX7_checkDay, Cond.static yX7_checkDay, Cond.code yX7_checkDay cX7_checkDay 1 none, Cond.methodLink RX7 111 yJx4a65c_get_915e3, Cond.instanceMethod yJx4a65c_get_915e3, Cond.selects RJx4a65c yJx4a65c_get_915e3 yJx4a65c_get_915e3, Cond.code yJx4a65c_get_915e3 cJx4a65c_get_915e3 2 (some (.object "java/lang/Object")), Cond.methodLink RJx4a65c 118 yJ15_checkIndex_7cf53, Cond.static yJ15_checkIndex_7cf53, Cond.initialized RJ15, Cond.code yJ15_checkIndex_7cf53 cJ15_checkIndex_7cf53 2 (some .int), Cond.methodLink RJ15 105 yJ3_checkIndex_8e157, Cond.static yJ3_checkIndex_8e157, Cond.initialized RJ3, Cond.code yJ3_checkIndex_8e157 cJ3_checkIndex_8e157 3 (some .int)]
def wsL_change_r3 : List Cond := [Cond.methodLink RJx4a65c 123 yJx4a65c_elementData_915e3, Cond.instanceMethod yJx4a65c_elementData_915e3, Cond.selects RJx4a65c yJx4a65c_elementData_915e3 yJx4a65c_elementData_915e3, Cond.code yJx4a65c_elementData_915e3 cJx4a65c_elementData_915e3 2 (some (.object "java/lang/Object")), Cond.fieldLink RJx4a65c 9 "java/util/ArrayList" "elementData" "[Ljava/lang/Object;", Cond.methodLink RX7 115 yX7_checkGoesOn, Cond.static yX7_checkGoesOn, Cond.code yX7_checkGoesOn cX7_checkGoesOn 2 none, Cond.classLink RX7 171 "java/lang/IllegalStateException", Cond.initialized "java/lang/IllegalStateException", Cond.methodLink RX7 256 yX6_dayToldLast, Cond.instanceMethod yX6_dayToldLast, Cond.selects RX6 yX6_dayToldLast yX6_dayToldLast, Cond.initialized RX6, Cond.code yX6_dayToldLast cX6_dayToldLast 1 (some .int), Cond.fieldLink RX6 23 "StorageCharge$Unit" "toldDays" "[I", Cond.fieldLink RX6 26 "StorageCharge$Unit" "told" "I", Cond.methodLink RX7 119 yX6_isFull, Cond.instanceMethod yX6_isFull, Cond.selects RX6 yX6_isFull yX6_isFull, Cond.code yX6_isFull cX6_isFull 1 (some .boolean), Cond.fieldLink RX6 19 "StorageCharge$Unit" "toldKinds" "[I", Cond.methodLink RX7 122 yX6_kindToldLast, Cond.instanceMethod yX6_kindToldLast]
def wsL_change_r4 : List Cond := [Cond.selects RX6 yX6_kindToldLast yX6_kindToldLast, Cond.code yX6_kindToldLast cX6_kindToldLast 1 (some .int), Cond.methodLink RX7 125 yX6_tell, Cond.instanceMethod yX6_tell, Cond.selects RX6 yX6_tell yX6_tell, Cond.code yX6_tell cX6_tell 3 none, Cond.methodLink RX6 35 yX6_isFull]
def wsL_change : List Cond := .codeWith yL_change cL_change 6 (some .int) [(0, 19, 22, 25), (0, 19, 26, 13), (0, 19, 30, 27), (0, 19, 34, 15)] :: ((wsL_change_r1 ++ (wsL_change_r2 ++ (wsL_change_r3 ++ wsL_change_r4))) ++ wsX70 ++ wsJx4a65c0 ++ wsX60 ++ (vx_atS RX7 69 "java/lang/UnsupportedOperationException" ["java/lang/RuntimeException", "java/lang/Exception"]).filter goodWord ++ (vx_atS RX7 197 "java/util/NoSuchElementException" ["java/lang/RuntimeException", "java/lang/Exception"]).filter goodWord ++ (vx_atS RX7 58 "java/lang/IllegalArgumentException" ["java/lang/RuntimeException", "java/lang/Exception"]).filter goodWord ++ (vx_atS RX7 175 "java/lang/IllegalStateException" ["java/lang/RuntimeException", "java/lang/Exception"]).filter goodWord)
def wsL_gone_r1 : List Cond := [Cond.classLink RL 25 "java/util/NoSuchElementException", Cond.classLink RL 13 "java/lang/IllegalArgumentException", Cond.classLink RL 27 "java/lang/IllegalStateException", Cond.methodLink RL 29 yX7_gone, Cond.instanceMethod yX7_gone, Cond.selects RX7 yX7_gone yX7_gone, Cond.initialized RX7, Cond.code yX7_gone cX7_gone 4 (some .int), Cond.fieldLink RX7 29 "StorageCharge" "units" "Ljava/util/ArrayList;", Cond.classLink RX7 100 "StorageCharge$Unit", Cond.methodLink RX7 108 yX7_checkUnit, Cond.instanceMethod yX7_checkUnit, Cond.selects RX7 yX7_checkUnit yX7_checkUnit, Cond.code yX7_checkUnit cX7_checkUnit 2 none, Cond.classLink RX7 193 "java/util/NoSuchElementException", Cond.initialized "java/util/NoSuchElementException", Cond.methodLink RX7 95 yJx4a65c_size_8abf5, Cond.instanceMethod yJx4a65c_size_8abf5, Cond.selects RJx4a65c yJx4a65c_size_8abf5 yJx4a65c_size_8abf5, Cond.initialized RJx4a65c, Cond.code yJx4a65c_size_8abf5 cJx4a65c_size_8abf5 1 (some .int), Cond.fieldLink RJx4a65c 48 "java/util/ArrayList" "size" "I", Cond.methodLink RX7 50 yX7_isWithin, Cond.static yX7_isWithin]
def wsL_gone_r2 : List Cond := [Cond.code yX7_isWithin cX7_isWithin 3 (some .boolean), Cond.methodLink RX7 92 yX7_checkDay, Cond.static yX7_checkDay, Cond.code yX7_checkDay cX7_checkDay 1 none, Cond.classLink RX7 54 "java/lang/IllegalArgumentException", Cond.initialized "java/lang/IllegalArgumentException", Cond.methodLink RX7 111 yJx4a65c_get_915e3, Cond.instanceMethod yJx4a65c_get_915e3, Cond.selects RJx4a65c yJx4a65c_get_915e3 yJx4a65c_get_915e3, Cond.code yJx4a65c_get_915e3 cJx4a65c_get_915e3 2 (some (.object "java/lang/Object")), Cond.methodLink RJx4a65c 118 yJ15_checkIndex_7cf53, Cond.static yJ15_checkIndex_7cf53, Cond.initialized RJ15, Cond.code yJ15_checkIndex_7cf53 cJ15_checkIndex_7cf53 2 (some .int), Cond.methodLink RJ15 105 yJ3_checkIndex_8e157, Cond.static yJ3_checkIndex_8e157, Cond.initialized RJ3, Cond.code yJ3_checkIndex_8e157 cJ3_checkIndex_8e157 3 (some .int), Cond.methodLink RJx4a65c 123 yJx4a65c_elementData_915e3, Cond.instanceMethod yJx4a65c_elementData_915e3, Cond.selects RJx4a65c yJx4a65c_elementData_915e3 yJx4a65c_elementData_915e3, Cond.code yJx4a65c_elementData_915e3 cJx4a65c_elementData_915e3 2 (some (.object "java/lang/Object")), Cond.fieldLink RJx4a65c 9 "java/util/ArrayList" "elementData" "[Ljava/lang/Object;", Cond.methodLink RX7 115 yX7_checkGoesOn]
def wsL_gone_r3 : List Cond := [Cond.static yX7_checkGoesOn, Cond.code yX7_checkGoesOn cX7_checkGoesOn 2 none, Cond.classLink RX7 171 "java/lang/IllegalStateException", Cond.initialized "java/lang/IllegalStateException", Cond.methodLink RX7 256 yX6_dayToldLast, Cond.instanceMethod yX6_dayToldLast, Cond.selects RX6 yX6_dayToldLast yX6_dayToldLast, Cond.initialized RX6, Cond.code yX6_dayToldLast cX6_dayToldLast 1 (some .int), Cond.fieldLink RX6 23 "StorageCharge$Unit" "toldDays" "[I", Cond.fieldLink RX6 26 "StorageCharge$Unit" "told" "I", Cond.methodLink RX7 129 yX6_leave, Cond.instanceMethod yX6_leave, Cond.selects RX6 yX6_leave yX6_leave, Cond.code yX6_leave cX6_leave 2 none, Cond.fieldLink RX6 9 "StorageCharge$Unit" "lastDay" "I", Cond.fieldLink RX6 15 "StorageCharge$Unit" "isGone" "Z", Cond.methodLink RX7 132 yX6_daysThere, Cond.instanceMethod yX6_daysThere, Cond.selects RX6 yX6_daysThere yX6_daysThere, Cond.code yX6_daysThere cX6_daysThere 3 (some .int), Cond.methodLink RX6 39 Lib.Math.min.name, Cond.static Lib.Math.min.name, Cond.initialized "java/lang/Math"]
def wsL_gone_r4 : List Cond := [Cond.code Lib.Math.min.name Lib.Math.min.code 2 (some .int), Cond.fieldLink RX6 32 "StorageCharge$Unit" "firstDay" "I", Cond.methodLink RX6 45 Lib.Math.max.name, Cond.static Lib.Math.max.name, Cond.code Lib.Math.max.name Lib.Math.max.code 2 (some .int)]
def wsL_gone : List Cond := .codeWith yL_gone cL_gone 5 (some .int) [(0, 10, 13, 25), (0, 10, 17, 13), (0, 10, 21, 27)] :: ((wsL_gone_r1 ++ (wsL_gone_r2 ++ (wsL_gone_r3 ++ wsL_gone_r4))) ++ wsX70 ++ wsJx4a65c0 ++ wsX60 ++ (vx_atS RX7 197 "java/util/NoSuchElementException" ["java/lang/RuntimeException", "java/lang/Exception"]).filter goodWord ++ (vx_atS RX7 58 "java/lang/IllegalArgumentException" ["java/lang/RuntimeException", "java/lang/Exception"]).filter goodWord ++ (vx_atS RX7 175 "java/lang/IllegalStateException" ["java/lang/RuntimeException", "java/lang/Exception"]).filter goodWord)
def wsL_move_r1 : List Cond := [Cond.classLink RL 13 "java/lang/IllegalArgumentException", Cond.classLink RL 15 "java/lang/UnsupportedOperationException", Cond.methodLink RL 33 yX7_move, Cond.instanceMethod yX7_move, Cond.selects RX7 yX7_move yX7_move, Cond.initialized RX7, Cond.code yX7_move cX7_move 5 (some .int), Cond.classLink RX7 54 "java/lang/IllegalArgumentException", Cond.initialized "java/lang/IllegalArgumentException", Cond.classLink RX7 65 "java/lang/UnsupportedOperationException", Cond.initialized "java/lang/UnsupportedOperationException", Cond.fieldLink RX7 33 "StorageCharge" "moves" "Ljava/util/ArrayList;", Cond.classLink RX7 140 RX3, Cond.instantiable RX3 4, Cond.initialized RX3, Cond.methodLink RX7 86 yX7_checkOwner, Cond.static yX7_checkOwner, Cond.code yX7_checkOwner cX7_checkOwner 1 none, Cond.methodLink RX7 50 yX7_isWithin, Cond.static yX7_isWithin, Cond.code yX7_isWithin cX7_isWithin 3 (some .boolean), Cond.methodLink RX7 89 yX7_checkKind, Cond.static yX7_checkKind, Cond.code yX7_checkKind cX7_checkKind 1 none]
def wsL_move_r2 : List Cond := [Cond.methodLink RX7 92 yX7_checkDay, Cond.static yX7_checkDay, Cond.code yX7_checkDay cX7_checkDay 1 none, Cond.methodLink RX7 95 yJx4a65c_size_8abf5, Cond.instanceMethod yJx4a65c_size_8abf5, Cond.selects RJx4a65c yJx4a65c_size_8abf5 yJx4a65c_size_8abf5, Cond.initialized RJx4a65c, Cond.code yJx4a65c_size_8abf5 cJx4a65c_size_8abf5 1 (some .int), Cond.fieldLink RJx4a65c 48 "java/util/ArrayList" "size" "I", Cond.methodLink RX7 142 yX3_init, Cond.instanceMethod yX3_init, Cond.code yX3_init cX3_init 5 none, Cond.methodLink RX3 1 objectInit, Cond.instanceMethod objectInit, Cond.code objectInit ⟨#[0xb1]⟩ 1 none, Cond.fieldLink RX3 7 "StorageCharge$Move" "owner" "I", Cond.fieldLink RX3 13 "StorageCharge$Move" "kind" "I", Cond.fieldLink RX3 16 "StorageCharge$Move" "day" "I", Cond.fieldLink RX3 19 "StorageCharge$Move" "pieces" "I", Cond.methodLink RX7 105 yJx4a65c_add_9ea2d, Cond.instanceMethod yJx4a65c_add_9ea2d, Cond.selects RJx4a65c yJx4a65c_add_9ea2d yJx4a65c_add_9ea2d, Cond.code yJx4a65c_add_9ea2d cJx4a65c_add_9ea2d 2 (some .boolean), Cond.fieldLink RJx4a65c 63 "java/util/ArrayList" "modCount" "I"]
def wsL_move_r3 : List Cond := [Cond.sameField "java/util/ArrayList" "java/util/AbstractList" "modCount" "I", Cond.fieldLink RJx4a65c 9 "java/util/ArrayList" "elementData" "[Ljava/lang/Object;", Cond.methodLink RJx4a65c 131 yJx4a65c_add_72be8, Cond.instanceMethod yJx4a65c_add_72be8, Cond.selects RJx4a65c yJx4a65c_add_72be8 yJx4a65c_add_72be8, Cond.code yJx4a65c_add_72be8 cJx4a65c_add_72be8 4 none, Cond.methodLink RJx4a65c 129 yJx4a65c_grow_d5877, Cond.instanceMethod yJx4a65c_grow_d5877, Cond.selects RJx4a65c yJx4a65c_grow_d5877 yJx4a65c_grow_d5877, Cond.code yJx4a65c_grow_d5877 cJx4a65c_grow_d5877 1 (some (.array (.object "java/lang/Object"))), Cond.methodLink RJx4a65c 69 yJx4a65c_grow_92f84, Cond.instanceMethod yJx4a65c_grow_92f84, Cond.selects RJx4a65c yJx4a65c_grow_92f84 yJx4a65c_grow_92f84, Cond.code yJx4a65c_grow_92f84 cJx4a65c_grow_92f84 4 (some (.array (.object "java/lang/Object"))), Cond.fieldLink RJx4a65c 39 "java/util/ArrayList" "DEFAULTCAPACITY_EMPTY_ELEMENTDATA" "[Ljava/lang/Object;", Cond.methodLink RJx4a65c 79 Lib.Math.max.name, Cond.static Lib.Math.max.name, Cond.initialized "java/lang/Math", Cond.code Lib.Math.max.name Lib.Math.max.code 2 (some .int), Cond.classLink RJx4a65c 7 "java/lang/Object", Cond.methodLink RJx4a65c 73 yJ8_newLength_cabcc, Cond.static yJ8_newLength_cabcc, Cond.initialized RJ8, Cond.code yJ8_newLength_cabcc cJ8_newLength_cabcc 4 (some .int)]
def wsL_move_r4 : List Cond := [Cond.methodLink RJ8 194 Lib.Math.max.name, Cond.constant RJ8 200 (2147483639), Cond.methodLink RJ8 201 yJ8_hugeLength_7cf53, Cond.static yJ8_hugeLength_7cf53, Cond.code yJ8_hugeLength_7cf53 cJ8_hugeLength_7cf53 3 (some .int), Cond.methodLink RJx4a65c 66 yJ7_copyOf_1904c, Cond.static yJ7_copyOf_1904c, Cond.initialized RJ7, Cond.code yJ7_copyOf_1904c cJ7_copyOf_1904c 2 (some (.array (.object "java/lang/Object"))), Cond.methodLink RJ7 86 ⟨"java/lang/Object", "getClass", "()Ljava/lang/Class;"⟩, Cond.selects "[Ljava/lang/Object;" ⟨"java/lang/Object", "getClass", "()Ljava/lang/Class;"⟩ ⟨"java/lang/Object", "getClass", "()Ljava/lang/Class;"⟩, Cond.instanceMethod ⟨"java/lang/Object", "getClass", "()Ljava/lang/Class;"⟩, Cond.native ⟨"java/lang/Object", "getClass", "()Ljava/lang/Class;"⟩, Cond.methodLink RJ7 300 yJ7_copyOf_6403c, Cond.static yJ7_copyOf_6403c, Cond.code yJ7_copyOf_6403c cJ7_copyOf_6403c 4 (some (.array (.object "java/lang/Object"))), Cond.classLink RJ7 110 "[Ljava/lang/Object;", Cond.classLink RJ7 2 "java/lang/Object", Cond.methodLink RJ7 304 Lib.Math.min.name, Cond.static Lib.Math.min.name, Cond.code Lib.Math.min.name Lib.Math.min.code 2 (some .int), Cond.methodLink RJ7 150 arraycopyName, Cond.native arraycopyName, Cond.static arraycopyName]
def wsL_move_r5 : List Cond := [Cond.initialized "java/lang/System", Cond.methodLink RX7 145 yX7_movesOf, Cond.instanceMethod yX7_movesOf, Cond.selects RX7 yX7_movesOf yX7_movesOf, Cond.code yX7_movesOf cX7_movesOf 4 (some .int), Cond.classLink RX7 140 "StorageCharge$Move", Cond.methodLink RX7 111 yJx4a65c_get_915e3, Cond.instanceMethod yJx4a65c_get_915e3, Cond.selects RJx4a65c yJx4a65c_get_915e3 yJx4a65c_get_915e3, Cond.code yJx4a65c_get_915e3 cJx4a65c_get_915e3 2 (some (.object "java/lang/Object")), Cond.methodLink RJx4a65c 118 yJ15_checkIndex_7cf53, Cond.static yJ15_checkIndex_7cf53, Cond.initialized RJ15, Cond.code yJ15_checkIndex_7cf53 cJ15_checkIndex_7cf53 2 (some .int), Cond.methodLink RJ15 105 yJ3_checkIndex_8e157, Cond.static yJ3_checkIndex_8e157, Cond.initialized RJ3, Cond.code yJ3_checkIndex_8e157 cJ3_checkIndex_8e157 3 (some .int), Cond.methodLink RJx4a65c 123 yJx4a65c_elementData_915e3, Cond.instanceMethod yJx4a65c_elementData_915e3, Cond.selects RJx4a65c yJx4a65c_elementData_915e3 yJx4a65c_elementData_915e3, Cond.code yJx4a65c_elementData_915e3 cJx4a65c_elementData_915e3 2 (some (.object "java/lang/Object"))]
def wsL_move : List Cond := .codeWith yL_move cL_move 7 (some .int) [(0, 14, 17, 13), (0, 14, 21, 15)] :: ((wsL_move_r1 ++ (wsL_move_r2 ++ (wsL_move_r3 ++ (wsL_move_r4 ++ wsL_move_r5)))) ++ wsX70 ++ wsX30 ++ wsJx4a65c0 ++ (vx_atS RX7 58 "java/lang/IllegalArgumentException" ["java/lang/RuntimeException", "java/lang/Exception"]).filter goodWord ++ (vx_atS RX7 69 "java/lang/UnsupportedOperationException" ["java/lang/RuntimeException", "java/lang/Exception"]).filter goodWord)
def wsL_sum_r1 : List Cond := [Cond.classLink RL 13 "java/lang/IllegalArgumentException", Cond.methodLink RL 37 yX7_sum, Cond.instanceMethod yX7_sum, Cond.selects RX7 yX7_sum yX7_sum, Cond.initialized RX7, Cond.code yX7_sum cX7_sum 3 (some .int), Cond.methodLink RX7 86 yX7_checkOwner, Cond.static yX7_checkOwner, Cond.code yX7_checkOwner cX7_checkOwner 1 none, Cond.classLink RX7 54 "java/lang/IllegalArgumentException", Cond.initialized "java/lang/IllegalArgumentException", Cond.methodLink RX7 50 yX7_isWithin, Cond.static yX7_isWithin, Cond.code yX7_isWithin cX7_isWithin 3 (some .boolean), Cond.methodLink RX7 149 yX7_checkMonth, Cond.static yX7_checkMonth, Cond.code yX7_checkMonth cX7_checkMonth 1 none, Cond.methodLink RX7 152 yX7_sumBy, Cond.instanceMethod yX7_sumBy, Cond.selects RX7 yX7_sumBy yX7_sumBy, Cond.code yX7_sumBy cX7_sumBy 5 (some .int), Cond.fieldLink RX7 19 "StorageCharge" "charges" "LStorageCharge$Charges;", Cond.methodLink RX7 286 Lib.Math.max.name, Cond.static Lib.Math.max.name]
def wsL_sum_r2 : List Cond := [Cond.initialized "java/lang/Math", Cond.code Lib.Math.max.name Lib.Math.max.code 2 (some .int), Cond.methodLink RX7 164 yX7_storageBy, Cond.instanceMethod yX7_storageBy, Cond.selects RX7 yX7_storageBy yX7_storageBy, Cond.code yX7_storageBy cX7_storageBy 7 (some .int), Cond.fieldLink RX7 29 "StorageCharge" "units" "Ljava/util/ArrayList;", Cond.classLink RX7 100 "StorageCharge$Unit", Cond.methodLink RX7 95 yJx4a65c_size_8abf5, Cond.instanceMethod yJx4a65c_size_8abf5, Cond.selects RJx4a65c yJx4a65c_size_8abf5 yJx4a65c_size_8abf5, Cond.initialized RJx4a65c, Cond.code yJx4a65c_size_8abf5 cJx4a65c_size_8abf5 1 (some .int), Cond.fieldLink RJx4a65c 48 "java/util/ArrayList" "size" "I", Cond.methodLink RX7 111 yJx4a65c_get_915e3, Cond.instanceMethod yJx4a65c_get_915e3, Cond.selects RJx4a65c yJx4a65c_get_915e3 yJx4a65c_get_915e3, Cond.code yJx4a65c_get_915e3 cJx4a65c_get_915e3 2 (some (.object "java/lang/Object")), Cond.methodLink RJx4a65c 118 yJ15_checkIndex_7cf53, Cond.static yJ15_checkIndex_7cf53, Cond.initialized RJ15, Cond.code yJ15_checkIndex_7cf53 cJ15_checkIndex_7cf53 2 (some .int), Cond.methodLink RJ15 105 yJ3_checkIndex_8e157, Cond.static yJ3_checkIndex_8e157]
def wsL_sum_r3 : List Cond := [Cond.initialized RJ3, Cond.code yJ3_checkIndex_8e157 cJ3_checkIndex_8e157 3 (some .int), Cond.methodLink RJx4a65c 123 yJx4a65c_elementData_915e3, Cond.instanceMethod yJx4a65c_elementData_915e3, Cond.selects RJx4a65c yJx4a65c_elementData_915e3 yJx4a65c_elementData_915e3, Cond.code yJx4a65c_elementData_915e3 cJx4a65c_elementData_915e3 2 (some (.object "java/lang/Object")), Cond.fieldLink RJx4a65c 9 "java/util/ArrayList" "elementData" "[Ljava/lang/Object;", Cond.methodLink RX7 292 yX7_storageOfUnit, Cond.instanceMethod yX7_storageOfUnit, Cond.selects RX7 yX7_storageOfUnit yX7_storageOfUnit, Cond.code yX7_storageOfUnit cX7_storageOfUnit 8 (some .int), Cond.methodLink RX7 311 Lib.Math.min.name, Cond.static Lib.Math.min.name, Cond.code Lib.Math.min.name Lib.Math.min.code 2 (some .int), Cond.methodLink RX7 299 yX7_firstDayOf, Cond.static yX7_firstDayOf, Cond.code yX7_firstDayOf cX7_firstDayOf 1 (some .int), Cond.methodLink RX7 305 yX7_lastDayOf, Cond.static yX7_lastDayOf, Cond.code yX7_lastDayOf cX7_lastDayOf 1 (some .int), Cond.methodLink RX7 314 yX6_kindOn, Cond.instanceMethod yX6_kindOn, Cond.selects RX6 yX6_kindOn yX6_kindOn, Cond.initialized RX6]
def wsL_sum_r4 : List Cond := [Cond.code yX6_kindOn cX6_kindOn 4 (some .int), Cond.fieldLink RX6 19 "StorageCharge$Unit" "toldKinds" "[I", Cond.fieldLink RX6 26 "StorageCharge$Unit" "told" "I", Cond.fieldLink RX6 23 "StorageCharge$Unit" "toldDays" "[I", Cond.methodLink RX6 45 Lib.Math.max.name, Cond.methodLink RX7 317 yX2_storageCents, Cond.instanceMethod yX2_storageCents, Cond.selects RX2 yX2_storageCents yX2_storageCents, Cond.initialized RX2, Cond.code yX2_storageCents cX2_storageCents 3 (some .int), Cond.fieldLink RX2 9 "StorageCharge$Charges" "storage" "[I", Cond.methodLink RX2 57 yX2_place, Cond.static yX2_place, Cond.code yX2_place cX2_place 2 (some .int), Cond.methodLink RX2 72 yX2_toldOrZero, Cond.static yX2_toldOrZero, Cond.code yX2_toldOrZero cX2_toldOrZero 2 (some .int), Cond.methodLink RX7 156 yX7_unitDays, Cond.instanceMethod yX7_unitDays, Cond.selects RX7 yX7_unitDays yX7_unitDays, Cond.code yX7_unitDays cX7_unitDays 6 (some .int), Cond.methodLink RX7 132 yX6_daysThere, Cond.instanceMethod yX6_daysThere, Cond.selects RX6 yX6_daysThere yX6_daysThere]
def wsL_sum_r5 : List Cond := [Cond.code yX6_daysThere cX6_daysThere 3 (some .int), Cond.fieldLink RX6 9 "StorageCharge$Unit" "lastDay" "I", Cond.methodLink RX6 39 Lib.Math.min.name, Cond.fieldLink RX6 32 "StorageCharge$Unit" "firstDay" "I", Cond.methodLink RX7 296 yX2_percentFor, Cond.instanceMethod yX2_percentFor, Cond.selects RX2 yX2_percentFor yX2_percentFor, Cond.code yX2_percentFor cX2_percentFor 6 (some .int), Cond.fieldLink RX2 30 "StorageCharge$Charges" "discounts" "I", Cond.fieldLink RX2 21 "StorageCharge$Charges" "discountOwners" "[I", Cond.fieldLink RX2 24 "StorageCharge$Charges" "discountDays" "[I", Cond.fieldLink RX2 27 "StorageCharge$Charges" "discountPercents" "[I", Cond.methodLink RX7 280 yX7_handlingBy, Cond.instanceMethod yX7_handlingBy, Cond.selects RX7 yX7_handlingBy yX7_handlingBy, Cond.code yX7_handlingBy cX7_handlingBy 7 (some .int), Cond.fieldLink RX7 33 "StorageCharge" "moves" "Ljava/util/ArrayList;", Cond.classLink RX7 140 "StorageCharge$Move", Cond.methodLink RX7 329 yX2_handlingCents, Cond.instanceMethod yX2_handlingCents, Cond.selects RX2 yX2_handlingCents yX2_handlingCents, Cond.code yX2_handlingCents cX2_handlingCents 3 (some .int), Cond.fieldLink RX2 15 "StorageCharge$Charges" "handling" "[I", Cond.methodLink RX7 283 yX2_minimumOf]
def wsL_sum_r6 : List Cond := [Cond.instanceMethod yX2_minimumOf, Cond.selects RX2 yX2_minimumOf yX2_minimumOf, Cond.code yX2_minimumOf cX2_minimumOf 2 (some .int), Cond.fieldLink RX2 18 "StorageCharge$Charges" "minimum" "[I"]
def wsL_sum : List Cond := .codeWith yL_sum cL_sum 5 (some .int) [(0, 10, 13, 13)] :: ((wsL_sum_r1 ++ (wsL_sum_r2 ++ (wsL_sum_r3 ++ (wsL_sum_r4 ++ (wsL_sum_r5 ++ wsL_sum_r6))))) ++ wsX70 ++ wsX60 ++ wsJx4a65c0 ++ wsX20 ++ wsX30 ++ (vx_atS RX7 58 "java/lang/IllegalArgumentException" ["java/lang/RuntimeException", "java/lang/Exception"]).filter goodWord)
def wsL_days_r1 : List Cond := [Cond.classLink RL 13 "java/lang/IllegalArgumentException", Cond.methodLink RL 40 yX7_days, Cond.instanceMethod yX7_days, Cond.selects RX7 yX7_days yX7_days, Cond.initialized RX7, Cond.code yX7_days cX7_days 3 (some .int), Cond.methodLink RX7 86 yX7_checkOwner, Cond.static yX7_checkOwner, Cond.code yX7_checkOwner cX7_checkOwner 1 none, Cond.classLink RX7 54 "java/lang/IllegalArgumentException", Cond.initialized "java/lang/IllegalArgumentException", Cond.methodLink RX7 50 yX7_isWithin, Cond.static yX7_isWithin, Cond.code yX7_isWithin cX7_isWithin 3 (some .boolean), Cond.methodLink RX7 149 yX7_checkMonth, Cond.static yX7_checkMonth, Cond.code yX7_checkMonth cX7_checkMonth 1 none, Cond.methodLink RX7 156 yX7_unitDays, Cond.instanceMethod yX7_unitDays, Cond.selects RX7 yX7_unitDays yX7_unitDays, Cond.code yX7_unitDays cX7_unitDays 6 (some .int), Cond.fieldLink RX7 29 "StorageCharge" "units" "Ljava/util/ArrayList;", Cond.classLink RX7 100 "StorageCharge$Unit", Cond.methodLink RX7 95 yJx4a65c_size_8abf5]
def wsL_days_r2 : List Cond := [Cond.instanceMethod yJx4a65c_size_8abf5, Cond.selects RJx4a65c yJx4a65c_size_8abf5 yJx4a65c_size_8abf5, Cond.initialized RJx4a65c, Cond.code yJx4a65c_size_8abf5 cJx4a65c_size_8abf5 1 (some .int), Cond.fieldLink RJx4a65c 48 "java/util/ArrayList" "size" "I", Cond.methodLink RX7 111 yJx4a65c_get_915e3, Cond.instanceMethod yJx4a65c_get_915e3, Cond.selects RJx4a65c yJx4a65c_get_915e3 yJx4a65c_get_915e3, Cond.code yJx4a65c_get_915e3 cJx4a65c_get_915e3 2 (some (.object "java/lang/Object")), Cond.methodLink RJx4a65c 118 yJ15_checkIndex_7cf53, Cond.static yJ15_checkIndex_7cf53, Cond.initialized RJ15, Cond.code yJ15_checkIndex_7cf53 cJ15_checkIndex_7cf53 2 (some .int), Cond.methodLink RJ15 105 yJ3_checkIndex_8e157, Cond.static yJ3_checkIndex_8e157, Cond.initialized RJ3, Cond.code yJ3_checkIndex_8e157 cJ3_checkIndex_8e157 3 (some .int), Cond.methodLink RJx4a65c 123 yJx4a65c_elementData_915e3, Cond.instanceMethod yJx4a65c_elementData_915e3, Cond.selects RJx4a65c yJx4a65c_elementData_915e3 yJx4a65c_elementData_915e3, Cond.code yJx4a65c_elementData_915e3 cJx4a65c_elementData_915e3 2 (some (.object "java/lang/Object")), Cond.fieldLink RJx4a65c 9 "java/util/ArrayList" "elementData" "[Ljava/lang/Object;", Cond.methodLink RX7 299 yX7_firstDayOf, Cond.static yX7_firstDayOf]
def wsL_days_r3 : List Cond := [Cond.code yX7_firstDayOf cX7_firstDayOf 1 (some .int), Cond.methodLink RX7 305 yX7_lastDayOf, Cond.static yX7_lastDayOf, Cond.code yX7_lastDayOf cX7_lastDayOf 1 (some .int), Cond.methodLink RX7 132 yX6_daysThere, Cond.instanceMethod yX6_daysThere, Cond.selects RX6 yX6_daysThere yX6_daysThere, Cond.initialized RX6, Cond.code yX6_daysThere cX6_daysThere 3 (some .int), Cond.fieldLink RX6 9 "StorageCharge$Unit" "lastDay" "I", Cond.methodLink RX6 39 Lib.Math.min.name, Cond.static Lib.Math.min.name, Cond.initialized "java/lang/Math", Cond.code Lib.Math.min.name Lib.Math.min.code 2 (some .int), Cond.fieldLink RX6 32 "StorageCharge$Unit" "firstDay" "I", Cond.methodLink RX6 45 Lib.Math.max.name, Cond.static Lib.Math.max.name, Cond.code Lib.Math.max.name Lib.Math.max.code 2 (some .int)]
def wsL_days : List Cond := .codeWith yL_days cL_days 5 (some .int) [(0, 10, 13, 13)] :: ((wsL_days_r1 ++ (wsL_days_r2 ++ wsL_days_r3)) ++ wsX70 ++ wsX60 ++ wsJx4a65c0 ++ (vx_atS RX7 58 "java/lang/IllegalArgumentException" ["java/lang/RuntimeException", "java/lang/Exception"]).filter goodWord)
def wsL_average_r1 : List Cond := [Cond.classLink RL 13 "java/lang/IllegalArgumentException", Cond.classLink RL 46 "java/lang/ArithmeticException", Cond.methodLink RL 43 yX7_average, Cond.instanceMethod yX7_average, Cond.selects RX7 yX7_average yX7_average, Cond.initialized RX7, Cond.code yX7_average cX7_average 4 (some .int), Cond.classLink RX7 159 "java/lang/ArithmeticException", Cond.initialized "java/lang/ArithmeticException", Cond.methodLink RX7 86 yX7_checkOwner, Cond.static yX7_checkOwner, Cond.code yX7_checkOwner cX7_checkOwner 1 none, Cond.classLink RX7 54 "java/lang/IllegalArgumentException", Cond.initialized "java/lang/IllegalArgumentException", Cond.methodLink RX7 50 yX7_isWithin, Cond.static yX7_isWithin, Cond.code yX7_isWithin cX7_isWithin 3 (some .boolean), Cond.methodLink RX7 149 yX7_checkMonth, Cond.static yX7_checkMonth, Cond.code yX7_checkMonth cX7_checkMonth 1 none, Cond.methodLink RX7 156 yX7_unitDays, Cond.instanceMethod yX7_unitDays, Cond.selects RX7 yX7_unitDays yX7_unitDays, Cond.code yX7_unitDays cX7_unitDays 6 (some .int)]
def wsL_average_r2 : List Cond := [Cond.fieldLink RX7 29 "StorageCharge" "units" "Ljava/util/ArrayList;", Cond.classLink RX7 100 "StorageCharge$Unit", Cond.methodLink RX7 95 yJx4a65c_size_8abf5, Cond.instanceMethod yJx4a65c_size_8abf5, Cond.selects RJx4a65c yJx4a65c_size_8abf5 yJx4a65c_size_8abf5, Cond.initialized RJx4a65c, Cond.code yJx4a65c_size_8abf5 cJx4a65c_size_8abf5 1 (some .int), Cond.fieldLink RJx4a65c 48 "java/util/ArrayList" "size" "I", Cond.methodLink RX7 111 yJx4a65c_get_915e3, Cond.instanceMethod yJx4a65c_get_915e3, Cond.selects RJx4a65c yJx4a65c_get_915e3 yJx4a65c_get_915e3, Cond.code yJx4a65c_get_915e3 cJx4a65c_get_915e3 2 (some (.object "java/lang/Object")), Cond.methodLink RJx4a65c 118 yJ15_checkIndex_7cf53, Cond.static yJ15_checkIndex_7cf53, Cond.initialized RJ15, Cond.code yJ15_checkIndex_7cf53 cJ15_checkIndex_7cf53 2 (some .int), Cond.methodLink RJ15 105 yJ3_checkIndex_8e157, Cond.static yJ3_checkIndex_8e157, Cond.initialized RJ3, Cond.code yJ3_checkIndex_8e157 cJ3_checkIndex_8e157 3 (some .int), Cond.methodLink RJx4a65c 123 yJx4a65c_elementData_915e3, Cond.instanceMethod yJx4a65c_elementData_915e3, Cond.selects RJx4a65c yJx4a65c_elementData_915e3 yJx4a65c_elementData_915e3, Cond.code yJx4a65c_elementData_915e3 cJx4a65c_elementData_915e3 2 (some (.object "java/lang/Object"))]
def wsL_average_r3 : List Cond := [Cond.fieldLink RJx4a65c 9 "java/util/ArrayList" "elementData" "[Ljava/lang/Object;", Cond.methodLink RX7 299 yX7_firstDayOf, Cond.static yX7_firstDayOf, Cond.code yX7_firstDayOf cX7_firstDayOf 1 (some .int), Cond.methodLink RX7 305 yX7_lastDayOf, Cond.static yX7_lastDayOf, Cond.code yX7_lastDayOf cX7_lastDayOf 1 (some .int), Cond.methodLink RX7 132 yX6_daysThere, Cond.instanceMethod yX6_daysThere, Cond.selects RX6 yX6_daysThere yX6_daysThere, Cond.initialized RX6, Cond.code yX6_daysThere cX6_daysThere 3 (some .int), Cond.fieldLink RX6 9 "StorageCharge$Unit" "lastDay" "I", Cond.methodLink RX6 39 Lib.Math.min.name, Cond.static Lib.Math.min.name, Cond.initialized "java/lang/Math", Cond.code Lib.Math.min.name Lib.Math.min.code 2 (some .int), Cond.fieldLink RX6 32 "StorageCharge$Unit" "firstDay" "I", Cond.methodLink RX6 45 Lib.Math.max.name, Cond.static Lib.Math.max.name, Cond.code Lib.Math.max.name Lib.Math.max.code 2 (some .int), Cond.methodLink RX7 164 yX7_storageBy, Cond.instanceMethod yX7_storageBy, Cond.selects RX7 yX7_storageBy yX7_storageBy]
def wsL_average_r4 : List Cond := [Cond.code yX7_storageBy cX7_storageBy 7 (some .int), Cond.fieldLink RX7 19 "StorageCharge" "charges" "LStorageCharge$Charges;", Cond.methodLink RX7 292 yX7_storageOfUnit, Cond.instanceMethod yX7_storageOfUnit, Cond.selects RX7 yX7_storageOfUnit yX7_storageOfUnit, Cond.code yX7_storageOfUnit cX7_storageOfUnit 8 (some .int), Cond.methodLink RX7 286 Lib.Math.max.name, Cond.methodLink RX7 311 Lib.Math.min.name, Cond.methodLink RX7 314 yX6_kindOn, Cond.instanceMethod yX6_kindOn, Cond.selects RX6 yX6_kindOn yX6_kindOn, Cond.code yX6_kindOn cX6_kindOn 4 (some .int), Cond.fieldLink RX6 19 "StorageCharge$Unit" "toldKinds" "[I", Cond.fieldLink RX6 26 "StorageCharge$Unit" "told" "I", Cond.fieldLink RX6 23 "StorageCharge$Unit" "toldDays" "[I", Cond.methodLink RX7 317 yX2_storageCents, Cond.instanceMethod yX2_storageCents, Cond.selects RX2 yX2_storageCents yX2_storageCents, Cond.initialized RX2, Cond.code yX2_storageCents cX2_storageCents 3 (some .int), Cond.fieldLink RX2 9 "StorageCharge$Charges" "storage" "[I", Cond.methodLink RX2 57 yX2_place, Cond.static yX2_place, Cond.code yX2_place cX2_place 2 (some .int)]
def wsL_average_r5 : List Cond := [Cond.methodLink RX2 72 yX2_toldOrZero, Cond.static yX2_toldOrZero, Cond.code yX2_toldOrZero cX2_toldOrZero 2 (some .int), Cond.methodLink RX7 296 yX2_percentFor, Cond.instanceMethod yX2_percentFor, Cond.selects RX2 yX2_percentFor yX2_percentFor, Cond.code yX2_percentFor cX2_percentFor 6 (some .int), Cond.fieldLink RX2 30 "StorageCharge$Charges" "discounts" "I", Cond.fieldLink RX2 21 "StorageCharge$Charges" "discountOwners" "[I", Cond.fieldLink RX2 24 "StorageCharge$Charges" "discountDays" "[I", Cond.fieldLink RX2 27 "StorageCharge$Charges" "discountPercents" "[I"]
def wsL_average : List Cond := .codeWith yL_average cL_average 5 (some .int) [(0, 10, 13, 13), (0, 10, 17, 46)] :: ((wsL_average_r1 ++ (wsL_average_r2 ++ (wsL_average_r3 ++ (wsL_average_r4 ++ wsL_average_r5)))) ++ wsX70 ++ wsX60 ++ wsJx4a65c0 ++ wsX20 ++ (vx_atS RX7 163 "java/lang/ArithmeticException" ["java/lang/RuntimeException", "java/lang/Exception"]).filter goodWord ++ (vx_atS RX7 58 "java/lang/IllegalArgumentException" ["java/lang/RuntimeException", "java/lang/Exception"]).filter goodWord)
def wsL_bill_r1 : List Cond := [Cond.classLink RL 13 "java/lang/IllegalArgumentException", Cond.classLink RL 27 "java/lang/IllegalStateException", Cond.methodLink RL 48 yX7_bill, Cond.instanceMethod yX7_bill, Cond.selects RX7 yX7_bill yX7_bill, Cond.initialized RX7, Cond.code yX7_bill cX7_bill 4 (some .int), Cond.classLink RX7 171 "java/lang/IllegalStateException", Cond.initialized "java/lang/IllegalStateException", Cond.fieldLink RX7 39 "StorageCharge" "bills" "LStorageCharge$Bills;", Cond.classLink RX7 176 RX0, Cond.instantiable RX0 4, Cond.initialized RX0, Cond.methodLink RX7 86 yX7_checkOwner, Cond.static yX7_checkOwner, Cond.code yX7_checkOwner cX7_checkOwner 1 none, Cond.classLink RX7 54 "java/lang/IllegalArgumentException", Cond.initialized "java/lang/IllegalArgumentException", Cond.methodLink RX7 50 yX7_isWithin, Cond.static yX7_isWithin, Cond.code yX7_isWithin cX7_isWithin 3 (some .boolean), Cond.methodLink RX7 149 yX7_checkMonth, Cond.static yX7_checkMonth, Cond.code yX7_checkMonth cX7_checkMonth 1 none]
def wsL_bill_r2 : List Cond := [Cond.methodLink RX7 167 yX1_isBilled, Cond.instanceMethod yX1_isBilled, Cond.selects RX1 yX1_isBilled yX1_isBilled, Cond.initialized RX1, Cond.code yX1_isBilled cX1_isBilled 5 (some .boolean), Cond.fieldLink RX1 12 "StorageCharge$Bills" "lines" "Ljava/util/ArrayList;", Cond.classLink RX1 30 "StorageCharge$BillLine", Cond.methodLink RX1 18 yJx4a65c_size_8abf5, Cond.instanceMethod yJx4a65c_size_8abf5, Cond.selects RJx4a65c yJx4a65c_size_8abf5 yJx4a65c_size_8abf5, Cond.initialized RJx4a65c, Cond.code yJx4a65c_size_8abf5 cJx4a65c_size_8abf5 1 (some .int), Cond.fieldLink RJx4a65c 48 "java/util/ArrayList" "size" "I", Cond.methodLink RX1 26 yJx4a65c_get_915e3, Cond.instanceMethod yJx4a65c_get_915e3, Cond.selects RJx4a65c yJx4a65c_get_915e3 yJx4a65c_get_915e3, Cond.code yJx4a65c_get_915e3 cJx4a65c_get_915e3 2 (some (.object "java/lang/Object")), Cond.methodLink RJx4a65c 118 yJ15_checkIndex_7cf53, Cond.static yJ15_checkIndex_7cf53, Cond.initialized RJ15, Cond.code yJ15_checkIndex_7cf53 cJ15_checkIndex_7cf53 2 (some .int), Cond.methodLink RJ15 105 yJ3_checkIndex_8e157, Cond.static yJ3_checkIndex_8e157, Cond.initialized RJ3]
def wsL_bill_r3 : List Cond := [Cond.code yJ3_checkIndex_8e157 cJ3_checkIndex_8e157 3 (some .int), Cond.methodLink RJx4a65c 123 yJx4a65c_elementData_915e3, Cond.instanceMethod yJx4a65c_elementData_915e3, Cond.selects RJx4a65c yJx4a65c_elementData_915e3 yJx4a65c_elementData_915e3, Cond.code yJx4a65c_elementData_915e3 cJx4a65c_elementData_915e3 2 (some (.object "java/lang/Object")), Cond.fieldLink RJx4a65c 9 "java/util/ArrayList" "elementData" "[Ljava/lang/Object;", Cond.methodLink RX7 152 yX7_sumBy, Cond.instanceMethod yX7_sumBy, Cond.selects RX7 yX7_sumBy yX7_sumBy, Cond.code yX7_sumBy cX7_sumBy 5 (some .int), Cond.fieldLink RX7 19 "StorageCharge" "charges" "LStorageCharge$Charges;", Cond.methodLink RX7 286 Lib.Math.max.name, Cond.static Lib.Math.max.name, Cond.initialized "java/lang/Math", Cond.code Lib.Math.max.name Lib.Math.max.code 2 (some .int), Cond.methodLink RX7 164 yX7_storageBy, Cond.instanceMethod yX7_storageBy, Cond.selects RX7 yX7_storageBy yX7_storageBy, Cond.code yX7_storageBy cX7_storageBy 7 (some .int), Cond.fieldLink RX7 29 "StorageCharge" "units" "Ljava/util/ArrayList;", Cond.classLink RX7 100 "StorageCharge$Unit", Cond.methodLink RX7 95 yJx4a65c_size_8abf5, Cond.methodLink RX7 111 yJx4a65c_get_915e3, Cond.methodLink RX7 292 yX7_storageOfUnit]
def wsL_bill_r4 : List Cond := [Cond.instanceMethod yX7_storageOfUnit, Cond.selects RX7 yX7_storageOfUnit yX7_storageOfUnit, Cond.code yX7_storageOfUnit cX7_storageOfUnit 8 (some .int), Cond.methodLink RX7 311 Lib.Math.min.name, Cond.static Lib.Math.min.name, Cond.code Lib.Math.min.name Lib.Math.min.code 2 (some .int), Cond.methodLink RX7 299 yX7_firstDayOf, Cond.static yX7_firstDayOf, Cond.code yX7_firstDayOf cX7_firstDayOf 1 (some .int), Cond.methodLink RX7 305 yX7_lastDayOf, Cond.static yX7_lastDayOf, Cond.code yX7_lastDayOf cX7_lastDayOf 1 (some .int), Cond.methodLink RX7 314 yX6_kindOn, Cond.instanceMethod yX6_kindOn, Cond.selects RX6 yX6_kindOn yX6_kindOn, Cond.initialized RX6, Cond.code yX6_kindOn cX6_kindOn 4 (some .int), Cond.fieldLink RX6 19 "StorageCharge$Unit" "toldKinds" "[I", Cond.fieldLink RX6 26 "StorageCharge$Unit" "told" "I", Cond.fieldLink RX6 23 "StorageCharge$Unit" "toldDays" "[I", Cond.methodLink RX6 45 Lib.Math.max.name, Cond.methodLink RX7 317 yX2_storageCents, Cond.instanceMethod yX2_storageCents, Cond.selects RX2 yX2_storageCents yX2_storageCents]
def wsL_bill_r5 : List Cond := [Cond.initialized RX2, Cond.code yX2_storageCents cX2_storageCents 3 (some .int), Cond.fieldLink RX2 9 "StorageCharge$Charges" "storage" "[I", Cond.methodLink RX2 57 yX2_place, Cond.static yX2_place, Cond.code yX2_place cX2_place 2 (some .int), Cond.methodLink RX2 72 yX2_toldOrZero, Cond.static yX2_toldOrZero, Cond.code yX2_toldOrZero cX2_toldOrZero 2 (some .int), Cond.methodLink RX7 156 yX7_unitDays, Cond.instanceMethod yX7_unitDays, Cond.selects RX7 yX7_unitDays yX7_unitDays, Cond.code yX7_unitDays cX7_unitDays 6 (some .int), Cond.methodLink RX7 132 yX6_daysThere, Cond.instanceMethod yX6_daysThere, Cond.selects RX6 yX6_daysThere yX6_daysThere, Cond.code yX6_daysThere cX6_daysThere 3 (some .int), Cond.fieldLink RX6 9 "StorageCharge$Unit" "lastDay" "I", Cond.methodLink RX6 39 Lib.Math.min.name, Cond.fieldLink RX6 32 "StorageCharge$Unit" "firstDay" "I", Cond.methodLink RX7 296 yX2_percentFor, Cond.instanceMethod yX2_percentFor, Cond.selects RX2 yX2_percentFor yX2_percentFor, Cond.code yX2_percentFor cX2_percentFor 6 (some .int)]
def wsL_bill_r6 : List Cond := [Cond.fieldLink RX2 30 "StorageCharge$Charges" "discounts" "I", Cond.fieldLink RX2 21 "StorageCharge$Charges" "discountOwners" "[I", Cond.fieldLink RX2 24 "StorageCharge$Charges" "discountDays" "[I", Cond.fieldLink RX2 27 "StorageCharge$Charges" "discountPercents" "[I", Cond.methodLink RX7 280 yX7_handlingBy, Cond.instanceMethod yX7_handlingBy, Cond.selects RX7 yX7_handlingBy yX7_handlingBy, Cond.code yX7_handlingBy cX7_handlingBy 7 (some .int), Cond.fieldLink RX7 33 "StorageCharge" "moves" "Ljava/util/ArrayList;", Cond.classLink RX7 140 "StorageCharge$Move", Cond.methodLink RX7 329 yX2_handlingCents, Cond.instanceMethod yX2_handlingCents, Cond.selects RX2 yX2_handlingCents yX2_handlingCents, Cond.code yX2_handlingCents cX2_handlingCents 3 (some .int), Cond.fieldLink RX2 15 "StorageCharge$Charges" "handling" "[I", Cond.methodLink RX7 283 yX2_minimumOf, Cond.instanceMethod yX2_minimumOf, Cond.selects RX2 yX2_minimumOf yX2_minimumOf, Cond.code yX2_minimumOf cX2_minimumOf 2 (some .int), Cond.fieldLink RX2 18 "StorageCharge$Charges" "minimum" "[I", Cond.methodLink RX7 178 yX0_init, Cond.instanceMethod yX0_init, Cond.code yX0_init cX0_init 5 none, Cond.methodLink RX0 1 objectInit]
def wsL_bill_r7 : List Cond := [Cond.instanceMethod objectInit, Cond.code objectInit ⟨#[0xb1]⟩ 1 none, Cond.fieldLink RX0 7 "StorageCharge$BillLine" "owner" "I", Cond.fieldLink RX0 13 "StorageCharge$BillLine" "month" "I", Cond.fieldLink RX0 16 "StorageCharge$BillLine" "cents" "I", Cond.fieldLink RX0 19 "StorageCharge$BillLine" "isCorrection" "Z", Cond.methodLink RX7 181 yX1_add, Cond.instanceMethod yX1_add, Cond.selects RX1 yX1_add yX1_add, Cond.code yX1_add cX1_add 2 none, Cond.methodLink RX1 22 yJx4a65c_add_9ea2d, Cond.instanceMethod yJx4a65c_add_9ea2d, Cond.selects RJx4a65c yJx4a65c_add_9ea2d yJx4a65c_add_9ea2d, Cond.code yJx4a65c_add_9ea2d cJx4a65c_add_9ea2d 2 (some .boolean), Cond.fieldLink RJx4a65c 63 "java/util/ArrayList" "modCount" "I", Cond.sameField "java/util/ArrayList" "java/util/AbstractList" "modCount" "I", Cond.methodLink RJx4a65c 131 yJx4a65c_add_72be8, Cond.instanceMethod yJx4a65c_add_72be8, Cond.selects RJx4a65c yJx4a65c_add_72be8 yJx4a65c_add_72be8, Cond.code yJx4a65c_add_72be8 cJx4a65c_add_72be8 4 none, Cond.methodLink RJx4a65c 129 yJx4a65c_grow_d5877, Cond.instanceMethod yJx4a65c_grow_d5877, Cond.selects RJx4a65c yJx4a65c_grow_d5877 yJx4a65c_grow_d5877, Cond.code yJx4a65c_grow_d5877 cJx4a65c_grow_d5877 1 (some (.array (.object "java/lang/Object")))]
def wsL_bill_r8 : List Cond := [Cond.methodLink RJx4a65c 69 yJx4a65c_grow_92f84, Cond.instanceMethod yJx4a65c_grow_92f84, Cond.selects RJx4a65c yJx4a65c_grow_92f84 yJx4a65c_grow_92f84, Cond.code yJx4a65c_grow_92f84 cJx4a65c_grow_92f84 4 (some (.array (.object "java/lang/Object"))), Cond.fieldLink RJx4a65c 39 "java/util/ArrayList" "DEFAULTCAPACITY_EMPTY_ELEMENTDATA" "[Ljava/lang/Object;", Cond.methodLink RJx4a65c 79 Lib.Math.max.name, Cond.classLink RJx4a65c 7 "java/lang/Object", Cond.methodLink RJx4a65c 73 yJ8_newLength_cabcc, Cond.static yJ8_newLength_cabcc, Cond.initialized RJ8, Cond.code yJ8_newLength_cabcc cJ8_newLength_cabcc 4 (some .int), Cond.methodLink RJ8 194 Lib.Math.max.name, Cond.constant RJ8 200 (2147483639), Cond.methodLink RJ8 201 yJ8_hugeLength_7cf53, Cond.static yJ8_hugeLength_7cf53, Cond.code yJ8_hugeLength_7cf53 cJ8_hugeLength_7cf53 3 (some .int), Cond.methodLink RJx4a65c 66 yJ7_copyOf_1904c, Cond.static yJ7_copyOf_1904c, Cond.initialized RJ7, Cond.code yJ7_copyOf_1904c cJ7_copyOf_1904c 2 (some (.array (.object "java/lang/Object"))), Cond.methodLink RJ7 86 ⟨"java/lang/Object", "getClass", "()Ljava/lang/Class;"⟩, Cond.selects "[Ljava/lang/Object;" ⟨"java/lang/Object", "getClass", "()Ljava/lang/Class;"⟩ ⟨"java/lang/Object", "getClass", "()Ljava/lang/Class;"⟩, Cond.instanceMethod ⟨"java/lang/Object", "getClass", "()Ljava/lang/Class;"⟩, Cond.native ⟨"java/lang/Object", "getClass", "()Ljava/lang/Class;"⟩]
def wsL_bill_r9 : List Cond := [Cond.methodLink RJ7 300 yJ7_copyOf_6403c, Cond.static yJ7_copyOf_6403c, Cond.code yJ7_copyOf_6403c cJ7_copyOf_6403c 4 (some (.array (.object "java/lang/Object"))), Cond.classLink RJ7 110 "[Ljava/lang/Object;", Cond.classLink RJ7 2 "java/lang/Object", Cond.methodLink RJ7 304 Lib.Math.min.name, Cond.methodLink RJ7 150 arraycopyName, Cond.native arraycopyName, Cond.static arraycopyName, Cond.initialized "java/lang/System"]
def wsL_bill : List Cond := .codeWith yL_bill cL_bill 5 (some .int) [(0, 10, 13, 13), (0, 10, 17, 27)] :: ((wsL_bill_r1 ++ (wsL_bill_r2 ++ (wsL_bill_r3 ++ (wsL_bill_r4 ++ (wsL_bill_r5 ++ (wsL_bill_r6 ++ (wsL_bill_r7 ++ (wsL_bill_r8 ++ wsL_bill_r9)))))))) ++ wsX70 ++ wsX00 ++ wsX10 ++ wsJx4a65c0 ++ wsX60 ++ wsX20 ++ wsX30 ++ (vx_atS RX7 175 "java/lang/IllegalStateException" ["java/lang/RuntimeException", "java/lang/Exception"]).filter goodWord ++ (vx_atS RX7 58 "java/lang/IllegalArgumentException" ["java/lang/RuntimeException", "java/lang/Exception"]).filter goodWord)
def wsL_correct_r1 : List Cond := [Cond.classLink RL 13 "java/lang/IllegalArgumentException", Cond.classLink RL 27 "java/lang/IllegalStateException", Cond.methodLink RL 51 yX7_correct, Cond.instanceMethod yX7_correct, Cond.selects RX7 yX7_correct yX7_correct, Cond.initialized RX7, Cond.code yX7_correct cX7_correct 4 (some .int), Cond.classLink RX7 171 "java/lang/IllegalStateException", Cond.initialized "java/lang/IllegalStateException", Cond.fieldLink RX7 39 "StorageCharge" "bills" "LStorageCharge$Bills;", Cond.classLink RX7 176 RX0, Cond.instantiable RX0 4, Cond.initialized RX0, Cond.methodLink RX7 86 yX7_checkOwner, Cond.static yX7_checkOwner, Cond.code yX7_checkOwner cX7_checkOwner 1 none, Cond.classLink RX7 54 "java/lang/IllegalArgumentException", Cond.initialized "java/lang/IllegalArgumentException", Cond.methodLink RX7 50 yX7_isWithin, Cond.static yX7_isWithin, Cond.code yX7_isWithin cX7_isWithin 3 (some .boolean), Cond.methodLink RX7 149 yX7_checkMonth, Cond.static yX7_checkMonth, Cond.code yX7_checkMonth cX7_checkMonth 1 none]
def wsL_correct_r2 : List Cond := [Cond.methodLink RX7 167 yX1_isBilled, Cond.instanceMethod yX1_isBilled, Cond.selects RX1 yX1_isBilled yX1_isBilled, Cond.initialized RX1, Cond.code yX1_isBilled cX1_isBilled 5 (some .boolean), Cond.fieldLink RX1 12 "StorageCharge$Bills" "lines" "Ljava/util/ArrayList;", Cond.classLink RX1 30 "StorageCharge$BillLine", Cond.methodLink RX1 18 yJx4a65c_size_8abf5, Cond.instanceMethod yJx4a65c_size_8abf5, Cond.selects RJx4a65c yJx4a65c_size_8abf5 yJx4a65c_size_8abf5, Cond.initialized RJx4a65c, Cond.code yJx4a65c_size_8abf5 cJx4a65c_size_8abf5 1 (some .int), Cond.fieldLink RJx4a65c 48 "java/util/ArrayList" "size" "I", Cond.methodLink RX1 26 yJx4a65c_get_915e3, Cond.instanceMethod yJx4a65c_get_915e3, Cond.selects RJx4a65c yJx4a65c_get_915e3 yJx4a65c_get_915e3, Cond.code yJx4a65c_get_915e3 cJx4a65c_get_915e3 2 (some (.object "java/lang/Object")), Cond.methodLink RJx4a65c 118 yJ15_checkIndex_7cf53, Cond.static yJ15_checkIndex_7cf53, Cond.initialized RJ15, Cond.code yJ15_checkIndex_7cf53 cJ15_checkIndex_7cf53 2 (some .int), Cond.methodLink RJ15 105 yJ3_checkIndex_8e157, Cond.static yJ3_checkIndex_8e157, Cond.initialized RJ3]
def wsL_correct_r3 : List Cond := [Cond.code yJ3_checkIndex_8e157 cJ3_checkIndex_8e157 3 (some .int), Cond.methodLink RJx4a65c 123 yJx4a65c_elementData_915e3, Cond.instanceMethod yJx4a65c_elementData_915e3, Cond.selects RJx4a65c yJx4a65c_elementData_915e3 yJx4a65c_elementData_915e3, Cond.code yJx4a65c_elementData_915e3 cJx4a65c_elementData_915e3 2 (some (.object "java/lang/Object")), Cond.fieldLink RJx4a65c 9 "java/util/ArrayList" "elementData" "[Ljava/lang/Object;", Cond.methodLink RX7 152 yX7_sumBy, Cond.instanceMethod yX7_sumBy, Cond.selects RX7 yX7_sumBy yX7_sumBy, Cond.code yX7_sumBy cX7_sumBy 5 (some .int), Cond.fieldLink RX7 19 "StorageCharge" "charges" "LStorageCharge$Charges;", Cond.methodLink RX7 286 Lib.Math.max.name, Cond.static Lib.Math.max.name, Cond.initialized "java/lang/Math", Cond.code Lib.Math.max.name Lib.Math.max.code 2 (some .int), Cond.methodLink RX7 164 yX7_storageBy, Cond.instanceMethod yX7_storageBy, Cond.selects RX7 yX7_storageBy yX7_storageBy, Cond.code yX7_storageBy cX7_storageBy 7 (some .int), Cond.fieldLink RX7 29 "StorageCharge" "units" "Ljava/util/ArrayList;", Cond.classLink RX7 100 "StorageCharge$Unit", Cond.methodLink RX7 95 yJx4a65c_size_8abf5, Cond.methodLink RX7 111 yJx4a65c_get_915e3, Cond.methodLink RX7 292 yX7_storageOfUnit]
def wsL_correct_r4 : List Cond := [Cond.instanceMethod yX7_storageOfUnit, Cond.selects RX7 yX7_storageOfUnit yX7_storageOfUnit, Cond.code yX7_storageOfUnit cX7_storageOfUnit 8 (some .int), Cond.methodLink RX7 311 Lib.Math.min.name, Cond.static Lib.Math.min.name, Cond.code Lib.Math.min.name Lib.Math.min.code 2 (some .int), Cond.methodLink RX7 299 yX7_firstDayOf, Cond.static yX7_firstDayOf, Cond.code yX7_firstDayOf cX7_firstDayOf 1 (some .int), Cond.methodLink RX7 305 yX7_lastDayOf, Cond.static yX7_lastDayOf, Cond.code yX7_lastDayOf cX7_lastDayOf 1 (some .int), Cond.methodLink RX7 314 yX6_kindOn, Cond.instanceMethod yX6_kindOn, Cond.selects RX6 yX6_kindOn yX6_kindOn, Cond.initialized RX6, Cond.code yX6_kindOn cX6_kindOn 4 (some .int), Cond.fieldLink RX6 19 "StorageCharge$Unit" "toldKinds" "[I", Cond.fieldLink RX6 26 "StorageCharge$Unit" "told" "I", Cond.fieldLink RX6 23 "StorageCharge$Unit" "toldDays" "[I", Cond.methodLink RX6 45 Lib.Math.max.name, Cond.methodLink RX7 317 yX2_storageCents, Cond.instanceMethod yX2_storageCents, Cond.selects RX2 yX2_storageCents yX2_storageCents]
def wsL_correct_r5 : List Cond := [Cond.initialized RX2, Cond.code yX2_storageCents cX2_storageCents 3 (some .int), Cond.fieldLink RX2 9 "StorageCharge$Charges" "storage" "[I", Cond.methodLink RX2 57 yX2_place, Cond.static yX2_place, Cond.code yX2_place cX2_place 2 (some .int), Cond.methodLink RX2 72 yX2_toldOrZero, Cond.static yX2_toldOrZero, Cond.code yX2_toldOrZero cX2_toldOrZero 2 (some .int), Cond.methodLink RX7 156 yX7_unitDays, Cond.instanceMethod yX7_unitDays, Cond.selects RX7 yX7_unitDays yX7_unitDays, Cond.code yX7_unitDays cX7_unitDays 6 (some .int), Cond.methodLink RX7 132 yX6_daysThere, Cond.instanceMethod yX6_daysThere, Cond.selects RX6 yX6_daysThere yX6_daysThere, Cond.code yX6_daysThere cX6_daysThere 3 (some .int), Cond.fieldLink RX6 9 "StorageCharge$Unit" "lastDay" "I", Cond.methodLink RX6 39 Lib.Math.min.name, Cond.fieldLink RX6 32 "StorageCharge$Unit" "firstDay" "I", Cond.methodLink RX7 296 yX2_percentFor, Cond.instanceMethod yX2_percentFor, Cond.selects RX2 yX2_percentFor yX2_percentFor, Cond.code yX2_percentFor cX2_percentFor 6 (some .int)]
def wsL_correct_r6 : List Cond := [Cond.fieldLink RX2 30 "StorageCharge$Charges" "discounts" "I", Cond.fieldLink RX2 21 "StorageCharge$Charges" "discountOwners" "[I", Cond.fieldLink RX2 24 "StorageCharge$Charges" "discountDays" "[I", Cond.fieldLink RX2 27 "StorageCharge$Charges" "discountPercents" "[I", Cond.methodLink RX7 280 yX7_handlingBy, Cond.instanceMethod yX7_handlingBy, Cond.selects RX7 yX7_handlingBy yX7_handlingBy, Cond.code yX7_handlingBy cX7_handlingBy 7 (some .int), Cond.fieldLink RX7 33 "StorageCharge" "moves" "Ljava/util/ArrayList;", Cond.classLink RX7 140 "StorageCharge$Move", Cond.methodLink RX7 329 yX2_handlingCents, Cond.instanceMethod yX2_handlingCents, Cond.selects RX2 yX2_handlingCents yX2_handlingCents, Cond.code yX2_handlingCents cX2_handlingCents 3 (some .int), Cond.fieldLink RX2 15 "StorageCharge$Charges" "handling" "[I", Cond.methodLink RX7 283 yX2_minimumOf, Cond.instanceMethod yX2_minimumOf, Cond.selects RX2 yX2_minimumOf yX2_minimumOf, Cond.code yX2_minimumOf cX2_minimumOf 2 (some .int), Cond.fieldLink RX2 18 "StorageCharge$Charges" "minimum" "[I", Cond.methodLink RX7 186 yX1_centsOfMonth, Cond.instanceMethod yX1_centsOfMonth, Cond.selects RX1 yX1_centsOfMonth yX1_centsOfMonth, Cond.code yX1_centsOfMonth cX1_centsOfMonth 6 (some .int)]
def wsL_correct_r7 : List Cond := [Cond.methodLink RX7 178 yX0_init, Cond.instanceMethod yX0_init, Cond.code yX0_init cX0_init 5 none, Cond.methodLink RX0 1 objectInit, Cond.instanceMethod objectInit, Cond.code objectInit ⟨#[0xb1]⟩ 1 none, Cond.fieldLink RX0 7 "StorageCharge$BillLine" "owner" "I", Cond.fieldLink RX0 13 "StorageCharge$BillLine" "month" "I", Cond.fieldLink RX0 16 "StorageCharge$BillLine" "cents" "I", Cond.fieldLink RX0 19 "StorageCharge$BillLine" "isCorrection" "Z", Cond.methodLink RX7 181 yX1_add, Cond.instanceMethod yX1_add, Cond.selects RX1 yX1_add yX1_add, Cond.code yX1_add cX1_add 2 none, Cond.methodLink RX1 22 yJx4a65c_add_9ea2d, Cond.instanceMethod yJx4a65c_add_9ea2d, Cond.selects RJx4a65c yJx4a65c_add_9ea2d yJx4a65c_add_9ea2d, Cond.code yJx4a65c_add_9ea2d cJx4a65c_add_9ea2d 2 (some .boolean), Cond.fieldLink RJx4a65c 63 "java/util/ArrayList" "modCount" "I", Cond.sameField "java/util/ArrayList" "java/util/AbstractList" "modCount" "I", Cond.methodLink RJx4a65c 131 yJx4a65c_add_72be8, Cond.instanceMethod yJx4a65c_add_72be8, Cond.selects RJx4a65c yJx4a65c_add_72be8 yJx4a65c_add_72be8, Cond.code yJx4a65c_add_72be8 cJx4a65c_add_72be8 4 none]
def wsL_correct_r8 : List Cond := [Cond.methodLink RJx4a65c 129 yJx4a65c_grow_d5877, Cond.instanceMethod yJx4a65c_grow_d5877, Cond.selects RJx4a65c yJx4a65c_grow_d5877 yJx4a65c_grow_d5877, Cond.code yJx4a65c_grow_d5877 cJx4a65c_grow_d5877 1 (some (.array (.object "java/lang/Object"))), Cond.methodLink RJx4a65c 69 yJx4a65c_grow_92f84, Cond.instanceMethod yJx4a65c_grow_92f84, Cond.selects RJx4a65c yJx4a65c_grow_92f84 yJx4a65c_grow_92f84, Cond.code yJx4a65c_grow_92f84 cJx4a65c_grow_92f84 4 (some (.array (.object "java/lang/Object"))), Cond.fieldLink RJx4a65c 39 "java/util/ArrayList" "DEFAULTCAPACITY_EMPTY_ELEMENTDATA" "[Ljava/lang/Object;", Cond.methodLink RJx4a65c 79 Lib.Math.max.name, Cond.classLink RJx4a65c 7 "java/lang/Object", Cond.methodLink RJx4a65c 73 yJ8_newLength_cabcc, Cond.static yJ8_newLength_cabcc, Cond.initialized RJ8, Cond.code yJ8_newLength_cabcc cJ8_newLength_cabcc 4 (some .int), Cond.methodLink RJ8 194 Lib.Math.max.name, Cond.constant RJ8 200 (2147483639), Cond.methodLink RJ8 201 yJ8_hugeLength_7cf53, Cond.static yJ8_hugeLength_7cf53, Cond.code yJ8_hugeLength_7cf53 cJ8_hugeLength_7cf53 3 (some .int), Cond.methodLink RJx4a65c 66 yJ7_copyOf_1904c, Cond.static yJ7_copyOf_1904c, Cond.initialized RJ7, Cond.code yJ7_copyOf_1904c cJ7_copyOf_1904c 2 (some (.array (.object "java/lang/Object")))]
def wsL_correct_r9 : List Cond := [Cond.methodLink RJ7 86 ⟨"java/lang/Object", "getClass", "()Ljava/lang/Class;"⟩, Cond.selects "[Ljava/lang/Object;" ⟨"java/lang/Object", "getClass", "()Ljava/lang/Class;"⟩ ⟨"java/lang/Object", "getClass", "()Ljava/lang/Class;"⟩, Cond.instanceMethod ⟨"java/lang/Object", "getClass", "()Ljava/lang/Class;"⟩, Cond.native ⟨"java/lang/Object", "getClass", "()Ljava/lang/Class;"⟩, Cond.methodLink RJ7 300 yJ7_copyOf_6403c, Cond.static yJ7_copyOf_6403c, Cond.code yJ7_copyOf_6403c cJ7_copyOf_6403c 4 (some (.array (.object "java/lang/Object"))), Cond.classLink RJ7 110 "[Ljava/lang/Object;", Cond.classLink RJ7 2 "java/lang/Object", Cond.methodLink RJ7 304 Lib.Math.min.name, Cond.methodLink RJ7 150 arraycopyName, Cond.native arraycopyName, Cond.static arraycopyName, Cond.initialized "java/lang/System"]
def wsL_correct : List Cond := .codeWith yL_correct cL_correct 5 (some .int) [(0, 10, 13, 13), (0, 10, 17, 27)] :: ((wsL_correct_r1 ++ (wsL_correct_r2 ++ (wsL_correct_r3 ++ (wsL_correct_r4 ++ (wsL_correct_r5 ++ (wsL_correct_r6 ++ (wsL_correct_r7 ++ (wsL_correct_r8 ++ wsL_correct_r9)))))))) ++ wsX70 ++ wsX00 ++ wsX10 ++ wsJx4a65c0 ++ wsX60 ++ wsX20 ++ wsX30 ++ (vx_atS RX7 175 "java/lang/IllegalStateException" ["java/lang/RuntimeException", "java/lang/Exception"]).filter goodWord ++ (vx_atS RX7 58 "java/lang/IllegalArgumentException" ["java/lang/RuntimeException", "java/lang/Exception"]).filter goodWord)
def wsL_line_r1 : List Cond := [Cond.classLink RL 25 "java/util/NoSuchElementException", Cond.classLink RL 13 "java/lang/IllegalArgumentException", Cond.methodLink RL 54 yX7_line, Cond.instanceMethod yX7_line, Cond.selects RX7 yX7_line yX7_line, Cond.initialized RX7, Cond.code yX7_line cX7_line 5 (some .int), Cond.classLink RX7 193 "java/util/NoSuchElementException", Cond.initialized "java/util/NoSuchElementException", Cond.classLink RX7 54 "java/lang/IllegalArgumentException", Cond.initialized "java/lang/IllegalArgumentException", Cond.fieldLink RX7 39 "StorageCharge" "bills" "LStorageCharge$Bills;", Cond.methodLink RX7 86 yX7_checkOwner, Cond.static yX7_checkOwner, Cond.code yX7_checkOwner cX7_checkOwner 1 none, Cond.methodLink RX7 50 yX7_isWithin, Cond.static yX7_isWithin, Cond.code yX7_isWithin cX7_isWithin 3 (some .boolean), Cond.methodLink RX7 189 yX1_find, Cond.instanceMethod yX1_find, Cond.selects RX1 yX1_find yX1_find, Cond.initialized RX1, Cond.code yX1_find cX1_find 6 (some (.object "StorageCharge$BillLine")), Cond.fieldLink RX1 12 "StorageCharge$Bills" "lines" "Ljava/util/ArrayList;"]
def wsL_line_r2 : List Cond := [Cond.classLink RX1 30 "StorageCharge$BillLine", Cond.methodLink RX1 18 yJx4a65c_size_8abf5, Cond.instanceMethod yJx4a65c_size_8abf5, Cond.selects RJx4a65c yJx4a65c_size_8abf5 yJx4a65c_size_8abf5, Cond.initialized RJx4a65c, Cond.code yJx4a65c_size_8abf5 cJx4a65c_size_8abf5 1 (some .int), Cond.fieldLink RJx4a65c 48 "java/util/ArrayList" "size" "I", Cond.methodLink RX1 26 yJx4a65c_get_915e3, Cond.instanceMethod yJx4a65c_get_915e3, Cond.selects RJx4a65c yJx4a65c_get_915e3 yJx4a65c_get_915e3, Cond.code yJx4a65c_get_915e3 cJx4a65c_get_915e3 2 (some (.object "java/lang/Object")), Cond.methodLink RJx4a65c 118 yJ15_checkIndex_7cf53, Cond.static yJ15_checkIndex_7cf53, Cond.initialized RJ15, Cond.code yJ15_checkIndex_7cf53 cJ15_checkIndex_7cf53 2 (some .int), Cond.methodLink RJ15 105 yJ3_checkIndex_8e157, Cond.static yJ3_checkIndex_8e157, Cond.initialized RJ3, Cond.code yJ3_checkIndex_8e157 cJ3_checkIndex_8e157 3 (some .int), Cond.methodLink RJx4a65c 123 yJx4a65c_elementData_915e3, Cond.instanceMethod yJx4a65c_elementData_915e3, Cond.selects RJx4a65c yJx4a65c_elementData_915e3 yJx4a65c_elementData_915e3, Cond.code yJx4a65c_elementData_915e3 cJx4a65c_elementData_915e3 2 (some (.object "java/lang/Object")), Cond.fieldLink RJx4a65c 9 "java/util/ArrayList" "elementData" "[Ljava/lang/Object;"]
def wsL_line : List Cond := .codeWith yL_line cL_line 6 (some .int) [(0, 12, 15, 25), (0, 12, 19, 13)] :: ((wsL_line_r1 ++ wsL_line_r2) ++ wsX70 ++ wsX00 ++ wsX10 ++ wsJx4a65c0 ++ (vx_atS RX7 197 "java/util/NoSuchElementException" ["java/lang/RuntimeException", "java/lang/Exception"]).filter goodWord ++ (vx_atS RX7 58 "java/lang/IllegalArgumentException" ["java/lang/RuntimeException", "java/lang/Exception"]).filter goodWord)
def wsL_billed_r1 : List Cond := [Cond.classLink RL 13 "java/lang/IllegalArgumentException", Cond.methodLink RL 57 yX7_billed, Cond.instanceMethod yX7_billed, Cond.selects RX7 yX7_billed yX7_billed, Cond.initialized RX7, Cond.code yX7_billed cX7_billed 2 (some .int), Cond.fieldLink RX7 39 "StorageCharge" "bills" "LStorageCharge$Bills;", Cond.methodLink RX7 86 yX7_checkOwner, Cond.static yX7_checkOwner, Cond.code yX7_checkOwner cX7_checkOwner 1 none, Cond.classLink RX7 54 "java/lang/IllegalArgumentException", Cond.initialized "java/lang/IllegalArgumentException", Cond.methodLink RX7 50 yX7_isWithin, Cond.static yX7_isWithin, Cond.code yX7_isWithin cX7_isWithin 3 (some .boolean), Cond.methodLink RX7 210 yX1_centsOfOwner, Cond.instanceMethod yX1_centsOfOwner, Cond.selects RX1 yX1_centsOfOwner yX1_centsOfOwner, Cond.initialized RX1, Cond.code yX1_centsOfOwner cX1_centsOfOwner 5 (some .int), Cond.fieldLink RX1 12 "StorageCharge$Bills" "lines" "Ljava/util/ArrayList;", Cond.classLink RX1 30 "StorageCharge$BillLine", Cond.methodLink RX1 18 yJx4a65c_size_8abf5, Cond.instanceMethod yJx4a65c_size_8abf5]
def wsL_billed_r2 : List Cond := [Cond.selects RJx4a65c yJx4a65c_size_8abf5 yJx4a65c_size_8abf5, Cond.initialized RJx4a65c, Cond.code yJx4a65c_size_8abf5 cJx4a65c_size_8abf5 1 (some .int), Cond.fieldLink RJx4a65c 48 "java/util/ArrayList" "size" "I", Cond.methodLink RX1 26 yJx4a65c_get_915e3, Cond.instanceMethod yJx4a65c_get_915e3, Cond.selects RJx4a65c yJx4a65c_get_915e3 yJx4a65c_get_915e3, Cond.code yJx4a65c_get_915e3 cJx4a65c_get_915e3 2 (some (.object "java/lang/Object")), Cond.methodLink RJx4a65c 118 yJ15_checkIndex_7cf53, Cond.static yJ15_checkIndex_7cf53, Cond.initialized RJ15, Cond.code yJ15_checkIndex_7cf53 cJ15_checkIndex_7cf53 2 (some .int), Cond.methodLink RJ15 105 yJ3_checkIndex_8e157, Cond.static yJ3_checkIndex_8e157, Cond.initialized RJ3, Cond.code yJ3_checkIndex_8e157 cJ3_checkIndex_8e157 3 (some .int), Cond.methodLink RJx4a65c 123 yJx4a65c_elementData_915e3, Cond.instanceMethod yJx4a65c_elementData_915e3, Cond.selects RJx4a65c yJx4a65c_elementData_915e3 yJx4a65c_elementData_915e3, Cond.code yJx4a65c_elementData_915e3 cJx4a65c_elementData_915e3 2 (some (.object "java/lang/Object")), Cond.fieldLink RJx4a65c 9 "java/util/ArrayList" "elementData" "[Ljava/lang/Object;"]
def wsL_billed : List Cond := .codeWith yL_billed cL_billed 4 (some .int) [(0, 9, 12, 13)] :: ((wsL_billed_r1 ++ wsL_billed_r2) ++ wsX70 ++ wsX10 ++ wsX00 ++ wsJx4a65c0 ++ (vx_atS RX7 58 "java/lang/IllegalArgumentException" ["java/lang/RuntimeException", "java/lang/Exception"]).filter goodWord)
def wsL_compare_r1 : List Cond := [Cond.classLink RL 13 "java/lang/IllegalArgumentException", Cond.methodLink RL 60 yX7_compare, Cond.instanceMethod yX7_compare, Cond.selects RX7 yX7_compare yX7_compare, Cond.initialized RX7, Cond.code yX7_compare cX7_compare 4 (some .int), Cond.methodLink RX7 86 yX7_checkOwner, Cond.static yX7_checkOwner, Cond.code yX7_checkOwner cX7_checkOwner 1 none, Cond.classLink RX7 54 "java/lang/IllegalArgumentException", Cond.initialized "java/lang/IllegalArgumentException", Cond.methodLink RX7 50 yX7_isWithin, Cond.static yX7_isWithin, Cond.code yX7_isWithin cX7_isWithin 3 (some .boolean), Cond.methodLink RX7 149 yX7_checkMonth, Cond.static yX7_checkMonth, Cond.code yX7_checkMonth cX7_checkMonth 1 none, Cond.methodLink RX7 152 yX7_sumBy, Cond.instanceMethod yX7_sumBy, Cond.selects RX7 yX7_sumBy yX7_sumBy, Cond.code yX7_sumBy cX7_sumBy 5 (some .int), Cond.fieldLink RX7 19 "StorageCharge" "charges" "LStorageCharge$Charges;", Cond.methodLink RX7 286 Lib.Math.max.name, Cond.static Lib.Math.max.name]
def wsL_compare_r2 : List Cond := [Cond.initialized "java/lang/Math", Cond.code Lib.Math.max.name Lib.Math.max.code 2 (some .int), Cond.methodLink RX7 164 yX7_storageBy, Cond.instanceMethod yX7_storageBy, Cond.selects RX7 yX7_storageBy yX7_storageBy, Cond.code yX7_storageBy cX7_storageBy 7 (some .int), Cond.fieldLink RX7 29 "StorageCharge" "units" "Ljava/util/ArrayList;", Cond.classLink RX7 100 "StorageCharge$Unit", Cond.methodLink RX7 95 yJx4a65c_size_8abf5, Cond.instanceMethod yJx4a65c_size_8abf5, Cond.selects RJx4a65c yJx4a65c_size_8abf5 yJx4a65c_size_8abf5, Cond.initialized RJx4a65c, Cond.code yJx4a65c_size_8abf5 cJx4a65c_size_8abf5 1 (some .int), Cond.fieldLink RJx4a65c 48 "java/util/ArrayList" "size" "I", Cond.methodLink RX7 111 yJx4a65c_get_915e3, Cond.instanceMethod yJx4a65c_get_915e3, Cond.selects RJx4a65c yJx4a65c_get_915e3 yJx4a65c_get_915e3, Cond.code yJx4a65c_get_915e3 cJx4a65c_get_915e3 2 (some (.object "java/lang/Object")), Cond.methodLink RJx4a65c 118 yJ15_checkIndex_7cf53, Cond.static yJ15_checkIndex_7cf53, Cond.initialized RJ15, Cond.code yJ15_checkIndex_7cf53 cJ15_checkIndex_7cf53 2 (some .int), Cond.methodLink RJ15 105 yJ3_checkIndex_8e157, Cond.static yJ3_checkIndex_8e157]
def wsL_compare_r3 : List Cond := [Cond.initialized RJ3, Cond.code yJ3_checkIndex_8e157 cJ3_checkIndex_8e157 3 (some .int), Cond.methodLink RJx4a65c 123 yJx4a65c_elementData_915e3, Cond.instanceMethod yJx4a65c_elementData_915e3, Cond.selects RJx4a65c yJx4a65c_elementData_915e3 yJx4a65c_elementData_915e3, Cond.code yJx4a65c_elementData_915e3 cJx4a65c_elementData_915e3 2 (some (.object "java/lang/Object")), Cond.fieldLink RJx4a65c 9 "java/util/ArrayList" "elementData" "[Ljava/lang/Object;", Cond.methodLink RX7 292 yX7_storageOfUnit, Cond.instanceMethod yX7_storageOfUnit, Cond.selects RX7 yX7_storageOfUnit yX7_storageOfUnit, Cond.code yX7_storageOfUnit cX7_storageOfUnit 8 (some .int), Cond.methodLink RX7 311 Lib.Math.min.name, Cond.static Lib.Math.min.name, Cond.code Lib.Math.min.name Lib.Math.min.code 2 (some .int), Cond.methodLink RX7 299 yX7_firstDayOf, Cond.static yX7_firstDayOf, Cond.code yX7_firstDayOf cX7_firstDayOf 1 (some .int), Cond.methodLink RX7 305 yX7_lastDayOf, Cond.static yX7_lastDayOf, Cond.code yX7_lastDayOf cX7_lastDayOf 1 (some .int), Cond.methodLink RX7 314 yX6_kindOn, Cond.instanceMethod yX6_kindOn, Cond.selects RX6 yX6_kindOn yX6_kindOn, Cond.initialized RX6]
def wsL_compare_r4 : List Cond := [Cond.code yX6_kindOn cX6_kindOn 4 (some .int), Cond.fieldLink RX6 19 "StorageCharge$Unit" "toldKinds" "[I", Cond.fieldLink RX6 26 "StorageCharge$Unit" "told" "I", Cond.fieldLink RX6 23 "StorageCharge$Unit" "toldDays" "[I", Cond.methodLink RX6 45 Lib.Math.max.name, Cond.methodLink RX7 317 yX2_storageCents, Cond.instanceMethod yX2_storageCents, Cond.selects RX2 yX2_storageCents yX2_storageCents, Cond.initialized RX2, Cond.code yX2_storageCents cX2_storageCents 3 (some .int), Cond.fieldLink RX2 9 "StorageCharge$Charges" "storage" "[I", Cond.methodLink RX2 57 yX2_place, Cond.static yX2_place, Cond.code yX2_place cX2_place 2 (some .int), Cond.methodLink RX2 72 yX2_toldOrZero, Cond.static yX2_toldOrZero, Cond.code yX2_toldOrZero cX2_toldOrZero 2 (some .int), Cond.methodLink RX7 156 yX7_unitDays, Cond.instanceMethod yX7_unitDays, Cond.selects RX7 yX7_unitDays yX7_unitDays, Cond.code yX7_unitDays cX7_unitDays 6 (some .int), Cond.methodLink RX7 132 yX6_daysThere, Cond.instanceMethod yX6_daysThere, Cond.selects RX6 yX6_daysThere yX6_daysThere]
def wsL_compare_r5 : List Cond := [Cond.code yX6_daysThere cX6_daysThere 3 (some .int), Cond.fieldLink RX6 9 "StorageCharge$Unit" "lastDay" "I", Cond.methodLink RX6 39 Lib.Math.min.name, Cond.fieldLink RX6 32 "StorageCharge$Unit" "firstDay" "I", Cond.methodLink RX7 296 yX2_percentFor, Cond.instanceMethod yX2_percentFor, Cond.selects RX2 yX2_percentFor yX2_percentFor, Cond.code yX2_percentFor cX2_percentFor 6 (some .int), Cond.fieldLink RX2 30 "StorageCharge$Charges" "discounts" "I", Cond.fieldLink RX2 21 "StorageCharge$Charges" "discountOwners" "[I", Cond.fieldLink RX2 24 "StorageCharge$Charges" "discountDays" "[I", Cond.fieldLink RX2 27 "StorageCharge$Charges" "discountPercents" "[I", Cond.methodLink RX7 280 yX7_handlingBy, Cond.instanceMethod yX7_handlingBy, Cond.selects RX7 yX7_handlingBy yX7_handlingBy, Cond.code yX7_handlingBy cX7_handlingBy 7 (some .int), Cond.fieldLink RX7 33 "StorageCharge" "moves" "Ljava/util/ArrayList;", Cond.classLink RX7 140 "StorageCharge$Move", Cond.methodLink RX7 329 yX2_handlingCents, Cond.instanceMethod yX2_handlingCents, Cond.selects RX2 yX2_handlingCents yX2_handlingCents, Cond.code yX2_handlingCents cX2_handlingCents 3 (some .int), Cond.fieldLink RX2 15 "StorageCharge$Charges" "handling" "[I", Cond.methodLink RX7 283 yX2_minimumOf]
def wsL_compare_r6 : List Cond := [Cond.instanceMethod yX2_minimumOf, Cond.selects RX2 yX2_minimumOf yX2_minimumOf, Cond.code yX2_minimumOf cX2_minimumOf 2 (some .int), Cond.fieldLink RX2 18 "StorageCharge$Charges" "minimum" "[I"]
def wsL_compare : List Cond := .codeWith yL_compare cL_compare 6 (some .int) [(0, 12, 15, 13)] :: ((wsL_compare_r1 ++ (wsL_compare_r2 ++ (wsL_compare_r3 ++ (wsL_compare_r4 ++ (wsL_compare_r5 ++ wsL_compare_r6))))) ++ wsX70 ++ wsX60 ++ wsJx4a65c0 ++ wsX20 ++ wsX30 ++ (vx_atS RX7 58 "java/lang/IllegalArgumentException" ["java/lang/RuntimeException", "java/lang/Exception"]).filter goodWord)
def wsL_print_r1 : List Cond := [Cond.classLink RL 13 "java/lang/IllegalArgumentException", Cond.methodLink RL 63 yX7_print, Cond.instanceMethod yX7_print, Cond.selects RX7 yX7_print yX7_print, Cond.initialized RX7, Cond.code yX7_print cX7_print 4 (some .int), Cond.fieldLink RX7 46 "StorageCharge" "paper" "LStorageCharge$Paper;", Cond.fieldLink RX7 39 "StorageCharge" "bills" "LStorageCharge$Bills;", Cond.classLink RX7 176 "StorageCharge$BillLine", Cond.methodLink RX7 86 yX7_checkOwner, Cond.static yX7_checkOwner, Cond.code yX7_checkOwner cX7_checkOwner 1 none, Cond.classLink RX7 54 "java/lang/IllegalArgumentException", Cond.initialized "java/lang/IllegalArgumentException", Cond.methodLink RX7 50 yX7_isWithin, Cond.static yX7_isWithin, Cond.code yX7_isWithin cX7_isWithin 3 (some .boolean), Cond.methodLink RX7 213 yX4_clear, Cond.instanceMethod yX4_clear, Cond.selects RX4 yX4_clear yX4_clear, Cond.initialized RX4, Cond.code yX4_clear cX4_clear 1 none, Cond.fieldLink RX4 15 "StorageCharge$Paper" "length" "I", Cond.methodLink RX7 95 yJx4a65c_size_8abf5]
def wsL_print_r2 : List Cond := [Cond.instanceMethod yJx4a65c_size_8abf5, Cond.selects RJx4a65c yJx4a65c_size_8abf5 yJx4a65c_size_8abf5, Cond.initialized RJx4a65c, Cond.code yJx4a65c_size_8abf5 cJx4a65c_size_8abf5 1 (some .int), Cond.fieldLink RJx4a65c 48 "java/util/ArrayList" "size" "I", Cond.methodLink RX7 111 yJx4a65c_get_915e3, Cond.instanceMethod yJx4a65c_get_915e3, Cond.selects RJx4a65c yJx4a65c_get_915e3 yJx4a65c_get_915e3, Cond.code yJx4a65c_get_915e3 cJx4a65c_get_915e3 2 (some (.object "java/lang/Object")), Cond.methodLink RJx4a65c 118 yJ15_checkIndex_7cf53, Cond.static yJ15_checkIndex_7cf53, Cond.initialized RJ15, Cond.code yJ15_checkIndex_7cf53 cJ15_checkIndex_7cf53 2 (some .int), Cond.methodLink RJ15 105 yJ3_checkIndex_8e157, Cond.static yJ3_checkIndex_8e157, Cond.initialized RJ3, Cond.code yJ3_checkIndex_8e157 cJ3_checkIndex_8e157 3 (some .int), Cond.methodLink RJx4a65c 123 yJx4a65c_elementData_915e3, Cond.instanceMethod yJx4a65c_elementData_915e3, Cond.selects RJx4a65c yJx4a65c_elementData_915e3 yJx4a65c_elementData_915e3, Cond.code yJx4a65c_elementData_915e3 cJx4a65c_elementData_915e3 2 (some (.object "java/lang/Object")), Cond.fieldLink RJx4a65c 9 "java/util/ArrayList" "elementData" "[Ljava/lang/Object;", Cond.methodLink RX7 220 yX4_write, Cond.instanceMethod yX4_write]
def wsL_print_r3 : List Cond := [Cond.selects RX4 yX4_write yX4_write, Cond.code yX4_write cX4_write 2 none, Cond.methodLink RX4 25 yX4_put, Cond.instanceMethod yX4_put, Cond.selects RX4 yX4_put yX4_put, Cond.code yX4_put cX4_put 2 none, Cond.fieldLink RX4 9 "StorageCharge$Paper" "signs" "[C", Cond.methodLink RX4 32 yX4_putNumber, Cond.instanceMethod yX4_putNumber, Cond.selects RX4 yX4_putNumber yX4_putNumber, Cond.code yX4_putNumber cX4_putNumber 6 none, Cond.methodLink RX4 38 Lib.MathLoose.abs_long.x, Cond.static Lib.MathLoose.abs_long.x, Cond.initialized "java/lang/Math", Cond.code Lib.MathLoose.abs_long.x Lib.MathLoose.abs_long.code 2 (some .long), Cond.constantLong RX4 44 (1000000000), Cond.constantLong RX4 46 (48), Cond.constantLong RX4 48 (10)]
def wsL_print : List Cond := .codeWith yL_print cL_print 4 (some .int) [(0, 9, 12, 13)] :: ((wsL_print_r1 ++ (wsL_print_r2 ++ wsL_print_r3)) ++ wsX70 ++ wsX10 ++ wsX00 ++ wsX40 ++ wsJx4a65c0 ++ (vx_atS RX7 58 "java/lang/IllegalArgumentException" ["java/lang/RuntimeException", "java/lang/Exception"]).filter goodWord)
def wsL_at : List Cond := .codeWith yL_at cL_at 4 (some .int) [(0, 9, 12, 69)] :: ([.methodLink RL 66 yX7_at, .instanceMethod yX7_at, .selects RX7 yX7_at yX7_at, .initialized RX7, .code yX7_at cX7_at 2 (some .int), .fieldLink RX7 46 "StorageCharge" "paper" "LStorageCharge$Paper;", .classLink RX7 224 RJx00060, .instantiable RJx00060 6, .initialized RJx00060, .methodLink RX7 50 yX7_isWithin, .static yX7_isWithin, .code yX7_isWithin cX7_isWithin 3 (some .boolean)] ++ wsX70 ++ wsX40 ++ wsJx000600)
def wsL_law0_r1 : List Cond := [Cond.classLink RL 8 RX7, Cond.instantiable RX7 7, Cond.initialized RX7, Cond.classLink RL 72 RX8, Cond.instantiable RX8 34, Cond.initialized RX8, Cond.arrayClass .long, Cond.methodLink RL 71 yX7_init, Cond.instanceMethod yX7_init, Cond.code yX7_init cX7_init 1 none, Cond.methodLink RX7 1 objectInit, Cond.instanceMethod objectInit, Cond.code objectInit ⟨#[0xb1]⟩ 1 none, Cond.classLink RX7 7 RX5, Cond.instantiable RX5 3, Cond.initialized RX5, Cond.fieldLink RX7 10 "StorageCharge" "text" "LStorageCharge$Text;", Cond.classLink RX7 16 RX2, Cond.instantiable RX2 9, Cond.initialized RX2, Cond.fieldLink RX7 19 "StorageCharge" "charges" "LStorageCharge$Charges;", Cond.fieldLink RX7 23 "StorageCharge" "draft" "LStorageCharge$Charges;", Cond.classLink RX7 26 RJx4a65c, Cond.instantiable RJx4a65c 3]
def wsL_law0_r2 : List Cond := [Cond.initialized RJx4a65c, Cond.fieldLink RX7 29 "StorageCharge" "units" "Ljava/util/ArrayList;", Cond.fieldLink RX7 33 "StorageCharge" "moves" "Ljava/util/ArrayList;", Cond.classLink RX7 36 RX1, Cond.instantiable RX1 1, Cond.initialized RX1, Cond.fieldLink RX7 39 "StorageCharge" "bills" "LStorageCharge$Bills;", Cond.classLink RX7 43 RX4, Cond.instantiable RX4 2, Cond.initialized RX4, Cond.fieldLink RX7 46 "StorageCharge" "paper" "LStorageCharge$Paper;", Cond.instanceMethod yX5_init, Cond.code yX5_init cX5_init 1 none, Cond.methodLink RX5 3 objectInit, Cond.arrayClass .char, Cond.fieldLink RX5 9 "StorageCharge$Text" "signs" "[C", Cond.fieldLink RX5 15 "StorageCharge$Text" "length" "I", Cond.fieldLink RX5 19 "StorageCharge$Text" "place" "I", Cond.methodLink RX7 18 yX2_init, Cond.instanceMethod yX2_init, Cond.code yX2_init cX2_init 1 none, Cond.methodLink RX2 3 objectInit, Cond.arrayClass .int, Cond.fieldLink RX2 9 "StorageCharge$Charges" "storage" "[I"]
def wsL_law0_r3 : List Cond := [Cond.fieldLink RX2 15 "StorageCharge$Charges" "handling" "[I", Cond.fieldLink RX2 18 "StorageCharge$Charges" "minimum" "[I", Cond.fieldLink RX2 21 "StorageCharge$Charges" "discountOwners" "[I", Cond.fieldLink RX2 24 "StorageCharge$Charges" "discountDays" "[I", Cond.fieldLink RX2 27 "StorageCharge$Charges" "discountPercents" "[I", Cond.fieldLink RX2 30 "StorageCharge$Charges" "discounts" "I", Cond.fieldLink RX2 34 "StorageCharge$Charges" "lines" "I", Cond.fieldLink RX2 37 "StorageCharge$Charges" "owners" "I", Cond.methodLink RX2 40 yX2_clear, Cond.instanceMethod yX2_clear, Cond.selects RX2 yX2_clear yX2_clear, Cond.code yX2_clear cX2_clear 1 none, Cond.methodLink RX2 43 yJ7_fill_53178, Cond.static yJ7_fill_53178, Cond.initialized RJ7, Cond.code yJ7_fill_53178 cJ7_fill_53178 4 none, Cond.methodLink RX7 28 yJx4a65c_init_da8c8, Cond.instanceMethod yJx4a65c_init_da8c8, Cond.code yJx4a65c_init_da8c8 cJx4a65c_init_da8c8 1 none, Cond.fieldLink RJx4a65c 39 "java/util/ArrayList" "DEFAULTCAPACITY_EMPTY_ELEMENTDATA" "[Ljava/lang/Object;", Cond.fieldLink RJx4a65c 9 "java/util/ArrayList" "elementData" "[Ljava/lang/Object;", Cond.methodLink RJx4a65c 1 yJxc12de_init_da8c8, Cond.instanceMethod yJxc12de_init_da8c8, Cond.initialized RJxc12de]
def wsL_law0_r4 : List Cond := [Cond.code yJxc12de_init_da8c8 cJxc12de_init_da8c8 1 none, Cond.fieldLink RJxc12de 7 "java/util/AbstractList" "modCount" "I", Cond.methodLink RJxc12de 1 yJxa1e45_init_da8c8, Cond.instanceMethod yJxa1e45_init_da8c8, Cond.initialized RJxa1e45, Cond.code yJxa1e45_init_da8c8 cJxa1e45_init_da8c8 1 none, Cond.methodLink RJxa1e45 1 objectInit, Cond.instanceMethod yX1_init, Cond.code yX1_init cX1_init 1 none, Cond.methodLink RX1 3 objectInit, Cond.classLink RX1 9 RJx4a65c, Cond.fieldLink RX1 12 "StorageCharge$Bills" "lines" "Ljava/util/ArrayList;", Cond.methodLink RX1 11 yJx4a65c_init_da8c8, Cond.instanceMethod yX4_init, Cond.code yX4_init cX4_init 1 none, Cond.methodLink RX4 3 objectInit, Cond.fieldLink RX4 9 "StorageCharge$Paper" "signs" "[C", Cond.fieldLink RX4 15 "StorageCharge$Paper" "length" "I", Cond.methodLink RL 74 yX8_init, Cond.instanceMethod yX8_init, Cond.code yX8_init cX8_init 1 none, Cond.methodLink RX8 1 objectInit, Cond.fieldLink RX8 7 "StorageChargeModel" "text" "[I", Cond.fieldLink RX8 13 "StorageChargeModel" "letter" "[I"]
def wsL_law0_r5 : List Cond := [Cond.fieldLink RX8 16 "StorageChargeModel" "lineOwner" "[I", Cond.fieldLink RX8 19 "StorageChargeModel" "what" "[I", Cond.fieldLink RX8 22 "StorageChargeModel" "much" "[I", Cond.fieldLink RX8 25 "StorageChargeModel" "newLetter" "[I", Cond.fieldLink RX8 28 "StorageChargeModel" "newOwner" "[I", Cond.fieldLink RX8 31 "StorageChargeModel" "newWhat" "[I", Cond.fieldLink RX8 34 "StorageChargeModel" "newMuch" "[I", Cond.fieldLink RX8 37 "StorageChargeModel" "unitOwner" "[I", Cond.fieldLink RX8 40 "StorageChargeModel" "from" "[I", Cond.fieldLink RX8 43 "StorageChargeModel" "to" "[I", Cond.fieldLink RX8 46 "StorageChargeModel" "told" "[I", Cond.fieldLink RX8 49 "StorageChargeModel" "toldDay" "[I", Cond.fieldLink RX8 52 "StorageChargeModel" "toldKind" "[I", Cond.fieldLink RX8 55 "StorageChargeModel" "moveOwner" "[I", Cond.fieldLink RX8 58 "StorageChargeModel" "moveKind" "[I", Cond.fieldLink RX8 61 "StorageChargeModel" "moveDay" "[I", Cond.fieldLink RX8 64 "StorageChargeModel" "pieces" "[I", Cond.fieldLink RX8 67 "StorageChargeModel" "rowOwner" "[I", Cond.fieldLink RX8 70 "StorageChargeModel" "rowMonth" "[I", Cond.fieldLink RX8 73 "StorageChargeModel" "rowCents" "[I", Cond.arrayClass .boolean, Cond.fieldLink RX8 76 "StorageChargeModel" "rowCorrects" "[Z", Cond.fieldLink RX8 80 "StorageChargeModel" "isBilled" "[Z", Cond.fieldLink RX8 83 "StorageChargeModel" "print" "[I"]
def wsL_law0_r6 : List Cond := [Cond.methodLink RL 75 yL_sign, Cond.static yL_sign, Cond.initialized RL, Cond.codeWith yL_sign cL_sign 4 (some .int) [(0, 9, 12, 13), (0, 9, 15, 15)], Cond.classLink RL 13 "java/lang/IllegalArgumentException", Cond.classLink RL 15 "java/lang/UnsupportedOperationException", Cond.methodLink RL 7 yX7_sign, Cond.instanceMethod yX7_sign, Cond.selects RX7 yX7_sign yX7_sign, Cond.code yX7_sign cX7_sign 2 (some .int), Cond.classLink RX7 54 "java/lang/IllegalArgumentException", Cond.initialized "java/lang/IllegalArgumentException", Cond.classLink RX7 65 "java/lang/UnsupportedOperationException", Cond.initialized "java/lang/UnsupportedOperationException", Cond.methodLink RX7 50 yX7_isWithin, Cond.static yX7_isWithin, Cond.code yX7_isWithin cX7_isWithin 3 (some .boolean), Cond.methodLink RX7 61 yX5_isFull, Cond.instanceMethod yX5_isFull, Cond.selects RX5 yX5_isFull yX5_isFull, Cond.code yX5_isFull cX5_isFull 1 (some .boolean), Cond.methodLink RX7 70 yX5_add, Cond.instanceMethod yX5_add, Cond.selects RX5 yX5_add yX5_add]
def wsL_law0_r7 : List Cond := [Cond.code yX5_add cX5_add 2 none, Cond.methodLink RX5 22 yX5_isFull, Cond.methodLink RL 80 yX8_sign, Cond.instanceMethod yX8_sign, Cond.selects RX8 yX8_sign yX8_sign, Cond.code yX8_sign cX8_sign 2 (some .int), Cond.fieldLink RX8 94 "StorageChargeModel" "signs" "I", Cond.fieldLink RX8 86 "StorageChargeModel" "code" "I", Cond.methodLink RX8 90 yX8_in, Cond.static yX8_in, Cond.code yX8_in cX8_in 3 (some .boolean), Cond.methodLink RL 81 yX8_thrown, Cond.instanceMethod yX8_thrown, Cond.selects RX8 yX8_thrown yX8_thrown, Cond.code yX8_thrown cX8_thrown 1 (some .int), Cond.methodLink RL 85 yX7_read, Cond.instanceMethod yX7_read, Cond.selects RX7 yX7_read yX7_read, Cond.code yX7_read cX7_read 3 (some .int), Cond.methodLink RX7 81 yX7_readLines, Cond.instanceMethod yX7_readLines, Cond.selects RX7 yX7_readLines yX7_readLines, Cond.code yX7_readLines cX7_readLines 3 (some .int), Cond.methodLink RX7 261 yX5_isRead]
def wsL_law0_r8 : List Cond := [Cond.instanceMethod yX5_isRead, Cond.selects RX5 yX5_isRead yX5_isRead, Cond.code yX5_isRead cX5_isRead 1 (some .boolean), Cond.methodLink RX7 267 yX7_readLine, Cond.instanceMethod yX7_readLine, Cond.selects RX7 yX7_readLine yX7_readLine, Cond.code yX7_readLine cX7_readLine 5 (some .boolean), Cond.methodLink RX7 270 yX5_takeSign, Cond.instanceMethod yX5_takeSign, Cond.selects RX5 yX5_takeSign yX5_takeSign, Cond.code yX5_takeSign cX5_takeSign 2 (some .int), Cond.methodLink RX5 30 yX5_nextSign, Cond.instanceMethod yX5_nextSign, Cond.selects RX5 yX5_nextSign yX5_nextSign, Cond.code yX5_nextSign cX5_nextSign 1 (some .int), Cond.methodLink RX7 273 yX5_takeNumber, Cond.instanceMethod yX5_takeNumber, Cond.selects RX5 yX5_takeNumber yX5_takeNumber, Cond.code yX5_takeNumber cX5_takeNumber 5 (some .int), Cond.methodLink RX5 34 yX5_takeSign, Cond.methodLink RX7 276 yX2_tell, Cond.instanceMethod yX2_tell, Cond.selects RX2 yX2_tell yX2_tell, Cond.code yX2_tell cX2_tell 5 (some .boolean)]
def wsL_law0_r9 : List Cond := [Cond.methodLink RX2 53 yX2_tellOf, Cond.instanceMethod yX2_tellOf, Cond.selects RX2 yX2_tellOf yX2_tellOf, Cond.code yX2_tellOf cX2_tellOf 5 (some .boolean), Cond.methodLink RX2 57 yX2_place, Cond.static yX2_place, Cond.code yX2_place cX2_place 2 (some .int), Cond.methodLink RX2 61 yX2_tellCents, Cond.static yX2_tellCents, Cond.code yX2_tellCents cX2_tellCents 3 (some .boolean), Cond.methodLink RX2 65 yX2_tellDiscount, Cond.instanceMethod yX2_tellDiscount, Cond.selects RX2 yX2_tellDiscount yX2_tellDiscount, Cond.code yX2_tellDiscount cX2_tellDiscount 4 (some .boolean), Cond.methodLink RX2 68 yX2_hasDiscount, Cond.instanceMethod yX2_hasDiscount, Cond.selects RX2 yX2_hasDiscount yX2_hasDiscount, Cond.code yX2_hasDiscount cX2_hasDiscount 4 (some .boolean), Cond.methodLink RX7 85 yX5_clear, Cond.instanceMethod yX5_clear, Cond.selects RX5 yX5_clear yX5_clear, Cond.code yX5_clear cX5_clear 1 none, Cond.methodLink RL 88 yX8_read, Cond.instanceMethod yX8_read]
def wsL_law0_r10 : List Cond := [Cond.selects RX8 yX8_read yX8_read, Cond.code yX8_read cX8_read 2 (some .int), Cond.fieldLink RX8 97 "StorageChargeModel" "at" "I", Cond.fieldLink RX8 104 "StorageChargeModel" "fresh" "I", Cond.fieldLink RX8 124 "StorageChargeModel" "lines" "I", Cond.methodLink RX8 120 yX8_line, Cond.instanceMethod yX8_line, Cond.selects RX8 yX8_line yX8_line, Cond.code yX8_line cX8_line 6 (some .boolean), Cond.methodLink RX8 100 yX8_next, Cond.instanceMethod yX8_next, Cond.selects RX8 yX8_next yX8_next, Cond.code yX8_next cX8_next 1 (some .int), Cond.methodLink RX8 107 yX8_number, Cond.instanceMethod yX8_number, Cond.selects RX8 yX8_number yX8_number, Cond.code yX8_number cX8_number 3 (some .int), Cond.methodLink RX8 110 yX8_isOwner, Cond.static yX8_isOwner, Cond.code yX8_isOwner cX8_isOwner 1 (some .boolean), Cond.methodLink RX8 114 yX8_isKind, Cond.static yX8_isKind, Cond.code yX8_isKind cX8_isKind 1 (some .boolean), Cond.methodLink RX8 117 yX8_isAgain]
def wsL_law0_r11 : List Cond := [Cond.instanceMethod yX8_isAgain, Cond.selects RX8 yX8_isAgain yX8_isAgain, Cond.code yX8_isAgain cX8_isAgain 5 (some .boolean), Cond.methodLink RL 89 yL_unit, Cond.static yL_unit, Cond.codeWith yL_unit cL_unit 6 (some .int) [(0, 12, 15, 13), (0, 12, 19, 15)], Cond.methodLink RL 17 yX7_unit, Cond.instanceMethod yX7_unit, Cond.selects RX7 yX7_unit yX7_unit, Cond.code yX7_unit cX7_unit 4 (some .int), Cond.classLink RX7 100 RX6, Cond.instantiable RX6 7, Cond.initialized RX6, Cond.methodLink RX7 86 yX7_checkOwner, Cond.static yX7_checkOwner, Cond.code yX7_checkOwner cX7_checkOwner 1 none, Cond.methodLink RX7 89 yX7_checkKind, Cond.static yX7_checkKind, Cond.code yX7_checkKind cX7_checkKind 1 none, Cond.methodLink RX7 92 yX7_checkDay, Cond.static yX7_checkDay, Cond.code yX7_checkDay cX7_checkDay 1 none, Cond.methodLink RX7 95 yJx4a65c_size_8abf5, Cond.instanceMethod yJx4a65c_size_8abf5]
def wsL_law0_r12 : List Cond := [Cond.selects RJx4a65c yJx4a65c_size_8abf5 yJx4a65c_size_8abf5, Cond.code yJx4a65c_size_8abf5 cJx4a65c_size_8abf5 1 (some .int), Cond.fieldLink RJx4a65c 48 "java/util/ArrayList" "size" "I", Cond.methodLink RX7 102 yX6_init, Cond.instanceMethod yX6_init, Cond.code yX6_init cX6_init 4 none, Cond.methodLink RX6 3 objectInit, Cond.fieldLink RX6 9 "StorageCharge$Unit" "lastDay" "I", Cond.fieldLink RX6 15 "StorageCharge$Unit" "isGone" "Z", Cond.fieldLink RX6 19 "StorageCharge$Unit" "toldKinds" "[I", Cond.fieldLink RX6 23 "StorageCharge$Unit" "toldDays" "[I", Cond.fieldLink RX6 26 "StorageCharge$Unit" "told" "I", Cond.fieldLink RX6 29 "StorageCharge$Unit" "owner" "I", Cond.fieldLink RX6 32 "StorageCharge$Unit" "firstDay" "I", Cond.methodLink RX7 105 yJx4a65c_add_9ea2d, Cond.instanceMethod yJx4a65c_add_9ea2d, Cond.selects RJx4a65c yJx4a65c_add_9ea2d yJx4a65c_add_9ea2d, Cond.code yJx4a65c_add_9ea2d cJx4a65c_add_9ea2d 2 (some .boolean), Cond.fieldLink RJx4a65c 63 "java/util/ArrayList" "modCount" "I", Cond.sameField "java/util/ArrayList" "java/util/AbstractList" "modCount" "I", Cond.methodLink RJx4a65c 131 yJx4a65c_add_72be8, Cond.instanceMethod yJx4a65c_add_72be8, Cond.selects RJx4a65c yJx4a65c_add_72be8 yJx4a65c_add_72be8, Cond.code yJx4a65c_add_72be8 cJx4a65c_add_72be8 4 none]
def wsL_law0_r13 : List Cond := [Cond.methodLink RJx4a65c 129 yJx4a65c_grow_d5877, Cond.instanceMethod yJx4a65c_grow_d5877, Cond.selects RJx4a65c yJx4a65c_grow_d5877 yJx4a65c_grow_d5877, Cond.code yJx4a65c_grow_d5877 cJx4a65c_grow_d5877 1 (some (.array (.object "java/lang/Object"))), Cond.methodLink RJx4a65c 69 yJx4a65c_grow_92f84, Cond.instanceMethod yJx4a65c_grow_92f84, Cond.selects RJx4a65c yJx4a65c_grow_92f84 yJx4a65c_grow_92f84, Cond.code yJx4a65c_grow_92f84 cJx4a65c_grow_92f84 4 (some (.array (.object "java/lang/Object"))), Cond.methodLink RJx4a65c 79 Lib.Math.max.name, Cond.static Lib.Math.max.name, Cond.initialized "java/lang/Math", Cond.code Lib.Math.max.name Lib.Math.max.code 2 (some .int), Cond.classLink RJx4a65c 7 "java/lang/Object", Cond.methodLink RJx4a65c 73 yJ8_newLength_cabcc, Cond.static yJ8_newLength_cabcc, Cond.initialized RJ8, Cond.code yJ8_newLength_cabcc cJ8_newLength_cabcc 4 (some .int), Cond.methodLink RJ8 194 Lib.Math.max.name, Cond.constant RJ8 200 (2147483639), Cond.methodLink RJ8 201 yJ8_hugeLength_7cf53, Cond.static yJ8_hugeLength_7cf53, Cond.code yJ8_hugeLength_7cf53 cJ8_hugeLength_7cf53 3 (some .int), Cond.methodLink RJx4a65c 66 yJ7_copyOf_1904c, Cond.static yJ7_copyOf_1904c]
def wsL_law0_r14 : List Cond := [Cond.code yJ7_copyOf_1904c cJ7_copyOf_1904c 2 (some (.array (.object "java/lang/Object"))), Cond.methodLink RJ7 86 ⟨"java/lang/Object", "getClass", "()Ljava/lang/Class;"⟩, Cond.selects "[Ljava/lang/Object;" ⟨"java/lang/Object", "getClass", "()Ljava/lang/Class;"⟩ ⟨"java/lang/Object", "getClass", "()Ljava/lang/Class;"⟩, Cond.instanceMethod ⟨"java/lang/Object", "getClass", "()Ljava/lang/Class;"⟩, Cond.native ⟨"java/lang/Object", "getClass", "()Ljava/lang/Class;"⟩, Cond.methodLink RJ7 300 yJ7_copyOf_6403c, Cond.static yJ7_copyOf_6403c, Cond.code yJ7_copyOf_6403c cJ7_copyOf_6403c 4 (some (.array (.object "java/lang/Object"))), Cond.classLink RJ7 110 "[Ljava/lang/Object;", Cond.classLink RJ7 2 "java/lang/Object", Cond.methodLink RJ7 304 Lib.Math.min.name, Cond.static Lib.Math.min.name, Cond.code Lib.Math.min.name Lib.Math.min.code 2 (some .int), Cond.methodLink RJ7 150 arraycopyName, Cond.native arraycopyName, Cond.static arraycopyName, Cond.initialized "java/lang/System", Cond.methodLink RL 92 yX8_unit, Cond.instanceMethod yX8_unit, Cond.selects RX8 yX8_unit yX8_unit, Cond.code yX8_unit cX8_unit 4 (some .int), Cond.fieldLink RX8 134 "StorageChargeModel" "units" "I", Cond.constant RX8 137 (100000), Cond.methodLink RX8 131 yX8_isDay]
def wsL_law0_r15 : List Cond := [Cond.static yX8_isDay, Cond.code yX8_isDay cX8_isDay 1 (some .boolean), Cond.methodLink RL 93 yL_change, Cond.static yL_change, Cond.codeWith yL_change cL_change 6 (some .int) [(0, 19, 22, 25), (0, 19, 26, 13), (0, 19, 30, 27), (0, 19, 34, 15)], Cond.classLink RL 25 "java/util/NoSuchElementException", Cond.classLink RL 27 "java/lang/IllegalStateException", Cond.methodLink RL 21 yX7_change, Cond.instanceMethod yX7_change, Cond.selects RX7 yX7_change yX7_change, Cond.code yX7_change cX7_change 6 (some .boolean), Cond.classLink RX7 100 "StorageCharge$Unit", Cond.methodLink RX7 108 yX7_checkUnit, Cond.instanceMethod yX7_checkUnit, Cond.selects RX7 yX7_checkUnit yX7_checkUnit, Cond.code yX7_checkUnit cX7_checkUnit 2 none, Cond.classLink RX7 193 "java/util/NoSuchElementException", Cond.initialized "java/util/NoSuchElementException", Cond.methodLink RX7 111 yJx4a65c_get_915e3, Cond.instanceMethod yJx4a65c_get_915e3, Cond.selects RJx4a65c yJx4a65c_get_915e3 yJx4a65c_get_915e3, Cond.code yJx4a65c_get_915e3 cJx4a65c_get_915e3 2 (some (.object "java/lang/Object")), Cond.methodLink RJx4a65c 118 yJ15_checkIndex_7cf53, Cond.static yJ15_checkIndex_7cf53]
def wsL_law0_r16 : List Cond := [Cond.initialized RJ15, Cond.code yJ15_checkIndex_7cf53 cJ15_checkIndex_7cf53 2 (some .int), Cond.methodLink RJ15 105 yJ3_checkIndex_8e157, Cond.static yJ3_checkIndex_8e157, Cond.initialized RJ3, Cond.code yJ3_checkIndex_8e157 cJ3_checkIndex_8e157 3 (some .int), Cond.methodLink RJx4a65c 123 yJx4a65c_elementData_915e3, Cond.instanceMethod yJx4a65c_elementData_915e3, Cond.selects RJx4a65c yJx4a65c_elementData_915e3 yJx4a65c_elementData_915e3, Cond.code yJx4a65c_elementData_915e3 cJx4a65c_elementData_915e3 2 (some (.object "java/lang/Object")), Cond.methodLink RX7 115 yX7_checkGoesOn, Cond.static yX7_checkGoesOn, Cond.code yX7_checkGoesOn cX7_checkGoesOn 2 none, Cond.classLink RX7 171 "java/lang/IllegalStateException", Cond.initialized "java/lang/IllegalStateException", Cond.methodLink RX7 256 yX6_dayToldLast, Cond.instanceMethod yX6_dayToldLast, Cond.selects RX6 yX6_dayToldLast yX6_dayToldLast, Cond.code yX6_dayToldLast cX6_dayToldLast 1 (some .int), Cond.methodLink RX7 119 yX6_isFull, Cond.instanceMethod yX6_isFull, Cond.selects RX6 yX6_isFull yX6_isFull, Cond.code yX6_isFull cX6_isFull 1 (some .boolean), Cond.methodLink RX7 122 yX6_kindToldLast]
def wsL_law0_r17 : List Cond := [Cond.instanceMethod yX6_kindToldLast, Cond.selects RX6 yX6_kindToldLast yX6_kindToldLast, Cond.code yX6_kindToldLast cX6_kindToldLast 1 (some .int), Cond.methodLink RX7 125 yX6_tell, Cond.instanceMethod yX6_tell, Cond.selects RX6 yX6_tell yX6_tell, Cond.code yX6_tell cX6_tell 3 none, Cond.methodLink RX6 35 yX6_isFull, Cond.methodLink RL 95 yX8_change, Cond.instanceMethod yX8_change, Cond.selects RX8 yX8_change yX8_change, Cond.code yX8_change cX8_change 5 (some .boolean), Cond.methodLink RX8 138 yX8_isUnit, Cond.instanceMethod yX8_isUnit, Cond.selects RX8 yX8_isUnit yX8_isUnit, Cond.code yX8_isUnit cX8_isUnit 2 (some .boolean), Cond.methodLink RX8 141 yX8_isLate, Cond.instanceMethod yX8_isLate, Cond.selects RX8 yX8_isLate yX8_isLate, Cond.code yX8_isLate cX8_isLate 3 (some .boolean), Cond.methodLink RL 96 yL_gone, Cond.static yL_gone, Cond.codeWith yL_gone cL_gone 5 (some .int) [(0, 10, 13, 25), (0, 10, 17, 13), (0, 10, 21, 27)], Cond.methodLink RL 29 yX7_gone]
def wsL_law0_r18 : List Cond := [Cond.instanceMethod yX7_gone, Cond.selects RX7 yX7_gone yX7_gone, Cond.code yX7_gone cX7_gone 4 (some .int), Cond.methodLink RX7 129 yX6_leave, Cond.instanceMethod yX6_leave, Cond.selects RX6 yX6_leave yX6_leave, Cond.code yX6_leave cX6_leave 2 none, Cond.methodLink RX7 132 yX6_daysThere, Cond.instanceMethod yX6_daysThere, Cond.selects RX6 yX6_daysThere yX6_daysThere, Cond.code yX6_daysThere cX6_daysThere 3 (some .int), Cond.methodLink RX6 39 Lib.Math.min.name, Cond.methodLink RX6 45 Lib.Math.max.name, Cond.methodLink RL 99 yX8_gone, Cond.instanceMethod yX8_gone, Cond.selects RX8 yX8_gone yX8_gone, Cond.code yX8_gone cX8_gone 3 (some .int), Cond.methodLink RL 100 yL_move, Cond.static yL_move, Cond.codeWith yL_move cL_move 7 (some .int) [(0, 14, 17, 13), (0, 14, 21, 15)], Cond.methodLink RL 33 yX7_move, Cond.instanceMethod yX7_move, Cond.selects RX7 yX7_move yX7_move, Cond.code yX7_move cX7_move 5 (some .int)]
def wsL_law0_r19 : List Cond := [Cond.classLink RX7 140 RX3, Cond.instantiable RX3 4, Cond.initialized RX3, Cond.methodLink RX7 142 yX3_init, Cond.instanceMethod yX3_init, Cond.code yX3_init cX3_init 5 none, Cond.methodLink RX3 1 objectInit, Cond.fieldLink RX3 7 "StorageCharge$Move" "owner" "I", Cond.fieldLink RX3 13 "StorageCharge$Move" "kind" "I", Cond.fieldLink RX3 16 "StorageCharge$Move" "day" "I", Cond.fieldLink RX3 19 "StorageCharge$Move" "pieces" "I", Cond.methodLink RX7 145 yX7_movesOf, Cond.instanceMethod yX7_movesOf, Cond.selects RX7 yX7_movesOf yX7_movesOf, Cond.code yX7_movesOf cX7_movesOf 4 (some .int), Cond.classLink RX7 140 "StorageCharge$Move", Cond.methodLink RL 103 yX8_move, Cond.instanceMethod yX8_move, Cond.selects RX8 yX8_move yX8_move, Cond.code yX8_move cX8_move 7 (some .int), Cond.fieldLink RX8 145 "StorageChargeModel" "moves" "I", Cond.methodLink RL 104 yL_sum, Cond.static yL_sum, Cond.codeWith yL_sum cL_sum 5 (some .int) [(0, 10, 13, 13)]]
def wsL_law0_r20 : List Cond := [Cond.methodLink RL 37 yX7_sum, Cond.instanceMethod yX7_sum, Cond.selects RX7 yX7_sum yX7_sum, Cond.code yX7_sum cX7_sum 3 (some .int), Cond.methodLink RX7 149 yX7_checkMonth, Cond.static yX7_checkMonth, Cond.code yX7_checkMonth cX7_checkMonth 1 none, Cond.methodLink RX7 152 yX7_sumBy, Cond.instanceMethod yX7_sumBy, Cond.selects RX7 yX7_sumBy yX7_sumBy, Cond.code yX7_sumBy cX7_sumBy 5 (some .int), Cond.methodLink RX7 286 Lib.Math.max.name, Cond.methodLink RX7 164 yX7_storageBy, Cond.instanceMethod yX7_storageBy, Cond.selects RX7 yX7_storageBy yX7_storageBy, Cond.code yX7_storageBy cX7_storageBy 7 (some .int), Cond.methodLink RX7 292 yX7_storageOfUnit, Cond.instanceMethod yX7_storageOfUnit, Cond.selects RX7 yX7_storageOfUnit yX7_storageOfUnit, Cond.code yX7_storageOfUnit cX7_storageOfUnit 8 (some .int), Cond.methodLink RX7 311 Lib.Math.min.name, Cond.methodLink RX7 299 yX7_firstDayOf, Cond.static yX7_firstDayOf, Cond.code yX7_firstDayOf cX7_firstDayOf 1 (some .int)]
def wsL_law0_r21 : List Cond := [Cond.methodLink RX7 305 yX7_lastDayOf, Cond.static yX7_lastDayOf, Cond.code yX7_lastDayOf cX7_lastDayOf 1 (some .int), Cond.methodLink RX7 314 yX6_kindOn, Cond.instanceMethod yX6_kindOn, Cond.selects RX6 yX6_kindOn yX6_kindOn, Cond.code yX6_kindOn cX6_kindOn 4 (some .int), Cond.methodLink RX7 317 yX2_storageCents, Cond.instanceMethod yX2_storageCents, Cond.selects RX2 yX2_storageCents yX2_storageCents, Cond.code yX2_storageCents cX2_storageCents 3 (some .int), Cond.methodLink RX2 72 yX2_toldOrZero, Cond.static yX2_toldOrZero, Cond.code yX2_toldOrZero cX2_toldOrZero 2 (some .int), Cond.methodLink RX7 156 yX7_unitDays, Cond.instanceMethod yX7_unitDays, Cond.selects RX7 yX7_unitDays yX7_unitDays, Cond.code yX7_unitDays cX7_unitDays 6 (some .int), Cond.methodLink RX7 296 yX2_percentFor, Cond.instanceMethod yX2_percentFor, Cond.selects RX2 yX2_percentFor yX2_percentFor, Cond.code yX2_percentFor cX2_percentFor 6 (some .int), Cond.methodLink RX7 280 yX7_handlingBy, Cond.instanceMethod yX7_handlingBy]
def wsL_law0_r22 : List Cond := [Cond.selects RX7 yX7_handlingBy yX7_handlingBy, Cond.code yX7_handlingBy cX7_handlingBy 7 (some .int), Cond.methodLink RX7 329 yX2_handlingCents, Cond.instanceMethod yX2_handlingCents, Cond.selects RX2 yX2_handlingCents yX2_handlingCents, Cond.code yX2_handlingCents cX2_handlingCents 3 (some .int), Cond.methodLink RX7 283 yX2_minimumOf, Cond.instanceMethod yX2_minimumOf, Cond.selects RX2 yX2_minimumOf yX2_minimumOf, Cond.code yX2_minimumOf cX2_minimumOf 2 (some .int), Cond.methodLink RL 106 yX8_sum, Cond.instanceMethod yX8_sum, Cond.selects RX8 yX8_sum yX8_sum, Cond.code yX8_sum cX8_sum 3 (some .int), Cond.methodLink RX8 164 yX8_isMonth, Cond.static yX8_isMonth, Cond.code yX8_isMonth cX8_isMonth 1 (some .boolean), Cond.methodLink RX8 167 yX8_sumOf, Cond.instanceMethod yX8_sumOf, Cond.selects RX8 yX8_sumOf yX8_sumOf, Cond.code yX8_sumOf cX8_sumOf 6 (some .int), Cond.methodLink RX8 158 yX8_storage, Cond.instanceMethod yX8_storage, Cond.selects RX8 yX8_storage yX8_storage]
def wsL_law0_r23 : List Cond := [Cond.code yX8_storage cX8_storage 8 (some .int), Cond.methodLink RX8 148 yX8_kindOn, Cond.instanceMethod yX8_kindOn, Cond.selects RX8 yX8_kindOn yX8_kindOn, Cond.code yX8_kindOn cX8_kindOn 5 (some .int), Cond.methodLink RX8 152 yX8_cents, Cond.instanceMethod yX8_cents, Cond.selects RX8 yX8_cents yX8_cents, Cond.code yX8_cents cX8_cents 5 (some .int), Cond.methodLink RX8 127 yX8_charge, Cond.instanceMethod yX8_charge, Cond.selects RX8 yX8_charge yX8_charge, Cond.code yX8_charge cX8_charge 5 (some .int), Cond.methodLink RX8 155 yX8_unitDays, Cond.instanceMethod yX8_unitDays, Cond.selects RX8 yX8_unitDays yX8_unitDays, Cond.code yX8_unitDays cX8_unitDays 6 (some .int), Cond.methodLink RX8 161 yX8_handling, Cond.instanceMethod yX8_handling, Cond.selects RX8 yX8_handling yX8_handling, Cond.code yX8_handling cX8_handling 6 (some .int), Cond.methodLink RL 107 yL_days, Cond.static yL_days, Cond.codeWith yL_days cL_days 5 (some .int) [(0, 10, 13, 13)]]
def wsL_law0_r24 : List Cond := [Cond.methodLink RL 40 yX7_days, Cond.instanceMethod yX7_days, Cond.selects RX7 yX7_days yX7_days, Cond.code yX7_days cX7_days 3 (some .int), Cond.methodLink RL 109 yX8_days, Cond.instanceMethod yX8_days, Cond.selects RX8 yX8_days yX8_days, Cond.code yX8_days cX8_days 3 (some .int), Cond.methodLink RL 110 yL_average, Cond.static yL_average, Cond.codeWith yL_average cL_average 5 (some .int) [(0, 10, 13, 13), (0, 10, 17, 46)], Cond.classLink RL 46 "java/lang/ArithmeticException", Cond.methodLink RL 43 yX7_average, Cond.instanceMethod yX7_average, Cond.selects RX7 yX7_average yX7_average, Cond.code yX7_average cX7_average 4 (some .int), Cond.classLink RX7 159 "java/lang/ArithmeticException", Cond.initialized "java/lang/ArithmeticException", Cond.methodLink RL 112 yX8_average, Cond.instanceMethod yX8_average, Cond.selects RX8 yX8_average yX8_average, Cond.code yX8_average cX8_average 3 (some .int), Cond.methodLink RL 113 yL_bill, Cond.static yL_bill]
def wsL_law0_r25 : List Cond := [Cond.codeWith yL_bill cL_bill 5 (some .int) [(0, 10, 13, 13), (0, 10, 17, 27)], Cond.methodLink RL 48 yX7_bill, Cond.instanceMethod yX7_bill, Cond.selects RX7 yX7_bill yX7_bill, Cond.code yX7_bill cX7_bill 4 (some .int), Cond.classLink RX7 176 RX0, Cond.instantiable RX0 4, Cond.initialized RX0, Cond.methodLink RX7 167 yX1_isBilled, Cond.instanceMethod yX1_isBilled, Cond.selects RX1 yX1_isBilled yX1_isBilled, Cond.code yX1_isBilled cX1_isBilled 5 (some .boolean), Cond.classLink RX1 30 "StorageCharge$BillLine", Cond.methodLink RX1 18 yJx4a65c_size_8abf5, Cond.methodLink RX1 26 yJx4a65c_get_915e3, Cond.methodLink RX7 178 yX0_init, Cond.instanceMethod yX0_init, Cond.code yX0_init cX0_init 5 none, Cond.methodLink RX0 1 objectInit, Cond.fieldLink RX0 7 "StorageCharge$BillLine" "owner" "I", Cond.fieldLink RX0 13 "StorageCharge$BillLine" "month" "I", Cond.fieldLink RX0 16 "StorageCharge$BillLine" "cents" "I", Cond.fieldLink RX0 19 "StorageCharge$BillLine" "isCorrection" "Z", Cond.methodLink RX7 181 yX1_add]
def wsL_law0_r26 : List Cond := [Cond.instanceMethod yX1_add, Cond.selects RX1 yX1_add yX1_add, Cond.code yX1_add cX1_add 2 none, Cond.methodLink RX1 22 yJx4a65c_add_9ea2d, Cond.methodLink RL 115 yX8_bill, Cond.instanceMethod yX8_bill, Cond.selects RX8 yX8_bill yX8_bill, Cond.code yX8_bill cX8_bill 3 (some .int), Cond.methodLink RX8 173 yX8_keep, Cond.instanceMethod yX8_keep, Cond.selects RX8 yX8_keep yX8_keep, Cond.code yX8_keep cX8_keep 5 none, Cond.fieldLink RX8 170 "StorageChargeModel" "rows" "I", Cond.methodLink RL 116 yL_correct, Cond.static yL_correct, Cond.codeWith yL_correct cL_correct 5 (some .int) [(0, 10, 13, 13), (0, 10, 17, 27)], Cond.methodLink RL 51 yX7_correct, Cond.instanceMethod yX7_correct, Cond.selects RX7 yX7_correct yX7_correct, Cond.code yX7_correct cX7_correct 4 (some .int), Cond.methodLink RX7 186 yX1_centsOfMonth, Cond.instanceMethod yX1_centsOfMonth, Cond.selects RX1 yX1_centsOfMonth yX1_centsOfMonth, Cond.code yX1_centsOfMonth cX1_centsOfMonth 6 (some .int)]
def wsL_law0_r27 : List Cond := [Cond.methodLink RL 118 yX8_correct, Cond.instanceMethod yX8_correct, Cond.selects RX8 yX8_correct yX8_correct, Cond.code yX8_correct cX8_correct 5 (some .int), Cond.methodLink RL 119 yL_line, Cond.static yL_line, Cond.codeWith yL_line cL_line 6 (some .int) [(0, 12, 15, 25), (0, 12, 19, 13)], Cond.methodLink RL 54 yX7_line, Cond.instanceMethod yX7_line, Cond.selects RX7 yX7_line yX7_line, Cond.code yX7_line cX7_line 5 (some .int), Cond.methodLink RX7 189 yX1_find, Cond.instanceMethod yX1_find, Cond.selects RX1 yX1_find yX1_find, Cond.code yX1_find cX1_find 6 (some (.object "StorageCharge$BillLine")), Cond.methodLink RL 121 yX8_line_, Cond.instanceMethod yX8_line_, Cond.selects RX8 yX8_line_ yX8_line_, Cond.code yX8_line_ cX8_line_ 5 (some .int), Cond.methodLink RX8 177 yX8_rowOf, Cond.instanceMethod yX8_rowOf, Cond.selects RX8 yX8_rowOf yX8_rowOf, Cond.code yX8_rowOf cX8_rowOf 5 (some .int), Cond.methodLink RL 122 yL_billed]
def wsL_law0_r28 : List Cond := [Cond.static yL_billed, Cond.codeWith yL_billed cL_billed 4 (some .int) [(0, 9, 12, 13)], Cond.methodLink RL 57 yX7_billed, Cond.instanceMethod yX7_billed, Cond.selects RX7 yX7_billed yX7_billed, Cond.code yX7_billed cX7_billed 2 (some .int), Cond.methodLink RX7 210 yX1_centsOfOwner, Cond.instanceMethod yX1_centsOfOwner, Cond.selects RX1 yX1_centsOfOwner yX1_centsOfOwner, Cond.code yX1_centsOfOwner cX1_centsOfOwner 5 (some .int), Cond.methodLink RL 124 yX8_billed, Cond.instanceMethod yX8_billed, Cond.selects RX8 yX8_billed yX8_billed, Cond.code yX8_billed cX8_billed 4 (some .int), Cond.methodLink RL 125 yL_compare, Cond.static yL_compare, Cond.codeWith yL_compare cL_compare 6 (some .int) [(0, 12, 15, 13)], Cond.methodLink RL 60 yX7_compare, Cond.instanceMethod yX7_compare, Cond.selects RX7 yX7_compare yX7_compare, Cond.code yX7_compare cX7_compare 4 (some .int), Cond.methodLink RL 127 yX8_compare, Cond.instanceMethod yX8_compare, Cond.selects RX8 yX8_compare yX8_compare]
def wsL_law0_r29 : List Cond := [Cond.code yX8_compare cX8_compare 4 (some .int), Cond.methodLink RL 128 yL_print, Cond.static yL_print, Cond.codeWith yL_print cL_print 4 (some .int) [(0, 9, 12, 13)], Cond.methodLink RL 63 yX7_print, Cond.instanceMethod yX7_print, Cond.selects RX7 yX7_print yX7_print, Cond.code yX7_print cX7_print 4 (some .int), Cond.classLink RX7 176 "StorageCharge$BillLine", Cond.methodLink RX7 213 yX4_clear, Cond.instanceMethod yX4_clear, Cond.selects RX4 yX4_clear yX4_clear, Cond.code yX4_clear cX4_clear 1 none, Cond.methodLink RX7 220 yX4_write, Cond.instanceMethod yX4_write, Cond.selects RX4 yX4_write yX4_write, Cond.code yX4_write cX4_write 2 none, Cond.methodLink RX4 25 yX4_put, Cond.instanceMethod yX4_put, Cond.selects RX4 yX4_put yX4_put, Cond.code yX4_put cX4_put 2 none, Cond.methodLink RX4 32 yX4_putNumber, Cond.instanceMethod yX4_putNumber, Cond.selects RX4 yX4_putNumber yX4_putNumber]
def wsL_law0_r30 : List Cond := [Cond.code yX4_putNumber cX4_putNumber 6 none, Cond.methodLink RX4 38 Lib.MathLoose.abs_long.x, Cond.static Lib.MathLoose.abs_long.x, Cond.code Lib.MathLoose.abs_long.x Lib.MathLoose.abs_long.code 2 (some .long), Cond.constantLong RX4 44 (1000000000), Cond.constantLong RX4 46 (48), Cond.constantLong RX4 48 (10), Cond.methodLink RL 130 yX8_print, Cond.instanceMethod yX8_print, Cond.selects RX8 yX8_print yX8_print, Cond.code yX8_print cX8_print 3 (some .int), Cond.fieldLink RX8 180 "StorageChargeModel" "printed" "I", Cond.methodLink RX8 183 yX8_put, Cond.instanceMethod yX8_put, Cond.selects RX8 yX8_put yX8_put, Cond.code yX8_put cX8_put 2 none, Cond.methodLink RX8 187 yX8_putNumber, Cond.instanceMethod yX8_putNumber, Cond.selects RX8 yX8_putNumber yX8_putNumber, Cond.code yX8_putNumber cX8_putNumber 4 none, Cond.methodLink RL 131 yL_at, Cond.static yL_at, Cond.codeWith yL_at cL_at 4 (some .int) [(0, 9, 12, 69)], Cond.methodLink RL 66 yX7_at]
def wsL_law0_r31 : List Cond := [Cond.instanceMethod yX7_at, Cond.selects RX7 yX7_at yX7_at, Cond.code yX7_at cX7_at 2 (some .int), Cond.classLink RX7 224 RJx00060, Cond.instantiable RJx00060 6, Cond.initialized RJx00060, Cond.methodLink RL 133 yX8_at, Cond.instanceMethod yX8_at, Cond.selects RX8 yX8_at yX8_at, Cond.code yX8_at cX8_at 2 (some .int), Cond.methodLink RL 134 yX7_count, Cond.instanceMethod yX7_count, Cond.selects RX7 yX7_count yX7_count, Cond.code yX7_count cX7_count 2 (some .int), Cond.methodLink RX7 235 yX7_unitsStillThere, Cond.instanceMethod yX7_unitsStillThere, Cond.selects RX7 yX7_unitsStillThere yX7_unitsStillThere, Cond.code yX7_unitsStillThere cX7_unitsStillThere 3 (some .int), Cond.methodLink RL 137 yX8_count, Cond.instanceMethod yX8_count, Cond.selects RX8 yX8_count yX8_count, Cond.code yX8_count cX8_count 4 (some .int)]
def wsL_law0 : List Cond := (wsL_law0_r1 ++ (wsL_law0_r2 ++ (wsL_law0_r3 ++ (wsL_law0_r4 ++ (wsL_law0_r5 ++ (wsL_law0_r6 ++ (wsL_law0_r7 ++ (wsL_law0_r8 ++ (wsL_law0_r9 ++ (wsL_law0_r10 ++ (wsL_law0_r11 ++ (wsL_law0_r12 ++ (wsL_law0_r13 ++ (wsL_law0_r14 ++ (wsL_law0_r15 ++ (wsL_law0_r16 ++ (wsL_law0_r17 ++ (wsL_law0_r18 ++ (wsL_law0_r19 ++ (wsL_law0_r20 ++ (wsL_law0_r21 ++ (wsL_law0_r22 ++ (wsL_law0_r23 ++ (wsL_law0_r24 ++ (wsL_law0_r25 ++ (wsL_law0_r26 ++ (wsL_law0_r27 ++ (wsL_law0_r28 ++ (wsL_law0_r29 ++ (wsL_law0_r30 ++ wsL_law0_r31)))))))))))))))))))))))))))))) ++ wsX70 ++ wsX80 ++ wsX50 ++ wsX20 ++ wsJx4a65c0 ++ wsX10 ++ wsX40 ++ wsX60 ++ wsX30 ++ wsX00 ++ wsJx000600 ++ ([] : List Cond)
def wsL_law : List Cond := wsL_law0 ++ (vx_atS RX7 58 "java/lang/IllegalArgumentException" ["java/lang/RuntimeException", "java/lang/Exception"]).filter goodWord ++ (vx_atS RX7 69 "java/lang/UnsupportedOperationException" ["java/lang/RuntimeException", "java/lang/Exception"]).filter goodWord ++ (vx_atS RX7 197 "java/util/NoSuchElementException" ["java/lang/RuntimeException", "java/lang/Exception"]).filter goodWord ++ (vx_atS RX7 175 "java/lang/IllegalStateException" ["java/lang/RuntimeException", "java/lang/Exception"]).filter goodWord ++ (vx_atS RX7 163 "java/lang/ArithmeticException" ["java/lang/RuntimeException", "java/lang/Exception"]).filter goodWord
abbrev vwCl : List vw_C := [(RJx00060, TJx00060, 6), (RJx4a65c, TJx4a65c, 3), (RX0, TX0, 4), (RX1, TX1, 1), (RX2, TX2, 9), (RX3, TX3, 4), (RX4, TX4, 2), (RX5, TX5, 3), (RX6, TX6, 7), (RX7, TX7, 7), (RX8, TX8, 34)]
end
section
theorem dX0_init_0 : decode cX0_init 0 = .ok (.aload_n 0, 1) := by decide +kernel
theorem dX0_init_1 : decode cX0_init 1 = .ok (.invokespecial 1, 3) := by decide +kernel
theorem dX0_init_4 : decode cX0_init 4 = .ok (.aload_n 0, 1) := by decide +kernel
theorem dX0_init_5 : decode cX0_init 5 = .ok (.iload_n 1, 1) := by decide +kernel
theorem dX0_init_6 : decode cX0_init 6 = .ok (.putfield 7, 3) := by decide +kernel
theorem dX0_init_9 : decode cX0_init 9 = .ok (.aload_n 0, 1) := by decide +kernel
theorem dX0_init_10 : decode cX0_init 10 = .ok (.iload_n 2, 1) := by decide +kernel
theorem dX0_init_11 : decode cX0_init 11 = .ok (.putfield 13, 3) := by decide +kernel
theorem dX0_init_14 : decode cX0_init 14 = .ok (.aload_n 0, 1) := by decide +kernel
theorem dX0_init_15 : decode cX0_init 15 = .ok (.iload_n 3, 1) := by decide +kernel
theorem dX0_init_16 : decode cX0_init 16 = .ok (.putfield 16, 3) := by decide +kernel
theorem dX0_init_19 : decode cX0_init 19 = .ok (.aload_n 0, 1) := by decide +kernel
theorem dX0_init_20 : decode cX0_init 20 = .ok (.iload 4, 2) := by decide +kernel
theorem dX0_init_22 : decode cX0_init 22 = .ok (.putfield 19, 3) := by decide +kernel
theorem dX0_init_25 : decode cX0_init 25 = .ok (.return_, 1) := by decide +kernel
set_option maxRecDepth 20000 in
theorem ggX1_init_Jx4a65c_init_da8c8 : GoodIn wsX1_init wsJx4a65c_init_da8c8 := goodIn_r _ [10, 11, 12, 13, 14, 15, 16, 17, 18, 19, 20, 21, 22, 2, 3, 23, 24, 25] (by decide +kernel) (by decide +kernel)
set_option maxRecDepth 20000 in
theorem gX1_init_Jx4a65c_init_da8c8 : GoodIn wsX1_init (wsJx4a65c_init_da8c8) := ggX1_init_Jx4a65c_init_da8c8
theorem dX1_init_0 : decode cX1_init 0 = .ok (.aload_n 0, 1) := by decide +kernel
theorem dX1_init_1 : decode cX1_init 1 = .ok (.invokespecial 3, 3) := by decide +kernel
theorem dX1_init_4 : decode cX1_init 4 = .ok (.aload_n 0, 1) := by decide +kernel
theorem dX1_init_5 : decode cX1_init 5 = .ok (.new 9, 3) := by decide +kernel
theorem dX1_init_8 : decode cX1_init 8 = .ok (.dup, 1) := by decide +kernel
theorem dX1_init_9 : decode cX1_init 9 = .ok (.invokespecial 11, 3) := by decide +kernel
theorem dX1_init_12 : decode cX1_init 12 = .ok (.putfield 12, 3) := by decide +kernel
theorem dX1_init_15 : decode cX1_init 15 = .ok (.return_, 1) := by decide +kernel
set_option maxRecDepth 20000 in
theorem ggX1_add_Jx4a65c_size_8abf5 : GoodIn wsX1_add wsJx4a65c_size_8abf5 := goodIn_r _ [6, 7, 63, 64, 65] (by decide +kernel) (by decide +kernel)
set_option maxRecDepth 20000 in
theorem gX1_add_Jx4a65c_size_8abf5 : GoodIn wsX1_add (wsV RX1 18 RJx4a65c yJx4a65c_size_8abf5 wsJx4a65c_size_8abf5) := goodIn_app (goodIn_of _ (by decide +kernel)) ggX1_add_Jx4a65c_size_8abf5
set_option maxRecDepth 20000 in
theorem ggX1_add_Jx4a65c_add_9ea2d : GoodIn wsX1_add wsJx4a65c_add_9ea2d := goodIn_r _ [11, 12, 13, 14, 7, 15, 16, 17, 5, 18, 19, 20, 21, 22, 23, 24, 25, 26, 27, 28, 29, 30, 31, 32, 33, 34, 35, 36, 37, 38, 39, 40, 41, 42, 43, 44, 45, 46, 47, 48, 49, 50, 51, 52, 53, 54, 55, 56, 57, 58, 59, 60, 61, 63, 64, 65] (by decide +kernel) (by decide +kernel)
set_option maxRecDepth 20000 in
theorem gX1_add_Jx4a65c_add_9ea2d : GoodIn wsX1_add (wsV RX1 22 RJx4a65c yJx4a65c_add_9ea2d wsJx4a65c_add_9ea2d) := goodIn_app (goodIn_of _ (by decide +kernel)) ggX1_add_Jx4a65c_add_9ea2d
theorem dX1_add_0 : decode cX1_add 0 = .ok (.aload_n 0, 1) := by decide +kernel
theorem dX1_add_1 : decode cX1_add 1 = .ok (.getfield 12, 3) := by decide +kernel
theorem dX1_add_4 : decode cX1_add 4 = .ok (.invokevirtual 18, 3) := by decide +kernel
theorem dX1_add_7 : decode cX1_add 7 = .ok (.sipush 512, 3) := by decide +kernel
theorem dX1_add_10 : decode cX1_add 10 = .ok (.if_icmp .ge 12, 3) := by decide +kernel
theorem dX1_add_13 : decode cX1_add 13 = .ok (.aload_n 0, 1) := by decide +kernel
theorem dX1_add_14 : decode cX1_add 14 = .ok (.getfield 12, 3) := by decide +kernel
theorem dX1_add_17 : decode cX1_add 17 = .ok (.aload_n 1, 1) := by decide +kernel
theorem dX1_add_18 : decode cX1_add 18 = .ok (.invokevirtual 22, 3) := by decide +kernel
theorem dX1_add_21 : decode cX1_add 21 = .ok (.pop, 1) := by decide +kernel
theorem dX1_add_22 : decode cX1_add 22 = .ok (.return_, 1) := by decide +kernel
set_option maxRecDepth 20000 in
theorem ggX1_isBilled_Jx4a65c_size_8abf5 : GoodIn wsX1_isBilled wsJx4a65c_size_8abf5 := goodIn_r _ [7, 8, 31, 32, 33] (by decide +kernel) (by decide +kernel)
set_option maxRecDepth 20000 in
theorem gX1_isBilled_Jx4a65c_size_8abf5 : GoodIn wsX1_isBilled (wsV RX1 18 RJx4a65c yJx4a65c_size_8abf5 wsJx4a65c_size_8abf5) := goodIn_app (goodIn_of _ (by decide +kernel)) ggX1_isBilled_Jx4a65c_size_8abf5
set_option maxRecDepth 20000 in
theorem ggX1_isBilled_Jx4a65c_get_915e3 : GoodIn wsX1_isBilled wsJx4a65c_get_915e3 := goodIn_r _ [12, 8, 13, 14, 15, 16, 17, 18, 19, 20, 21, 22, 23, 6, 24, 25, 31, 32, 33] (by decide +kernel) (by decide +kernel)
set_option maxRecDepth 20000 in
theorem gX1_isBilled_Jx4a65c_get_915e3 : GoodIn wsX1_isBilled (wsV RX1 26 RJx4a65c yJx4a65c_get_915e3 wsJx4a65c_get_915e3) := goodIn_app (goodIn_of _ (by decide +kernel)) ggX1_isBilled_Jx4a65c_get_915e3
theorem dX1_isBilled_0 : decode cX1_isBilled 0 = .ok (.iconst 0, 1) := by decide +kernel
theorem dX1_isBilled_1 : decode cX1_isBilled 1 = .ok (.istore_n 3, 1) := by decide +kernel
theorem dX1_isBilled_2 : decode cX1_isBilled 2 = .ok (.iload_n 3, 1) := by decide +kernel
theorem dX1_isBilled_3 : decode cX1_isBilled 3 = .ok (.aload_n 0, 1) := by decide +kernel
theorem dX1_isBilled_4 : decode cX1_isBilled 4 = .ok (.getfield 12, 3) := by decide +kernel
theorem dX1_isBilled_7 : decode cX1_isBilled 7 = .ok (.invokevirtual 18, 3) := by decide +kernel
theorem dX1_isBilled_10 : decode cX1_isBilled 10 = .ok (.if_icmp .ge 42, 3) := by decide +kernel
theorem dX1_isBilled_13 : decode cX1_isBilled 13 = .ok (.aload_n 0, 1) := by decide +kernel
theorem dX1_isBilled_14 : decode cX1_isBilled 14 = .ok (.getfield 12, 3) := by decide +kernel
theorem dX1_isBilled_17 : decode cX1_isBilled 17 = .ok (.iload_n 3, 1) := by decide +kernel
theorem dX1_isBilled_18 : decode cX1_isBilled 18 = .ok (.invokevirtual 26, 3) := by decide +kernel
theorem dX1_isBilled_21 : decode cX1_isBilled 21 = .ok (.checkcast 30, 3) := by decide +kernel
theorem dX1_isBilled_24 : decode cX1_isBilled 24 = .ok (.astore 4, 2) := by decide +kernel
theorem dX1_isBilled_26 : decode cX1_isBilled 26 = .ok (.aload 4, 2) := by decide +kernel
theorem dX1_isBilled_28 : decode cX1_isBilled 28 = .ok (.getfield 32, 3) := by decide +kernel
theorem dX1_isBilled_31 : decode cX1_isBilled 31 = .ok (.iload_n 1, 1) := by decide +kernel
theorem dX1_isBilled_32 : decode cX1_isBilled 32 = .ok (.if_icmp .ne 14, 3) := by decide +kernel
theorem dX1_isBilled_35 : decode cX1_isBilled 35 = .ok (.aload 4, 2) := by decide +kernel
theorem dX1_isBilled_37 : decode cX1_isBilled 37 = .ok (.getfield 36, 3) := by decide +kernel
theorem dX1_isBilled_40 : decode cX1_isBilled 40 = .ok (.iload_n 2, 1) := by decide +kernel
theorem dX1_isBilled_41 : decode cX1_isBilled 41 = .ok (.if_icmp .ne 5, 3) := by decide +kernel
theorem dX1_isBilled_44 : decode cX1_isBilled 44 = .ok (.iconst 1, 1) := by decide +kernel
theorem dX1_isBilled_45 : decode cX1_isBilled 45 = .ok (.ireturn, 1) := by decide +kernel
theorem dX1_isBilled_46 : decode cX1_isBilled 46 = .ok (.iinc 3 1, 3) := by decide +kernel
theorem dX1_isBilled_49 : decode cX1_isBilled 49 = .ok (.goto (-47), 3) := by decide +kernel
theorem dX1_isBilled_52 : decode cX1_isBilled 52 = .ok (.iconst 0, 1) := by decide +kernel
theorem dX1_isBilled_53 : decode cX1_isBilled 53 = .ok (.ireturn, 1) := by decide +kernel
set_option maxRecDepth 20000 in
theorem ggX1_centsOfMonth_Jx4a65c_size_8abf5 : GoodIn wsX1_centsOfMonth wsJx4a65c_size_8abf5 := goodIn_r _ [7, 8, 31, 32, 33] (by decide +kernel) (by decide +kernel)
set_option maxRecDepth 20000 in
theorem gX1_centsOfMonth_Jx4a65c_size_8abf5 : GoodIn wsX1_centsOfMonth (wsV RX1 18 RJx4a65c yJx4a65c_size_8abf5 wsJx4a65c_size_8abf5) := goodIn_app (goodIn_of _ (by decide +kernel)) ggX1_centsOfMonth_Jx4a65c_size_8abf5
set_option maxRecDepth 20000 in
theorem ggX1_centsOfMonth_Jx4a65c_get_915e3 : GoodIn wsX1_centsOfMonth wsJx4a65c_get_915e3 := goodIn_r _ [12, 8, 13, 14, 15, 16, 17, 18, 19, 20, 21, 22, 23, 6, 24, 25, 31, 32, 33] (by decide +kernel) (by decide +kernel)
set_option maxRecDepth 20000 in
theorem gX1_centsOfMonth_Jx4a65c_get_915e3 : GoodIn wsX1_centsOfMonth (wsV RX1 26 RJx4a65c yJx4a65c_get_915e3 wsJx4a65c_get_915e3) := goodIn_app (goodIn_of _ (by decide +kernel)) ggX1_centsOfMonth_Jx4a65c_get_915e3
theorem dX1_centsOfMonth_0 : decode cX1_centsOfMonth 0 = .ok (.iconst 0, 1) := by decide +kernel
theorem dX1_centsOfMonth_1 : decode cX1_centsOfMonth 1 = .ok (.istore_n 3, 1) := by decide +kernel
theorem dX1_centsOfMonth_2 : decode cX1_centsOfMonth 2 = .ok (.iconst 0, 1) := by decide +kernel
theorem dX1_centsOfMonth_3 : decode cX1_centsOfMonth 3 = .ok (.istore 4, 2) := by decide +kernel
theorem dX1_centsOfMonth_5 : decode cX1_centsOfMonth 5 = .ok (.iload 4, 2) := by decide +kernel
theorem dX1_centsOfMonth_7 : decode cX1_centsOfMonth 7 = .ok (.aload_n 0, 1) := by decide +kernel
theorem dX1_centsOfMonth_8 : decode cX1_centsOfMonth 8 = .ok (.getfield 12, 3) := by decide +kernel
theorem dX1_centsOfMonth_11 : decode cX1_centsOfMonth 11 = .ok (.invokevirtual 18, 3) := by decide +kernel
theorem dX1_centsOfMonth_14 : decode cX1_centsOfMonth 14 = .ok (.if_icmp .ge 49, 3) := by decide +kernel
theorem dX1_centsOfMonth_17 : decode cX1_centsOfMonth 17 = .ok (.aload_n 0, 1) := by decide +kernel
theorem dX1_centsOfMonth_18 : decode cX1_centsOfMonth 18 = .ok (.getfield 12, 3) := by decide +kernel
theorem dX1_centsOfMonth_21 : decode cX1_centsOfMonth 21 = .ok (.iload 4, 2) := by decide +kernel
theorem dX1_centsOfMonth_23 : decode cX1_centsOfMonth 23 = .ok (.invokevirtual 26, 3) := by decide +kernel
theorem dX1_centsOfMonth_26 : decode cX1_centsOfMonth 26 = .ok (.checkcast 30, 3) := by decide +kernel
theorem dX1_centsOfMonth_29 : decode cX1_centsOfMonth 29 = .ok (.astore 5, 2) := by decide +kernel
theorem dX1_centsOfMonth_31 : decode cX1_centsOfMonth 31 = .ok (.aload 5, 2) := by decide +kernel
theorem dX1_centsOfMonth_33 : decode cX1_centsOfMonth 33 = .ok (.getfield 32, 3) := by decide +kernel
theorem dX1_centsOfMonth_36 : decode cX1_centsOfMonth 36 = .ok (.iload_n 1, 1) := by decide +kernel
theorem dX1_centsOfMonth_37 : decode cX1_centsOfMonth 37 = .ok (.if_icmp .ne 20, 3) := by decide +kernel
theorem dX1_centsOfMonth_40 : decode cX1_centsOfMonth 40 = .ok (.aload 5, 2) := by decide +kernel
theorem dX1_centsOfMonth_42 : decode cX1_centsOfMonth 42 = .ok (.getfield 36, 3) := by decide +kernel
theorem dX1_centsOfMonth_45 : decode cX1_centsOfMonth 45 = .ok (.iload_n 2, 1) := by decide +kernel
theorem dX1_centsOfMonth_46 : decode cX1_centsOfMonth 46 = .ok (.if_icmp .ne 11, 3) := by decide +kernel
theorem dX1_centsOfMonth_49 : decode cX1_centsOfMonth 49 = .ok (.iload_n 3, 1) := by decide +kernel
theorem dX1_centsOfMonth_50 : decode cX1_centsOfMonth 50 = .ok (.aload 5, 2) := by decide +kernel
theorem dX1_centsOfMonth_52 : decode cX1_centsOfMonth 52 = .ok (.getfield 39, 3) := by decide +kernel
theorem dX1_centsOfMonth_55 : decode cX1_centsOfMonth 55 = .ok (.iadd, 1) := by decide +kernel
theorem dX1_centsOfMonth_56 : decode cX1_centsOfMonth 56 = .ok (.istore_n 3, 1) := by decide +kernel
theorem dX1_centsOfMonth_57 : decode cX1_centsOfMonth 57 = .ok (.iinc 4 1, 3) := by decide +kernel
theorem dX1_centsOfMonth_60 : decode cX1_centsOfMonth 60 = .ok (.goto (-55), 3) := by decide +kernel
theorem dX1_centsOfMonth_63 : decode cX1_centsOfMonth 63 = .ok (.iload_n 3, 1) := by decide +kernel
theorem dX1_centsOfMonth_64 : decode cX1_centsOfMonth 64 = .ok (.ireturn, 1) := by decide +kernel
set_option maxRecDepth 20000 in
theorem ggX1_centsOfOwner_Jx4a65c_size_8abf5 : GoodIn wsX1_centsOfOwner wsJx4a65c_size_8abf5 := goodIn_r _ [7, 8, 31, 32, 33] (by decide +kernel) (by decide +kernel)
set_option maxRecDepth 20000 in
theorem gX1_centsOfOwner_Jx4a65c_size_8abf5 : GoodIn wsX1_centsOfOwner (wsV RX1 18 RJx4a65c yJx4a65c_size_8abf5 wsJx4a65c_size_8abf5) := goodIn_app (goodIn_of _ (by decide +kernel)) ggX1_centsOfOwner_Jx4a65c_size_8abf5
set_option maxRecDepth 20000 in
theorem ggX1_centsOfOwner_Jx4a65c_get_915e3 : GoodIn wsX1_centsOfOwner wsJx4a65c_get_915e3 := goodIn_r _ [12, 8, 13, 14, 15, 16, 17, 18, 19, 20, 21, 22, 23, 6, 24, 25, 31, 32, 33] (by decide +kernel) (by decide +kernel)
set_option maxRecDepth 20000 in
theorem gX1_centsOfOwner_Jx4a65c_get_915e3 : GoodIn wsX1_centsOfOwner (wsV RX1 26 RJx4a65c yJx4a65c_get_915e3 wsJx4a65c_get_915e3) := goodIn_app (goodIn_of _ (by decide +kernel)) ggX1_centsOfOwner_Jx4a65c_get_915e3
theorem dX1_centsOfOwner_0 : decode cX1_centsOfOwner 0 = .ok (.iconst 0, 1) := by decide +kernel
theorem dX1_centsOfOwner_1 : decode cX1_centsOfOwner 1 = .ok (.istore_n 2, 1) := by decide +kernel
theorem dX1_centsOfOwner_2 : decode cX1_centsOfOwner 2 = .ok (.iconst 0, 1) := by decide +kernel
theorem dX1_centsOfOwner_3 : decode cX1_centsOfOwner 3 = .ok (.istore_n 3, 1) := by decide +kernel
theorem dX1_centsOfOwner_4 : decode cX1_centsOfOwner 4 = .ok (.iload_n 3, 1) := by decide +kernel
theorem dX1_centsOfOwner_5 : decode cX1_centsOfOwner 5 = .ok (.aload_n 0, 1) := by decide +kernel
theorem dX1_centsOfOwner_6 : decode cX1_centsOfOwner 6 = .ok (.getfield 12, 3) := by decide +kernel
theorem dX1_centsOfOwner_9 : decode cX1_centsOfOwner 9 = .ok (.invokevirtual 18, 3) := by decide +kernel
theorem dX1_centsOfOwner_12 : decode cX1_centsOfOwner 12 = .ok (.if_icmp .ge 39, 3) := by decide +kernel
theorem dX1_centsOfOwner_15 : decode cX1_centsOfOwner 15 = .ok (.aload_n 0, 1) := by decide +kernel
theorem dX1_centsOfOwner_16 : decode cX1_centsOfOwner 16 = .ok (.getfield 12, 3) := by decide +kernel
theorem dX1_centsOfOwner_19 : decode cX1_centsOfOwner 19 = .ok (.iload_n 3, 1) := by decide +kernel
theorem dX1_centsOfOwner_20 : decode cX1_centsOfOwner 20 = .ok (.invokevirtual 26, 3) := by decide +kernel
theorem dX1_centsOfOwner_23 : decode cX1_centsOfOwner 23 = .ok (.checkcast 30, 3) := by decide +kernel
theorem dX1_centsOfOwner_26 : decode cX1_centsOfOwner 26 = .ok (.astore 4, 2) := by decide +kernel
theorem dX1_centsOfOwner_28 : decode cX1_centsOfOwner 28 = .ok (.aload 4, 2) := by decide +kernel
theorem dX1_centsOfOwner_30 : decode cX1_centsOfOwner 30 = .ok (.getfield 32, 3) := by decide +kernel
theorem dX1_centsOfOwner_33 : decode cX1_centsOfOwner 33 = .ok (.iload_n 1, 1) := by decide +kernel
theorem dX1_centsOfOwner_34 : decode cX1_centsOfOwner 34 = .ok (.if_icmp .ne 11, 3) := by decide +kernel
theorem dX1_centsOfOwner_37 : decode cX1_centsOfOwner 37 = .ok (.iload_n 2, 1) := by decide +kernel
theorem dX1_centsOfOwner_38 : decode cX1_centsOfOwner 38 = .ok (.aload 4, 2) := by decide +kernel
theorem dX1_centsOfOwner_40 : decode cX1_centsOfOwner 40 = .ok (.getfield 39, 3) := by decide +kernel
theorem dX1_centsOfOwner_43 : decode cX1_centsOfOwner 43 = .ok (.iadd, 1) := by decide +kernel
theorem dX1_centsOfOwner_44 : decode cX1_centsOfOwner 44 = .ok (.istore_n 2, 1) := by decide +kernel
theorem dX1_centsOfOwner_45 : decode cX1_centsOfOwner 45 = .ok (.iinc 3 1, 3) := by decide +kernel
theorem dX1_centsOfOwner_48 : decode cX1_centsOfOwner 48 = .ok (.goto (-44), 3) := by decide +kernel
theorem dX1_centsOfOwner_51 : decode cX1_centsOfOwner 51 = .ok (.iload_n 2, 1) := by decide +kernel
theorem dX1_centsOfOwner_52 : decode cX1_centsOfOwner 52 = .ok (.ireturn, 1) := by decide +kernel
set_option maxRecDepth 20000 in
theorem ggX1_find_Jx4a65c_size_8abf5 : GoodIn wsX1_find wsJx4a65c_size_8abf5 := goodIn_r _ [7, 8, 31, 32, 33] (by decide +kernel) (by decide +kernel)
set_option maxRecDepth 20000 in
theorem gX1_find_Jx4a65c_size_8abf5 : GoodIn wsX1_find (wsV RX1 18 RJx4a65c yJx4a65c_size_8abf5 wsJx4a65c_size_8abf5) := goodIn_app (goodIn_of _ (by decide +kernel)) ggX1_find_Jx4a65c_size_8abf5
set_option maxRecDepth 20000 in
theorem ggX1_find_Jx4a65c_get_915e3 : GoodIn wsX1_find wsJx4a65c_get_915e3 := goodIn_r _ [12, 8, 13, 14, 15, 16, 17, 18, 19, 20, 21, 22, 23, 6, 24, 25, 31, 32, 33] (by decide +kernel) (by decide +kernel)
set_option maxRecDepth 20000 in
theorem gX1_find_Jx4a65c_get_915e3 : GoodIn wsX1_find (wsV RX1 26 RJx4a65c yJx4a65c_get_915e3 wsJx4a65c_get_915e3) := goodIn_app (goodIn_of _ (by decide +kernel)) ggX1_find_Jx4a65c_get_915e3
theorem dX1_find_0 : decode cX1_find 0 = .ok (.iconst 0, 1) := by decide +kernel
theorem dX1_find_1 : decode cX1_find 1 = .ok (.istore_n 3, 1) := by decide +kernel
theorem dX1_find_2 : decode cX1_find 2 = .ok (.iconst 0, 1) := by decide +kernel
theorem dX1_find_3 : decode cX1_find 3 = .ok (.istore 4, 2) := by decide +kernel
theorem dX1_find_5 : decode cX1_find 5 = .ok (.iload 4, 2) := by decide +kernel
theorem dX1_find_7 : decode cX1_find 7 = .ok (.aload_n 0, 1) := by decide +kernel
theorem dX1_find_8 : decode cX1_find 8 = .ok (.getfield 12, 3) := by decide +kernel
theorem dX1_find_11 : decode cX1_find 11 = .ok (.invokevirtual 18, 3) := by decide +kernel
theorem dX1_find_14 : decode cX1_find 14 = .ok (.if_icmp .ge 43, 3) := by decide +kernel
theorem dX1_find_17 : decode cX1_find 17 = .ok (.aload_n 0, 1) := by decide +kernel
theorem dX1_find_18 : decode cX1_find 18 = .ok (.getfield 12, 3) := by decide +kernel
theorem dX1_find_21 : decode cX1_find 21 = .ok (.iload 4, 2) := by decide +kernel
theorem dX1_find_23 : decode cX1_find 23 = .ok (.invokevirtual 26, 3) := by decide +kernel
theorem dX1_find_26 : decode cX1_find 26 = .ok (.checkcast 30, 3) := by decide +kernel
theorem dX1_find_29 : decode cX1_find 29 = .ok (.astore 5, 2) := by decide +kernel
theorem dX1_find_31 : decode cX1_find 31 = .ok (.aload 5, 2) := by decide +kernel
theorem dX1_find_33 : decode cX1_find 33 = .ok (.getfield 32, 3) := by decide +kernel
theorem dX1_find_36 : decode cX1_find 36 = .ok (.iload_n 1, 1) := by decide +kernel
theorem dX1_find_37 : decode cX1_find 37 = .ok (.if_icmp .ne 14, 3) := by decide +kernel
theorem dX1_find_40 : decode cX1_find 40 = .ok (.iload_n 3, 1) := by decide +kernel
theorem dX1_find_41 : decode cX1_find 41 = .ok (.iload_n 2, 1) := by decide +kernel
theorem dX1_find_42 : decode cX1_find 42 = .ok (.if_icmp .ne 6, 3) := by decide +kernel
theorem dX1_find_45 : decode cX1_find 45 = .ok (.aload 5, 2) := by decide +kernel
theorem dX1_find_47 : decode cX1_find 47 = .ok (.areturn, 1) := by decide +kernel
theorem dX1_find_48 : decode cX1_find 48 = .ok (.iinc 3 1, 3) := by decide +kernel
theorem dX1_find_51 : decode cX1_find 51 = .ok (.iinc 4 1, 3) := by decide +kernel
theorem dX1_find_54 : decode cX1_find 54 = .ok (.goto (-49), 3) := by decide +kernel
theorem dX1_find_57 : decode cX1_find 57 = .ok (.aconst_null, 1) := by decide +kernel
theorem dX1_find_58 : decode cX1_find 58 = .ok (.areturn, 1) := by decide +kernel
set_option maxRecDepth 20000 in
theorem ggX2_init_X2_clear : GoodIn wsX2_init wsX2_clear := goodIn_r _ [18, 5, 6, 7, 11, 12, 13, 19, 20, 21, 22, 23, 24, 25, 26, 27, 28, 29, 30, 31] (by decide +kernel) (by decide +kernel)
set_option maxRecDepth 20000 in
theorem gX2_init_X2_clear : GoodIn wsX2_init (wsV RX2 40 RX2 yX2_clear wsX2_clear) := goodIn_app (goodIn_of _ (by decide +kernel)) ggX2_init_X2_clear
theorem dX2_init_0 : decode cX2_init 0 = .ok (.aload_n 0, 1) := by decide +kernel
theorem dX2_init_1 : decode cX2_init 1 = .ok (.invokespecial 3, 3) := by decide +kernel
theorem dX2_init_4 : decode cX2_init 4 = .ok (.aload_n 0, 1) := by decide +kernel
theorem dX2_init_5 : decode cX2_init 5 = .ok (.bipush 40, 2) := by decide +kernel
theorem dX2_init_7 : decode cX2_init 7 = .ok (.newarray .int, 2) := by decide +kernel
theorem dX2_init_9 : decode cX2_init 9 = .ok (.putfield 9, 3) := by decide +kernel
theorem dX2_init_12 : decode cX2_init 12 = .ok (.aload_n 0, 1) := by decide +kernel
theorem dX2_init_13 : decode cX2_init 13 = .ok (.bipush 40, 2) := by decide +kernel
theorem dX2_init_15 : decode cX2_init 15 = .ok (.newarray .int, 2) := by decide +kernel
theorem dX2_init_17 : decode cX2_init 17 = .ok (.putfield 15, 3) := by decide +kernel
theorem dX2_init_20 : decode cX2_init 20 = .ok (.aload_n 0, 1) := by decide +kernel
theorem dX2_init_21 : decode cX2_init 21 = .ok (.bipush 8, 2) := by decide +kernel
theorem dX2_init_23 : decode cX2_init 23 = .ok (.newarray .int, 2) := by decide +kernel
theorem dX2_init_25 : decode cX2_init 25 = .ok (.putfield 18, 3) := by decide +kernel
theorem dX2_init_28 : decode cX2_init 28 = .ok (.aload_n 0, 1) := by decide +kernel
theorem dX2_init_29 : decode cX2_init 29 = .ok (.bipush 60, 2) := by decide +kernel
theorem dX2_init_31 : decode cX2_init 31 = .ok (.newarray .int, 2) := by decide +kernel
theorem dX2_init_33 : decode cX2_init 33 = .ok (.putfield 21, 3) := by decide +kernel
theorem dX2_init_36 : decode cX2_init 36 = .ok (.aload_n 0, 1) := by decide +kernel
theorem dX2_init_37 : decode cX2_init 37 = .ok (.bipush 60, 2) := by decide +kernel
theorem dX2_init_39 : decode cX2_init 39 = .ok (.newarray .int, 2) := by decide +kernel
theorem dX2_init_41 : decode cX2_init 41 = .ok (.putfield 24, 3) := by decide +kernel
theorem dX2_init_44 : decode cX2_init 44 = .ok (.aload_n 0, 1) := by decide +kernel
theorem dX2_init_45 : decode cX2_init 45 = .ok (.bipush 60, 2) := by decide +kernel
theorem dX2_init_47 : decode cX2_init 47 = .ok (.newarray .int, 2) := by decide +kernel
theorem dX2_init_49 : decode cX2_init 49 = .ok (.putfield 27, 3) := by decide +kernel
theorem dX2_init_52 : decode cX2_init 52 = .ok (.aload_n 0, 1) := by decide +kernel
theorem dX2_init_53 : decode cX2_init 53 = .ok (.iconst 0, 1) := by decide +kernel
theorem dX2_init_54 : decode cX2_init 54 = .ok (.putfield 30, 3) := by decide +kernel
theorem dX2_init_57 : decode cX2_init 57 = .ok (.aload_n 0, 1) := by decide +kernel
theorem dX2_init_58 : decode cX2_init 58 = .ok (.iconst 0, 1) := by decide +kernel
theorem dX2_init_59 : decode cX2_init 59 = .ok (.putfield 34, 3) := by decide +kernel
theorem dX2_init_62 : decode cX2_init 62 = .ok (.aload_n 0, 1) := by decide +kernel
theorem dX2_init_63 : decode cX2_init 63 = .ok (.iconst 0, 1) := by decide +kernel
theorem dX2_init_64 : decode cX2_init 64 = .ok (.putfield 37, 3) := by decide +kernel
theorem dX2_init_67 : decode cX2_init 67 = .ok (.aload_n 0, 1) := by decide +kernel
theorem dX2_init_68 : decode cX2_init 68 = .ok (.invokevirtual 40, 3) := by decide +kernel
theorem dX2_init_71 : decode cX2_init 71 = .ok (.return_, 1) := by decide +kernel
set_option maxRecDepth 20000 in
theorem ggX2_clear_J7_fill_53178 : GoodIn wsX2_clear wsJ7_fill_53178 := goodIn_r _ [10] (by decide +kernel) (by decide +kernel)
set_option maxRecDepth 20000 in
theorem gX2_clear_J7_fill_53178 : GoodIn wsX2_clear (va_wsS RX2 43 yJ7_fill_53178 wsJ7_fill_53178) := goodIn_app (goodIn_of _ (by decide +kernel)) ggX2_clear_J7_fill_53178
theorem dX2_clear_0 : decode cX2_clear 0 = .ok (.aload_n 0, 1) := by decide +kernel
theorem dX2_clear_1 : decode cX2_clear 1 = .ok (.getfield 9, 3) := by decide +kernel
theorem dX2_clear_4 : decode cX2_clear 4 = .ok (.iconst (-1), 1) := by decide +kernel
theorem dX2_clear_5 : decode cX2_clear 5 = .ok (.invokestatic 43, 3) := by decide +kernel
theorem dX2_clear_8 : decode cX2_clear 8 = .ok (.aload_n 0, 1) := by decide +kernel
theorem dX2_clear_9 : decode cX2_clear 9 = .ok (.getfield 15, 3) := by decide +kernel
theorem dX2_clear_12 : decode cX2_clear 12 = .ok (.iconst (-1), 1) := by decide +kernel
theorem dX2_clear_13 : decode cX2_clear 13 = .ok (.invokestatic 43, 3) := by decide +kernel
theorem dX2_clear_16 : decode cX2_clear 16 = .ok (.aload_n 0, 1) := by decide +kernel
theorem dX2_clear_17 : decode cX2_clear 17 = .ok (.getfield 18, 3) := by decide +kernel
theorem dX2_clear_20 : decode cX2_clear 20 = .ok (.iconst (-1), 1) := by decide +kernel
theorem dX2_clear_21 : decode cX2_clear 21 = .ok (.invokestatic 43, 3) := by decide +kernel
theorem dX2_clear_24 : decode cX2_clear 24 = .ok (.aload_n 0, 1) := by decide +kernel
theorem dX2_clear_25 : decode cX2_clear 25 = .ok (.iconst 0, 1) := by decide +kernel
theorem dX2_clear_26 : decode cX2_clear 26 = .ok (.putfield 30, 3) := by decide +kernel
theorem dX2_clear_29 : decode cX2_clear 29 = .ok (.aload_n 0, 1) := by decide +kernel
theorem dX2_clear_30 : decode cX2_clear 30 = .ok (.iconst 0, 1) := by decide +kernel
theorem dX2_clear_31 : decode cX2_clear 31 = .ok (.putfield 34, 3) := by decide +kernel
theorem dX2_clear_34 : decode cX2_clear 34 = .ok (.aload_n 0, 1) := by decide +kernel
theorem dX2_clear_35 : decode cX2_clear 35 = .ok (.iconst 0, 1) := by decide +kernel
theorem dX2_clear_36 : decode cX2_clear 36 = .ok (.putfield 37, 3) := by decide +kernel
theorem dX2_clear_39 : decode cX2_clear 39 = .ok (.return_, 1) := by decide +kernel
set_option maxRecDepth 20000 in
theorem ggX2_tell_X7_isWithin : GoodIn wsX2_tell wsX7_isWithin := goodIn_r _ [5] (by decide +kernel) (by decide +kernel)
set_option maxRecDepth 20000 in
theorem gX2_tell_X7_isWithin_n49 : GoodIn wsX2_tell (wsX7_isWithin) := ggX2_tell_X7_isWithin
set_option maxRecDepth 20000 in
theorem ggX2_tell_X2_tellOf : GoodIn wsX2_tell wsX2_tellOf := goodIn_r _ [10, 11, 12, 13, 3, 4, 5, 14, 15, 9, 16, 17, 18, 19, 20, 21, 22, 23, 24, 25, 26, 27, 28, 29, 30, 31, 32, 33, 34, 35, 36, 37, 38, 39, 40] (by decide +kernel) (by decide +kernel)
set_option maxRecDepth 20000 in
theorem gX2_tell_X2_tellOf : GoodIn wsX2_tell (wsV RX2 53 RX2 yX2_tellOf wsX2_tellOf) := goodIn_app (goodIn_of _ (by decide +kernel)) ggX2_tell_X2_tellOf
theorem dX2_tell_0 : decode cX2_tell 0 = .ok (.iload_n 2, 1) := by decide +kernel
theorem dX2_tell_1 : decode cX2_tell 1 = .ok (.iconst 0, 1) := by decide +kernel
theorem dX2_tell_2 : decode cX2_tell 2 = .ok (.bipush 7, 2) := by decide +kernel
theorem dX2_tell_4 : decode cX2_tell 4 = .ok (.invokestatic 49, 3) := by decide +kernel
theorem dX2_tell_7 : decode cX2_tell 7 = .ok (.ifCond .eq 15, 3) := by decide +kernel
theorem dX2_tell_10 : decode cX2_tell 10 = .ok (.aload_n 0, 1) := by decide +kernel
theorem dX2_tell_11 : decode cX2_tell 11 = .ok (.iload_n 1, 1) := by decide +kernel
theorem dX2_tell_12 : decode cX2_tell 12 = .ok (.iload_n 2, 1) := by decide +kernel
theorem dX2_tell_13 : decode cX2_tell 13 = .ok (.iload_n 3, 1) := by decide +kernel
theorem dX2_tell_14 : decode cX2_tell 14 = .ok (.iload 4, 2) := by decide +kernel
theorem dX2_tell_16 : decode cX2_tell 16 = .ok (.invokevirtual 53, 3) := by decide +kernel
theorem dX2_tell_19 : decode cX2_tell 19 = .ok (.ifCond .ne 5, 3) := by decide +kernel
theorem dX2_tell_22 : decode cX2_tell 22 = .ok (.iconst 0, 1) := by decide +kernel
theorem dX2_tell_23 : decode cX2_tell 23 = .ok (.ireturn, 1) := by decide +kernel
theorem dX2_tell_24 : decode cX2_tell 24 = .ok (.aload_n 0, 1) := by decide +kernel
theorem dX2_tell_25 : decode cX2_tell 25 = .ok (.dup, 1) := by decide +kernel
theorem dX2_tell_26 : decode cX2_tell 26 = .ok (.getfield 34, 3) := by decide +kernel
theorem dX2_tell_29 : decode cX2_tell 29 = .ok (.iconst 1, 1) := by decide +kernel
theorem dX2_tell_30 : decode cX2_tell 30 = .ok (.iadd, 1) := by decide +kernel
theorem dX2_tell_31 : decode cX2_tell 31 = .ok (.putfield 34, 3) := by decide +kernel
theorem dX2_tell_34 : decode cX2_tell 34 = .ok (.aload_n 0, 1) := by decide +kernel
theorem dX2_tell_35 : decode cX2_tell 35 = .ok (.dup, 1) := by decide +kernel
theorem dX2_tell_36 : decode cX2_tell 36 = .ok (.getfield 37, 3) := by decide +kernel
theorem dX2_tell_39 : decode cX2_tell 39 = .ok (.iconst 1, 1) := by decide +kernel
theorem dX2_tell_40 : decode cX2_tell 40 = .ok (.iload_n 2, 1) := by decide +kernel
theorem dX2_tell_41 : decode cX2_tell 41 = .ok (.ishl, 1) := by decide +kernel
theorem dX2_tell_42 : decode cX2_tell 42 = .ok (.ior, 1) := by decide +kernel
theorem dX2_tell_43 : decode cX2_tell 43 = .ok (.putfield 37, 3) := by decide +kernel
theorem dX2_tell_46 : decode cX2_tell 46 = .ok (.iconst 1, 1) := by decide +kernel
theorem dX2_tell_47 : decode cX2_tell 47 = .ok (.ireturn, 1) := by decide +kernel
set_option maxRecDepth 20000 in
theorem ggX2_tellOf_X7_isWithin : GoodIn wsX2_tellOf wsX7_isWithin := goodIn_r _ [6] (by decide +kernel) (by decide +kernel)
set_option maxRecDepth 20000 in
theorem gX2_tellOf_X7_isWithin_n49 : GoodIn wsX2_tellOf (wsX7_isWithin) := ggX2_tellOf_X7_isWithin
set_option maxRecDepth 20000 in
theorem ggX2_tellOf_X2_place : GoodIn wsX2_tellOf wsX2_place := goodIn_r _ [10] (by decide +kernel) (by decide +kernel)
set_option maxRecDepth 20000 in
theorem gX2_tellOf_X2_place : GoodIn wsX2_tellOf (va_wsS RX2 57 yX2_place wsX2_place) := goodIn_app (goodIn_of _ (by decide +kernel)) ggX2_tellOf_X2_place
set_option maxRecDepth 20000 in
theorem ggX2_tellOf_X2_tellCents : GoodIn wsX2_tellOf wsX2_tellCents := goodIn_r _ [13, 4, 5, 6] (by decide +kernel) (by decide +kernel)
set_option maxRecDepth 20000 in
theorem gX2_tellOf_X2_tellCents : GoodIn wsX2_tellOf (va_wsS RX2 61 yX2_tellCents wsX2_tellCents) := goodIn_app (goodIn_of _ (by decide +kernel)) ggX2_tellOf_X2_tellCents
set_option maxRecDepth 20000 in
theorem ggX2_tellOf_X2_tellDiscount : GoodIn wsX2_tellOf wsX2_tellDiscount := goodIn_r _ [17, 18, 19, 20, 21, 4, 5, 6, 22, 23, 24, 9, 25, 26, 27, 28, 29, 30, 31, 32, 33, 34] (by decide +kernel) (by decide +kernel)
set_option maxRecDepth 20000 in
theorem gX2_tellOf_X2_tellDiscount : GoodIn wsX2_tellOf (wsV RX2 65 RX2 yX2_tellDiscount wsX2_tellDiscount) := goodIn_app (goodIn_of _ (by decide +kernel)) ggX2_tellOf_X2_tellDiscount
theorem dX2_tellOf_0 : decode cX2_tellOf 0 = .ok (.iload_n 1, 1) := by decide +kernel
theorem dX2_tellOf_1 : decode cX2_tellOf 1 = .ok (.lookupswitch 126 #[(72, 75), (77, 107), (83, 43), (86, 117)], 43) := by decide +kernel
theorem dX2_tellOf_44 : decode cX2_tellOf 44 = .ok (.iload_n 3, 1) := by decide +kernel
theorem dX2_tellOf_45 : decode cX2_tellOf 45 = .ok (.iconst 0, 1) := by decide +kernel
theorem dX2_tellOf_46 : decode cX2_tellOf 46 = .ok (.iconst 4, 1) := by decide +kernel
theorem dX2_tellOf_47 : decode cX2_tellOf 47 = .ok (.invokestatic 49, 3) := by decide +kernel
theorem dX2_tellOf_50 : decode cX2_tellOf 50 = .ok (.ifCond .eq 24, 3) := by decide +kernel
theorem dX2_tellOf_53 : decode cX2_tellOf 53 = .ok (.aload_n 0, 1) := by decide +kernel
theorem dX2_tellOf_54 : decode cX2_tellOf 54 = .ok (.getfield 9, 3) := by decide +kernel
theorem dX2_tellOf_57 : decode cX2_tellOf 57 = .ok (.iload_n 2, 1) := by decide +kernel
theorem dX2_tellOf_58 : decode cX2_tellOf 58 = .ok (.iload_n 3, 1) := by decide +kernel
theorem dX2_tellOf_59 : decode cX2_tellOf 59 = .ok (.invokestatic 57, 3) := by decide +kernel
theorem dX2_tellOf_62 : decode cX2_tellOf 62 = .ok (.iload 4, 2) := by decide +kernel
theorem dX2_tellOf_64 : decode cX2_tellOf 64 = .ok (.invokestatic 61, 3) := by decide +kernel
theorem dX2_tellOf_67 : decode cX2_tellOf 67 = .ok (.ifCond .eq 7, 3) := by decide +kernel
theorem dX2_tellOf_70 : decode cX2_tellOf 70 = .ok (.iconst 1, 1) := by decide +kernel
theorem dX2_tellOf_71 : decode cX2_tellOf 71 = .ok (.goto 4, 3) := by decide +kernel
theorem dX2_tellOf_74 : decode cX2_tellOf 74 = .ok (.iconst 0, 1) := by decide +kernel
theorem dX2_tellOf_75 : decode cX2_tellOf 75 = .ok (.ireturn, 1) := by decide +kernel
theorem dX2_tellOf_76 : decode cX2_tellOf 76 = .ok (.iload_n 3, 1) := by decide +kernel
theorem dX2_tellOf_77 : decode cX2_tellOf 77 = .ok (.iconst 0, 1) := by decide +kernel
theorem dX2_tellOf_78 : decode cX2_tellOf 78 = .ok (.iconst 4, 1) := by decide +kernel
theorem dX2_tellOf_79 : decode cX2_tellOf 79 = .ok (.invokestatic 49, 3) := by decide +kernel
theorem dX2_tellOf_82 : decode cX2_tellOf 82 = .ok (.ifCond .eq 24, 3) := by decide +kernel
theorem dX2_tellOf_85 : decode cX2_tellOf 85 = .ok (.aload_n 0, 1) := by decide +kernel
theorem dX2_tellOf_86 : decode cX2_tellOf 86 = .ok (.getfield 15, 3) := by decide +kernel
theorem dX2_tellOf_89 : decode cX2_tellOf 89 = .ok (.iload_n 2, 1) := by decide +kernel
theorem dX2_tellOf_90 : decode cX2_tellOf 90 = .ok (.iload_n 3, 1) := by decide +kernel
theorem dX2_tellOf_91 : decode cX2_tellOf 91 = .ok (.invokestatic 57, 3) := by decide +kernel
theorem dX2_tellOf_94 : decode cX2_tellOf 94 = .ok (.iload 4, 2) := by decide +kernel
theorem dX2_tellOf_96 : decode cX2_tellOf 96 = .ok (.invokestatic 61, 3) := by decide +kernel
theorem dX2_tellOf_99 : decode cX2_tellOf 99 = .ok (.ifCond .eq 7, 3) := by decide +kernel
theorem dX2_tellOf_102 : decode cX2_tellOf 102 = .ok (.iconst 1, 1) := by decide +kernel
theorem dX2_tellOf_103 : decode cX2_tellOf 103 = .ok (.goto 4, 3) := by decide +kernel
theorem dX2_tellOf_106 : decode cX2_tellOf 106 = .ok (.iconst 0, 1) := by decide +kernel
theorem dX2_tellOf_107 : decode cX2_tellOf 107 = .ok (.ireturn, 1) := by decide +kernel
theorem dX2_tellOf_108 : decode cX2_tellOf 108 = .ok (.aload_n 0, 1) := by decide +kernel
theorem dX2_tellOf_109 : decode cX2_tellOf 109 = .ok (.getfield 18, 3) := by decide +kernel
theorem dX2_tellOf_112 : decode cX2_tellOf 112 = .ok (.iload_n 2, 1) := by decide +kernel
theorem dX2_tellOf_113 : decode cX2_tellOf 113 = .ok (.iload_n 3, 1) := by decide +kernel
theorem dX2_tellOf_114 : decode cX2_tellOf 114 = .ok (.invokestatic 61, 3) := by decide +kernel
theorem dX2_tellOf_117 : decode cX2_tellOf 117 = .ok (.ireturn, 1) := by decide +kernel
theorem dX2_tellOf_118 : decode cX2_tellOf 118 = .ok (.aload_n 0, 1) := by decide +kernel
theorem dX2_tellOf_119 : decode cX2_tellOf 119 = .ok (.iload_n 2, 1) := by decide +kernel
theorem dX2_tellOf_120 : decode cX2_tellOf 120 = .ok (.iload_n 3, 1) := by decide +kernel
theorem dX2_tellOf_121 : decode cX2_tellOf 121 = .ok (.iload 4, 2) := by decide +kernel
theorem dX2_tellOf_123 : decode cX2_tellOf 123 = .ok (.invokevirtual 65, 3) := by decide +kernel
theorem dX2_tellOf_126 : decode cX2_tellOf 126 = .ok (.ireturn, 1) := by decide +kernel
theorem dX2_tellOf_127 : decode cX2_tellOf 127 = .ok (.iconst 0, 1) := by decide +kernel
theorem dX2_tellOf_128 : decode cX2_tellOf 128 = .ok (.ireturn, 1) := by decide +kernel
theorem dX2_place_0 : decode cX2_place 0 = .ok (.iconst 5, 1) := by decide +kernel
theorem dX2_place_1 : decode cX2_place 1 = .ok (.iload_n 0, 1) := by decide +kernel
theorem dX2_place_2 : decode cX2_place 2 = .ok (.imul, 1) := by decide +kernel
theorem dX2_place_3 : decode cX2_place 3 = .ok (.iload_n 1, 1) := by decide +kernel
theorem dX2_place_4 : decode cX2_place 4 = .ok (.iadd, 1) := by decide +kernel
theorem dX2_place_5 : decode cX2_place 5 = .ok (.ireturn, 1) := by decide +kernel
set_option maxRecDepth 20000 in
theorem ggX2_tellCents_X7_isWithin : GoodIn wsX2_tellCents wsX7_isWithin := goodIn_r _ [3] (by decide +kernel) (by decide +kernel)
set_option maxRecDepth 20000 in
theorem gX2_tellCents_X7_isWithin_n49 : GoodIn wsX2_tellCents (wsX7_isWithin) := ggX2_tellCents_X7_isWithin
theorem dX2_tellCents_0 : decode cX2_tellCents 0 = .ok (.iload_n 2, 1) := by decide +kernel
theorem dX2_tellCents_1 : decode cX2_tellCents 1 = .ok (.iconst 0, 1) := by decide +kernel
theorem dX2_tellCents_2 : decode cX2_tellCents 2 = .ok (.sipush 10000, 3) := by decide +kernel
theorem dX2_tellCents_5 : decode cX2_tellCents 5 = .ok (.invokestatic 49, 3) := by decide +kernel
theorem dX2_tellCents_8 : decode cX2_tellCents 8 = .ok (.ifCond .eq 22, 3) := by decide +kernel
theorem dX2_tellCents_11 : decode cX2_tellCents 11 = .ok (.iload_n 1, 1) := by decide +kernel
theorem dX2_tellCents_12 : decode cX2_tellCents 12 = .ok (.iconst 0, 1) := by decide +kernel
theorem dX2_tellCents_13 : decode cX2_tellCents 13 = .ok (.aload_n 0, 1) := by decide +kernel
theorem dX2_tellCents_14 : decode cX2_tellCents 14 = .ok (.arraylength, 1) := by decide +kernel
theorem dX2_tellCents_15 : decode cX2_tellCents 15 = .ok (.iconst 1, 1) := by decide +kernel
theorem dX2_tellCents_16 : decode cX2_tellCents 16 = .ok (.isub, 1) := by decide +kernel
theorem dX2_tellCents_17 : decode cX2_tellCents 17 = .ok (.invokestatic 49, 3) := by decide +kernel
theorem dX2_tellCents_20 : decode cX2_tellCents 20 = .ok (.ifCond .eq 10, 3) := by decide +kernel
theorem dX2_tellCents_23 : decode cX2_tellCents 23 = .ok (.aload_n 0, 1) := by decide +kernel
theorem dX2_tellCents_24 : decode cX2_tellCents 24 = .ok (.iload_n 1, 1) := by decide +kernel
theorem dX2_tellCents_25 : decode cX2_tellCents 25 = .ok (.iaload, 1) := by decide +kernel
theorem dX2_tellCents_26 : decode cX2_tellCents 26 = .ok (.iconst (-1), 1) := by decide +kernel
theorem dX2_tellCents_27 : decode cX2_tellCents 27 = .ok (.if_icmp .eq 5, 3) := by decide +kernel
theorem dX2_tellCents_30 : decode cX2_tellCents 30 = .ok (.iconst 0, 1) := by decide +kernel
theorem dX2_tellCents_31 : decode cX2_tellCents 31 = .ok (.ireturn, 1) := by decide +kernel
theorem dX2_tellCents_32 : decode cX2_tellCents 32 = .ok (.aload_n 0, 1) := by decide +kernel
theorem dX2_tellCents_33 : decode cX2_tellCents 33 = .ok (.iload_n 1, 1) := by decide +kernel
theorem dX2_tellCents_34 : decode cX2_tellCents 34 = .ok (.iload_n 2, 1) := by decide +kernel
theorem dX2_tellCents_35 : decode cX2_tellCents 35 = .ok (.iastore, 1) := by decide +kernel
theorem dX2_tellCents_36 : decode cX2_tellCents 36 = .ok (.iconst 1, 1) := by decide +kernel
theorem dX2_tellCents_37 : decode cX2_tellCents 37 = .ok (.ireturn, 1) := by decide +kernel
set_option maxRecDepth 20000 in
theorem ggX2_tellDiscount_X7_isWithin : GoodIn wsX2_tellDiscount wsX7_isWithin := goodIn_r _ [7] (by decide +kernel) (by decide +kernel)
set_option maxRecDepth 20000 in
theorem gX2_tellDiscount_X7_isWithin_n49 : GoodIn wsX2_tellDiscount (wsX7_isWithin) := ggX2_tellDiscount_X7_isWithin
set_option maxRecDepth 20000 in
theorem ggX2_tellDiscount_X2_hasDiscount : GoodIn wsX2_tellDiscount wsX2_hasDiscount := goodIn_r _ [12, 1, 2, 3, 13, 14, 15, 16, 17, 18, 19, 20, 21] (by decide +kernel) (by decide +kernel)
set_option maxRecDepth 20000 in
theorem gX2_tellDiscount_X2_hasDiscount : GoodIn wsX2_tellDiscount (wsV RX2 68 RX2 yX2_hasDiscount wsX2_hasDiscount) := goodIn_app (goodIn_of _ (by decide +kernel)) ggX2_tellDiscount_X2_hasDiscount
theorem dX2_tellDiscount_0 : decode cX2_tellDiscount 0 = .ok (.iload_n 2, 1) := by decide +kernel
theorem dX2_tellDiscount_1 : decode cX2_tellDiscount 1 = .ok (.iconst 1, 1) := by decide +kernel
theorem dX2_tellDiscount_2 : decode cX2_tellDiscount 2 = .ok (.sipush 9000, 3) := by decide +kernel
theorem dX2_tellDiscount_5 : decode cX2_tellDiscount 5 = .ok (.invokestatic 49, 3) := by decide +kernel
theorem dX2_tellDiscount_8 : decode cX2_tellDiscount 8 = .ok (.ifCond .eq 31, 3) := by decide +kernel
theorem dX2_tellDiscount_11 : decode cX2_tellDiscount 11 = .ok (.iload_n 3, 1) := by decide +kernel
theorem dX2_tellDiscount_12 : decode cX2_tellDiscount 12 = .ok (.iconst 0, 1) := by decide +kernel
theorem dX2_tellDiscount_13 : decode cX2_tellDiscount 13 = .ok (.bipush 100, 2) := by decide +kernel
theorem dX2_tellDiscount_15 : decode cX2_tellDiscount 15 = .ok (.invokestatic 49, 3) := by decide +kernel
theorem dX2_tellDiscount_18 : decode cX2_tellDiscount 18 = .ok (.ifCond .eq 21, 3) := by decide +kernel
theorem dX2_tellDiscount_21 : decode cX2_tellDiscount 21 = .ok (.aload_n 0, 1) := by decide +kernel
theorem dX2_tellDiscount_22 : decode cX2_tellDiscount 22 = .ok (.iload_n 1, 1) := by decide +kernel
theorem dX2_tellDiscount_23 : decode cX2_tellDiscount 23 = .ok (.iload_n 2, 1) := by decide +kernel
theorem dX2_tellDiscount_24 : decode cX2_tellDiscount 24 = .ok (.invokevirtual 68, 3) := by decide +kernel
theorem dX2_tellDiscount_27 : decode cX2_tellDiscount 27 = .ok (.ifCond .ne 12, 3) := by decide +kernel
theorem dX2_tellDiscount_30 : decode cX2_tellDiscount 30 = .ok (.aload_n 0, 1) := by decide +kernel
theorem dX2_tellDiscount_31 : decode cX2_tellDiscount 31 = .ok (.getfield 30, 3) := by decide +kernel
theorem dX2_tellDiscount_34 : decode cX2_tellDiscount 34 = .ok (.bipush 60, 2) := by decide +kernel
theorem dX2_tellDiscount_36 : decode cX2_tellDiscount 36 = .ok (.if_icmp .lt 5, 3) := by decide +kernel
theorem dX2_tellDiscount_39 : decode cX2_tellDiscount 39 = .ok (.iconst 0, 1) := by decide +kernel
theorem dX2_tellDiscount_40 : decode cX2_tellDiscount 40 = .ok (.ireturn, 1) := by decide +kernel
theorem dX2_tellDiscount_41 : decode cX2_tellDiscount 41 = .ok (.aload_n 0, 1) := by decide +kernel
theorem dX2_tellDiscount_42 : decode cX2_tellDiscount 42 = .ok (.getfield 21, 3) := by decide +kernel
theorem dX2_tellDiscount_45 : decode cX2_tellDiscount 45 = .ok (.aload_n 0, 1) := by decide +kernel
theorem dX2_tellDiscount_46 : decode cX2_tellDiscount 46 = .ok (.getfield 30, 3) := by decide +kernel
theorem dX2_tellDiscount_49 : decode cX2_tellDiscount 49 = .ok (.iload_n 1, 1) := by decide +kernel
theorem dX2_tellDiscount_50 : decode cX2_tellDiscount 50 = .ok (.iastore, 1) := by decide +kernel
theorem dX2_tellDiscount_51 : decode cX2_tellDiscount 51 = .ok (.aload_n 0, 1) := by decide +kernel
theorem dX2_tellDiscount_52 : decode cX2_tellDiscount 52 = .ok (.getfield 24, 3) := by decide +kernel
theorem dX2_tellDiscount_55 : decode cX2_tellDiscount 55 = .ok (.aload_n 0, 1) := by decide +kernel
theorem dX2_tellDiscount_56 : decode cX2_tellDiscount 56 = .ok (.getfield 30, 3) := by decide +kernel
theorem dX2_tellDiscount_59 : decode cX2_tellDiscount 59 = .ok (.iload_n 2, 1) := by decide +kernel
theorem dX2_tellDiscount_60 : decode cX2_tellDiscount 60 = .ok (.iastore, 1) := by decide +kernel
theorem dX2_tellDiscount_61 : decode cX2_tellDiscount 61 = .ok (.aload_n 0, 1) := by decide +kernel
theorem dX2_tellDiscount_62 : decode cX2_tellDiscount 62 = .ok (.getfield 27, 3) := by decide +kernel
theorem dX2_tellDiscount_65 : decode cX2_tellDiscount 65 = .ok (.aload_n 0, 1) := by decide +kernel
theorem dX2_tellDiscount_66 : decode cX2_tellDiscount 66 = .ok (.getfield 30, 3) := by decide +kernel
theorem dX2_tellDiscount_69 : decode cX2_tellDiscount 69 = .ok (.iload_n 3, 1) := by decide +kernel
theorem dX2_tellDiscount_70 : decode cX2_tellDiscount 70 = .ok (.iastore, 1) := by decide +kernel
theorem dX2_tellDiscount_71 : decode cX2_tellDiscount 71 = .ok (.aload_n 0, 1) := by decide +kernel
theorem dX2_tellDiscount_72 : decode cX2_tellDiscount 72 = .ok (.dup, 1) := by decide +kernel
theorem dX2_tellDiscount_73 : decode cX2_tellDiscount 73 = .ok (.getfield 30, 3) := by decide +kernel
theorem dX2_tellDiscount_76 : decode cX2_tellDiscount 76 = .ok (.iconst 1, 1) := by decide +kernel
theorem dX2_tellDiscount_77 : decode cX2_tellDiscount 77 = .ok (.iadd, 1) := by decide +kernel
theorem dX2_tellDiscount_78 : decode cX2_tellDiscount 78 = .ok (.putfield 30, 3) := by decide +kernel
theorem dX2_tellDiscount_81 : decode cX2_tellDiscount 81 = .ok (.iconst 1, 1) := by decide +kernel
theorem dX2_tellDiscount_82 : decode cX2_tellDiscount 82 = .ok (.ireturn, 1) := by decide +kernel
theorem dX2_hasDiscount_0 : decode cX2_hasDiscount 0 = .ok (.iconst 0, 1) := by decide +kernel
theorem dX2_hasDiscount_1 : decode cX2_hasDiscount 1 = .ok (.istore_n 3, 1) := by decide +kernel
theorem dX2_hasDiscount_2 : decode cX2_hasDiscount 2 = .ok (.iload_n 3, 1) := by decide +kernel
theorem dX2_hasDiscount_3 : decode cX2_hasDiscount 3 = .ok (.aload_n 0, 1) := by decide +kernel
theorem dX2_hasDiscount_4 : decode cX2_hasDiscount 4 = .ok (.getfield 30, 3) := by decide +kernel
theorem dX2_hasDiscount_7 : decode cX2_hasDiscount 7 = .ok (.if_icmp .ge 31, 3) := by decide +kernel
theorem dX2_hasDiscount_10 : decode cX2_hasDiscount 10 = .ok (.aload_n 0, 1) := by decide +kernel
theorem dX2_hasDiscount_11 : decode cX2_hasDiscount 11 = .ok (.getfield 21, 3) := by decide +kernel
theorem dX2_hasDiscount_14 : decode cX2_hasDiscount 14 = .ok (.iload_n 3, 1) := by decide +kernel
theorem dX2_hasDiscount_15 : decode cX2_hasDiscount 15 = .ok (.iaload, 1) := by decide +kernel
theorem dX2_hasDiscount_16 : decode cX2_hasDiscount 16 = .ok (.iload_n 1, 1) := by decide +kernel
theorem dX2_hasDiscount_17 : decode cX2_hasDiscount 17 = .ok (.if_icmp .ne 15, 3) := by decide +kernel
theorem dX2_hasDiscount_20 : decode cX2_hasDiscount 20 = .ok (.aload_n 0, 1) := by decide +kernel
theorem dX2_hasDiscount_21 : decode cX2_hasDiscount 21 = .ok (.getfield 24, 3) := by decide +kernel
theorem dX2_hasDiscount_24 : decode cX2_hasDiscount 24 = .ok (.iload_n 3, 1) := by decide +kernel
theorem dX2_hasDiscount_25 : decode cX2_hasDiscount 25 = .ok (.iaload, 1) := by decide +kernel
theorem dX2_hasDiscount_26 : decode cX2_hasDiscount 26 = .ok (.iload_n 2, 1) := by decide +kernel
theorem dX2_hasDiscount_27 : decode cX2_hasDiscount 27 = .ok (.if_icmp .ne 5, 3) := by decide +kernel
theorem dX2_hasDiscount_30 : decode cX2_hasDiscount 30 = .ok (.iconst 1, 1) := by decide +kernel
theorem dX2_hasDiscount_31 : decode cX2_hasDiscount 31 = .ok (.ireturn, 1) := by decide +kernel
theorem dX2_hasDiscount_32 : decode cX2_hasDiscount 32 = .ok (.iinc 3 1, 3) := by decide +kernel
theorem dX2_hasDiscount_35 : decode cX2_hasDiscount 35 = .ok (.goto (-33), 3) := by decide +kernel
theorem dX2_hasDiscount_38 : decode cX2_hasDiscount 38 = .ok (.iconst 0, 1) := by decide +kernel
theorem dX2_hasDiscount_39 : decode cX2_hasDiscount 39 = .ok (.ireturn, 1) := by decide +kernel
set_option maxRecDepth 20000 in
theorem ggX2_storageCents_X2_place : GoodIn wsX2_storageCents wsX2_place := goodIn_r _ [5] (by decide +kernel) (by decide +kernel)
set_option maxRecDepth 20000 in
theorem gX2_storageCents_X2_place : GoodIn wsX2_storageCents (va_wsS RX2 57 yX2_place wsX2_place) := goodIn_app (goodIn_of _ (by decide +kernel)) ggX2_storageCents_X2_place
set_option maxRecDepth 20000 in
theorem ggX2_storageCents_X2_toldOrZero : GoodIn wsX2_storageCents wsX2_toldOrZero := goodIn_r _ [8, 9, 10, 11] (by decide +kernel) (by decide +kernel)
set_option maxRecDepth 20000 in
theorem gX2_storageCents_X2_toldOrZero : GoodIn wsX2_storageCents (va_wsS RX2 72 yX2_toldOrZero wsX2_toldOrZero) := goodIn_app (goodIn_of _ (by decide +kernel)) ggX2_storageCents_X2_toldOrZero
theorem dX2_storageCents_0 : decode cX2_storageCents 0 = .ok (.aload_n 0, 1) := by decide +kernel
theorem dX2_storageCents_1 : decode cX2_storageCents 1 = .ok (.getfield 9, 3) := by decide +kernel
theorem dX2_storageCents_4 : decode cX2_storageCents 4 = .ok (.iload_n 1, 1) := by decide +kernel
theorem dX2_storageCents_5 : decode cX2_storageCents 5 = .ok (.iload_n 2, 1) := by decide +kernel
theorem dX2_storageCents_6 : decode cX2_storageCents 6 = .ok (.invokestatic 57, 3) := by decide +kernel
theorem dX2_storageCents_9 : decode cX2_storageCents 9 = .ok (.invokestatic 72, 3) := by decide +kernel
theorem dX2_storageCents_12 : decode cX2_storageCents 12 = .ok (.ireturn, 1) := by decide +kernel
set_option maxRecDepth 20000 in
theorem ggX2_handlingCents_X2_place : GoodIn wsX2_handlingCents wsX2_place := goodIn_r _ [5] (by decide +kernel) (by decide +kernel)
set_option maxRecDepth 20000 in
theorem gX2_handlingCents_X2_place : GoodIn wsX2_handlingCents (va_wsS RX2 57 yX2_place wsX2_place) := goodIn_app (goodIn_of _ (by decide +kernel)) ggX2_handlingCents_X2_place
set_option maxRecDepth 20000 in
theorem ggX2_handlingCents_X2_toldOrZero : GoodIn wsX2_handlingCents wsX2_toldOrZero := goodIn_r _ [8, 9, 10, 11] (by decide +kernel) (by decide +kernel)
set_option maxRecDepth 20000 in
theorem gX2_handlingCents_X2_toldOrZero : GoodIn wsX2_handlingCents (va_wsS RX2 72 yX2_toldOrZero wsX2_toldOrZero) := goodIn_app (goodIn_of _ (by decide +kernel)) ggX2_handlingCents_X2_toldOrZero
theorem dX2_handlingCents_0 : decode cX2_handlingCents 0 = .ok (.aload_n 0, 1) := by decide +kernel
theorem dX2_handlingCents_1 : decode cX2_handlingCents 1 = .ok (.getfield 15, 3) := by decide +kernel
theorem dX2_handlingCents_4 : decode cX2_handlingCents 4 = .ok (.iload_n 1, 1) := by decide +kernel
theorem dX2_handlingCents_5 : decode cX2_handlingCents 5 = .ok (.iload_n 2, 1) := by decide +kernel
theorem dX2_handlingCents_6 : decode cX2_handlingCents 6 = .ok (.invokestatic 57, 3) := by decide +kernel
theorem dX2_handlingCents_9 : decode cX2_handlingCents 9 = .ok (.invokestatic 72, 3) := by decide +kernel
theorem dX2_handlingCents_12 : decode cX2_handlingCents 12 = .ok (.ireturn, 1) := by decide +kernel
set_option maxRecDepth 20000 in
theorem ggX2_minimumOf_X2_toldOrZero : GoodIn wsX2_minimumOf wsX2_toldOrZero := goodIn_r _ [5, 6, 7, 8] (by decide +kernel) (by decide +kernel)
set_option maxRecDepth 20000 in
theorem gX2_minimumOf_X2_toldOrZero : GoodIn wsX2_minimumOf (va_wsS RX2 72 yX2_toldOrZero wsX2_toldOrZero) := goodIn_app (goodIn_of _ (by decide +kernel)) ggX2_minimumOf_X2_toldOrZero
theorem dX2_minimumOf_0 : decode cX2_minimumOf 0 = .ok (.aload_n 0, 1) := by decide +kernel
theorem dX2_minimumOf_1 : decode cX2_minimumOf 1 = .ok (.getfield 18, 3) := by decide +kernel
theorem dX2_minimumOf_4 : decode cX2_minimumOf 4 = .ok (.iload_n 1, 1) := by decide +kernel
theorem dX2_minimumOf_5 : decode cX2_minimumOf 5 = .ok (.invokestatic 72, 3) := by decide +kernel
theorem dX2_minimumOf_8 : decode cX2_minimumOf 8 = .ok (.ireturn, 1) := by decide +kernel
set_option maxRecDepth 20000 in
theorem ggX2_toldOrZero_X7_isWithin : GoodIn wsX2_toldOrZero wsX7_isWithin := goodIn_r _ [3] (by decide +kernel) (by decide +kernel)
set_option maxRecDepth 20000 in
theorem gX2_toldOrZero_X7_isWithin_n49 : GoodIn wsX2_toldOrZero (wsX7_isWithin) := ggX2_toldOrZero_X7_isWithin
theorem dX2_toldOrZero_0 : decode cX2_toldOrZero 0 = .ok (.iload_n 1, 1) := by decide +kernel
theorem dX2_toldOrZero_1 : decode cX2_toldOrZero 1 = .ok (.iconst 0, 1) := by decide +kernel
theorem dX2_toldOrZero_2 : decode cX2_toldOrZero 2 = .ok (.aload_n 0, 1) := by decide +kernel
theorem dX2_toldOrZero_3 : decode cX2_toldOrZero 3 = .ok (.arraylength, 1) := by decide +kernel
theorem dX2_toldOrZero_4 : decode cX2_toldOrZero 4 = .ok (.iconst 1, 1) := by decide +kernel
theorem dX2_toldOrZero_5 : decode cX2_toldOrZero 5 = .ok (.isub, 1) := by decide +kernel
theorem dX2_toldOrZero_6 : decode cX2_toldOrZero 6 = .ok (.invokestatic 49, 3) := by decide +kernel
theorem dX2_toldOrZero_9 : decode cX2_toldOrZero 9 = .ok (.ifCond .eq 16, 3) := by decide +kernel
theorem dX2_toldOrZero_12 : decode cX2_toldOrZero 12 = .ok (.aload_n 0, 1) := by decide +kernel
theorem dX2_toldOrZero_13 : decode cX2_toldOrZero 13 = .ok (.iload_n 1, 1) := by decide +kernel
theorem dX2_toldOrZero_14 : decode cX2_toldOrZero 14 = .ok (.iaload, 1) := by decide +kernel
theorem dX2_toldOrZero_15 : decode cX2_toldOrZero 15 = .ok (.iconst (-1), 1) := by decide +kernel
theorem dX2_toldOrZero_16 : decode cX2_toldOrZero 16 = .ok (.if_icmp .eq 9, 3) := by decide +kernel
theorem dX2_toldOrZero_19 : decode cX2_toldOrZero 19 = .ok (.aload_n 0, 1) := by decide +kernel
theorem dX2_toldOrZero_20 : decode cX2_toldOrZero 20 = .ok (.iload_n 1, 1) := by decide +kernel
theorem dX2_toldOrZero_21 : decode cX2_toldOrZero 21 = .ok (.iaload, 1) := by decide +kernel
theorem dX2_toldOrZero_22 : decode cX2_toldOrZero 22 = .ok (.goto 4, 3) := by decide +kernel
theorem dX2_toldOrZero_25 : decode cX2_toldOrZero 25 = .ok (.iconst 0, 1) := by decide +kernel
theorem dX2_toldOrZero_26 : decode cX2_toldOrZero 26 = .ok (.ireturn, 1) := by decide +kernel
set_option maxRecDepth 20000 in
theorem ggX2_percentFor_X7_isWithin : GoodIn wsX2_percentFor wsX7_isWithin := goodIn_r _ [7] (by decide +kernel) (by decide +kernel)
set_option maxRecDepth 20000 in
theorem gX2_percentFor_X7_isWithin_n49 : GoodIn wsX2_percentFor (wsX7_isWithin) := ggX2_percentFor_X7_isWithin
theorem dX2_percentFor_0 : decode cX2_percentFor 0 = .ok (.iconst 0, 1) := by decide +kernel
theorem dX2_percentFor_1 : decode cX2_percentFor 1 = .ok (.istore_n 3, 1) := by decide +kernel
theorem dX2_percentFor_2 : decode cX2_percentFor 2 = .ok (.iconst 0, 1) := by decide +kernel
theorem dX2_percentFor_3 : decode cX2_percentFor 3 = .ok (.istore 4, 2) := by decide +kernel
theorem dX2_percentFor_5 : decode cX2_percentFor 5 = .ok (.iconst 0, 1) := by decide +kernel
theorem dX2_percentFor_6 : decode cX2_percentFor 6 = .ok (.istore 5, 2) := by decide +kernel
theorem dX2_percentFor_8 : decode cX2_percentFor 8 = .ok (.iload 5, 2) := by decide +kernel
theorem dX2_percentFor_10 : decode cX2_percentFor 10 = .ok (.aload_n 0, 1) := by decide +kernel
theorem dX2_percentFor_11 : decode cX2_percentFor 11 = .ok (.getfield 30, 3) := by decide +kernel
theorem dX2_percentFor_14 : decode cX2_percentFor 14 = .ok (.if_icmp .ge 52, 3) := by decide +kernel
theorem dX2_percentFor_17 : decode cX2_percentFor 17 = .ok (.aload_n 0, 1) := by decide +kernel
theorem dX2_percentFor_18 : decode cX2_percentFor 18 = .ok (.getfield 21, 3) := by decide +kernel
theorem dX2_percentFor_21 : decode cX2_percentFor 21 = .ok (.iload 5, 2) := by decide +kernel
theorem dX2_percentFor_23 : decode cX2_percentFor 23 = .ok (.iaload, 1) := by decide +kernel
theorem dX2_percentFor_24 : decode cX2_percentFor 24 = .ok (.iload_n 1, 1) := by decide +kernel
theorem dX2_percentFor_25 : decode cX2_percentFor 25 = .ok (.if_icmp .ne 35, 3) := by decide +kernel
theorem dX2_percentFor_28 : decode cX2_percentFor 28 = .ok (.aload_n 0, 1) := by decide +kernel
theorem dX2_percentFor_29 : decode cX2_percentFor 29 = .ok (.getfield 24, 3) := by decide +kernel
theorem dX2_percentFor_32 : decode cX2_percentFor 32 = .ok (.iload 5, 2) := by decide +kernel
theorem dX2_percentFor_34 : decode cX2_percentFor 34 = .ok (.iaload, 1) := by decide +kernel
theorem dX2_percentFor_35 : decode cX2_percentFor 35 = .ok (.iload_n 3, 1) := by decide +kernel
theorem dX2_percentFor_36 : decode cX2_percentFor 36 = .ok (.iload_n 2, 1) := by decide +kernel
theorem dX2_percentFor_37 : decode cX2_percentFor 37 = .ok (.invokestatic 49, 3) := by decide +kernel
theorem dX2_percentFor_40 : decode cX2_percentFor 40 = .ok (.ifCond .eq 20, 3) := by decide +kernel
theorem dX2_percentFor_43 : decode cX2_percentFor 43 = .ok (.aload_n 0, 1) := by decide +kernel
theorem dX2_percentFor_44 : decode cX2_percentFor 44 = .ok (.getfield 24, 3) := by decide +kernel
theorem dX2_percentFor_47 : decode cX2_percentFor 47 = .ok (.iload 5, 2) := by decide +kernel
theorem dX2_percentFor_49 : decode cX2_percentFor 49 = .ok (.iaload, 1) := by decide +kernel
theorem dX2_percentFor_50 : decode cX2_percentFor 50 = .ok (.istore_n 3, 1) := by decide +kernel
theorem dX2_percentFor_51 : decode cX2_percentFor 51 = .ok (.aload_n 0, 1) := by decide +kernel
theorem dX2_percentFor_52 : decode cX2_percentFor 52 = .ok (.getfield 27, 3) := by decide +kernel
theorem dX2_percentFor_55 : decode cX2_percentFor 55 = .ok (.iload 5, 2) := by decide +kernel
theorem dX2_percentFor_57 : decode cX2_percentFor 57 = .ok (.iaload, 1) := by decide +kernel
theorem dX2_percentFor_58 : decode cX2_percentFor 58 = .ok (.istore 4, 2) := by decide +kernel
theorem dX2_percentFor_60 : decode cX2_percentFor 60 = .ok (.iinc 5 1, 3) := by decide +kernel
theorem dX2_percentFor_63 : decode cX2_percentFor 63 = .ok (.goto (-55), 3) := by decide +kernel
theorem dX2_percentFor_66 : decode cX2_percentFor 66 = .ok (.iload 4, 2) := by decide +kernel
theorem dX2_percentFor_68 : decode cX2_percentFor 68 = .ok (.ireturn, 1) := by decide +kernel
theorem dX3_init_0 : decode cX3_init 0 = .ok (.aload_n 0, 1) := by decide +kernel
theorem dX3_init_1 : decode cX3_init 1 = .ok (.invokespecial 1, 3) := by decide +kernel
theorem dX3_init_4 : decode cX3_init 4 = .ok (.aload_n 0, 1) := by decide +kernel
theorem dX3_init_5 : decode cX3_init 5 = .ok (.iload_n 1, 1) := by decide +kernel
theorem dX3_init_6 : decode cX3_init 6 = .ok (.putfield 7, 3) := by decide +kernel
theorem dX3_init_9 : decode cX3_init 9 = .ok (.aload_n 0, 1) := by decide +kernel
theorem dX3_init_10 : decode cX3_init 10 = .ok (.iload_n 2, 1) := by decide +kernel
theorem dX3_init_11 : decode cX3_init 11 = .ok (.putfield 13, 3) := by decide +kernel
theorem dX3_init_14 : decode cX3_init 14 = .ok (.aload_n 0, 1) := by decide +kernel
theorem dX3_init_15 : decode cX3_init 15 = .ok (.iload_n 3, 1) := by decide +kernel
theorem dX3_init_16 : decode cX3_init 16 = .ok (.putfield 16, 3) := by decide +kernel
theorem dX3_init_19 : decode cX3_init 19 = .ok (.aload_n 0, 1) := by decide +kernel
theorem dX3_init_20 : decode cX3_init 20 = .ok (.iload 4, 2) := by decide +kernel
theorem dX3_init_22 : decode cX3_init 22 = .ok (.putfield 19, 3) := by decide +kernel
theorem dX3_init_25 : decode cX3_init 25 = .ok (.return_, 1) := by decide +kernel
theorem dX4_init_0 : decode cX4_init 0 = .ok (.aload_n 0, 1) := by decide +kernel
theorem dX4_init_1 : decode cX4_init 1 = .ok (.invokespecial 3, 3) := by decide +kernel
theorem dX4_init_4 : decode cX4_init 4 = .ok (.aload_n 0, 1) := by decide +kernel
theorem dX4_init_5 : decode cX4_init 5 = .ok (.sipush 8192, 3) := by decide +kernel
theorem dX4_init_8 : decode cX4_init 8 = .ok (.newarray .char, 2) := by decide +kernel
theorem dX4_init_10 : decode cX4_init 10 = .ok (.putfield 9, 3) := by decide +kernel
theorem dX4_init_13 : decode cX4_init 13 = .ok (.aload_n 0, 1) := by decide +kernel
theorem dX4_init_14 : decode cX4_init 14 = .ok (.iconst 0, 1) := by decide +kernel
theorem dX4_init_15 : decode cX4_init 15 = .ok (.putfield 15, 3) := by decide +kernel
theorem dX4_init_18 : decode cX4_init 18 = .ok (.return_, 1) := by decide +kernel
theorem dX4_clear_0 : decode cX4_clear 0 = .ok (.aload_n 0, 1) := by decide +kernel
theorem dX4_clear_1 : decode cX4_clear 1 = .ok (.iconst 0, 1) := by decide +kernel
theorem dX4_clear_2 : decode cX4_clear 2 = .ok (.putfield 15, 3) := by decide +kernel
theorem dX4_clear_5 : decode cX4_clear 5 = .ok (.return_, 1) := by decide +kernel
set_option maxRecDepth 20000 in
theorem ggX4_write_X4_put : GoodIn wsX4_write wsX4_put := goodIn_r _ [5, 6, 7, 23, 24] (by decide +kernel) (by decide +kernel)
set_option maxRecDepth 20000 in
theorem gX4_write_X4_put : GoodIn wsX4_write (wsV RX4 25 RX4 yX4_put wsX4_put) := goodIn_app (goodIn_of _ (by decide +kernel)) ggX4_write_X4_put
set_option maxRecDepth 20000 in
theorem ggX4_write_X4_putNumber : GoodIn wsX4_write wsX4_putNumber := goodIn_r _ [11, 12, 13, 14, 15, 16, 17, 18, 1, 2, 3, 4, 5, 6, 7, 23, 24] (by decide +kernel) (by decide +kernel)
set_option maxRecDepth 20000 in
theorem gX4_write_X4_putNumber : GoodIn wsX4_write (wsV RX4 32 RX4 yX4_putNumber wsX4_putNumber) := goodIn_app (goodIn_of _ (by decide +kernel)) ggX4_write_X4_putNumber
theorem dX4_write_0 : decode cX4_write 0 = .ok (.aload_n 0, 1) := by decide +kernel
theorem dX4_write_1 : decode cX4_write 1 = .ok (.aload_n 1, 1) := by decide +kernel
theorem dX4_write_2 : decode cX4_write 2 = .ok (.getfield 19, 3) := by decide +kernel
theorem dX4_write_5 : decode cX4_write 5 = .ok (.ifCond .eq 8, 3) := by decide +kernel
theorem dX4_write_8 : decode cX4_write 8 = .ok (.bipush 67, 2) := by decide +kernel
theorem dX4_write_10 : decode cX4_write 10 = .ok (.goto 5, 3) := by decide +kernel
theorem dX4_write_13 : decode cX4_write 13 = .ok (.bipush 66, 2) := by decide +kernel
theorem dX4_write_15 : decode cX4_write 15 = .ok (.invokevirtual 25, 3) := by decide +kernel
theorem dX4_write_18 : decode cX4_write 18 = .ok (.aload_n 0, 1) := by decide +kernel
theorem dX4_write_19 : decode cX4_write 19 = .ok (.aload_n 1, 1) := by decide +kernel
theorem dX4_write_20 : decode cX4_write 20 = .ok (.getfield 29, 3) := by decide +kernel
theorem dX4_write_23 : decode cX4_write 23 = .ok (.invokevirtual 32, 3) := by decide +kernel
theorem dX4_write_26 : decode cX4_write 26 = .ok (.aload_n 0, 1) := by decide +kernel
theorem dX4_write_27 : decode cX4_write 27 = .ok (.aload_n 1, 1) := by decide +kernel
theorem dX4_write_28 : decode cX4_write 28 = .ok (.getfield 35, 3) := by decide +kernel
theorem dX4_write_31 : decode cX4_write 31 = .ok (.invokevirtual 32, 3) := by decide +kernel
theorem dX4_write_34 : decode cX4_write 34 = .ok (.aload_n 0, 1) := by decide +kernel
theorem dX4_write_35 : decode cX4_write 35 = .ok (.bipush 10, 2) := by decide +kernel
theorem dX4_write_37 : decode cX4_write 37 = .ok (.invokevirtual 25, 3) := by decide +kernel
theorem dX4_write_40 : decode cX4_write 40 = .ok (.return_, 1) := by decide +kernel
theorem dX4_put_0 : decode cX4_put 0 = .ok (.aload_n 0, 1) := by decide +kernel
theorem dX4_put_1 : decode cX4_put 1 = .ok (.getfield 15, 3) := by decide +kernel
theorem dX4_put_4 : decode cX4_put 4 = .ok (.aload_n 0, 1) := by decide +kernel
theorem dX4_put_5 : decode cX4_put 5 = .ok (.getfield 9, 3) := by decide +kernel
theorem dX4_put_8 : decode cX4_put 8 = .ok (.arraylength, 1) := by decide +kernel
theorem dX4_put_9 : decode cX4_put 9 = .ok (.if_icmp .ge 24, 3) := by decide +kernel
theorem dX4_put_12 : decode cX4_put 12 = .ok (.aload_n 0, 1) := by decide +kernel
theorem dX4_put_13 : decode cX4_put 13 = .ok (.getfield 9, 3) := by decide +kernel
theorem dX4_put_16 : decode cX4_put 16 = .ok (.aload_n 0, 1) := by decide +kernel
theorem dX4_put_17 : decode cX4_put 17 = .ok (.getfield 15, 3) := by decide +kernel
theorem dX4_put_20 : decode cX4_put 20 = .ok (.iload_n 1, 1) := by decide +kernel
theorem dX4_put_21 : decode cX4_put 21 = .ok (.i2c, 1) := by decide +kernel
theorem dX4_put_22 : decode cX4_put 22 = .ok (.castore, 1) := by decide +kernel
theorem dX4_put_23 : decode cX4_put 23 = .ok (.aload_n 0, 1) := by decide +kernel
theorem dX4_put_24 : decode cX4_put 24 = .ok (.dup, 1) := by decide +kernel
theorem dX4_put_25 : decode cX4_put 25 = .ok (.getfield 15, 3) := by decide +kernel
theorem dX4_put_28 : decode cX4_put 28 = .ok (.iconst 1, 1) := by decide +kernel
theorem dX4_put_29 : decode cX4_put 29 = .ok (.iadd, 1) := by decide +kernel
theorem dX4_put_30 : decode cX4_put 30 = .ok (.putfield 15, 3) := by decide +kernel
theorem dX4_put_33 : decode cX4_put 33 = .ok (.return_, 1) := by decide +kernel
set_option maxRecDepth 20000 in
theorem ggX4_putNumber_X4_put : GoodIn wsX4_putNumber wsX4_put := goodIn_r _ [12, 13, 14, 15, 16] (by decide +kernel) (by decide +kernel)
set_option maxRecDepth 20000 in
theorem gX4_putNumber_X4_put : GoodIn wsX4_putNumber (wsV RX4 25 RX4 yX4_put wsX4_put) := goodIn_app (goodIn_of _ (by decide +kernel)) ggX4_putNumber_X4_put
theorem dX4_putNumber_0 : decode cX4_putNumber 0 = .ok (.aload_n 0, 1) := by decide +kernel
theorem dX4_putNumber_1 : decode cX4_putNumber 1 = .ok (.bipush 32, 2) := by decide +kernel
theorem dX4_putNumber_3 : decode cX4_putNumber 3 = .ok (.invokevirtual 25, 3) := by decide +kernel
theorem dX4_putNumber_6 : decode cX4_putNumber 6 = .ok (.iload_n 1, 1) := by decide +kernel
theorem dX4_putNumber_7 : decode cX4_putNumber 7 = .ok (.ifCond .ge 9, 3) := by decide +kernel
theorem dX4_putNumber_10 : decode cX4_putNumber 10 = .ok (.aload_n 0, 1) := by decide +kernel
theorem dX4_putNumber_11 : decode cX4_putNumber 11 = .ok (.bipush 45, 2) := by decide +kernel
theorem dX4_putNumber_13 : decode cX4_putNumber 13 = .ok (.invokevirtual 25, 3) := by decide +kernel
theorem dX4_putNumber_16 : decode cX4_putNumber 16 = .ok (.iload_n 1, 1) := by decide +kernel
theorem dX4_putNumber_17 : decode cX4_putNumber 17 = .ok (.i2l, 1) := by decide +kernel
theorem dX4_putNumber_18 : decode cX4_putNumber 18 = .ok (.invokestatic 38, 3) := by decide +kernel
theorem dX4_putNumber_21 : decode cX4_putNumber 21 = .ok (.lstore_n 2, 1) := by decide +kernel
theorem dX4_putNumber_22 : decode cX4_putNumber 22 = .ok (.ldc2_w 44, 3) := by decide +kernel
theorem dX4_putNumber_25 : decode cX4_putNumber 25 = .ok (.lstore 4, 2) := by decide +kernel
theorem dX4_putNumber_27 : decode cX4_putNumber 27 = .ok (.lload 4, 2) := by decide +kernel
theorem dX4_putNumber_29 : decode cX4_putNumber 29 = .ok (.lconst 0, 1) := by decide +kernel
theorem dX4_putNumber_30 : decode cX4_putNumber 30 = .ok (.lcmp, 1) := by decide +kernel
theorem dX4_putNumber_31 : decode cX4_putNumber 31 = .ok (.ifCond .le 45, 3) := by decide +kernel
theorem dX4_putNumber_34 : decode cX4_putNumber 34 = .ok (.lload_n 2, 1) := by decide +kernel
theorem dX4_putNumber_35 : decode cX4_putNumber 35 = .ok (.lload 4, 2) := by decide +kernel
theorem dX4_putNumber_37 : decode cX4_putNumber 37 = .ok (.lcmp, 1) := by decide +kernel
theorem dX4_putNumber_38 : decode cX4_putNumber 38 = .ok (.ifCond .ge 10, 3) := by decide +kernel
theorem dX4_putNumber_41 : decode cX4_putNumber 41 = .ok (.lload 4, 2) := by decide +kernel
theorem dX4_putNumber_43 : decode cX4_putNumber 43 = .ok (.lconst 1, 1) := by decide +kernel
theorem dX4_putNumber_44 : decode cX4_putNumber 44 = .ok (.lcmp, 1) := by decide +kernel
theorem dX4_putNumber_45 : decode cX4_putNumber 45 = .ok (.ifCond .ne 20, 3) := by decide +kernel
theorem dX4_putNumber_48 : decode cX4_putNumber 48 = .ok (.aload_n 0, 1) := by decide +kernel
theorem dX4_putNumber_49 : decode cX4_putNumber 49 = .ok (.ldc2_w 46, 3) := by decide +kernel
theorem dX4_putNumber_52 : decode cX4_putNumber 52 = .ok (.lload_n 2, 1) := by decide +kernel
theorem dX4_putNumber_53 : decode cX4_putNumber 53 = .ok (.lload 4, 2) := by decide +kernel
theorem dX4_putNumber_55 : decode cX4_putNumber 55 = .ok (.ldiv, 1) := by decide +kernel
theorem dX4_putNumber_56 : decode cX4_putNumber 56 = .ok (.ldc2_w 48, 3) := by decide +kernel
theorem dX4_putNumber_59 : decode cX4_putNumber 59 = .ok (.lrem, 1) := by decide +kernel
theorem dX4_putNumber_60 : decode cX4_putNumber 60 = .ok (.ladd, 1) := by decide +kernel
theorem dX4_putNumber_61 : decode cX4_putNumber 61 = .ok (.l2i, 1) := by decide +kernel
theorem dX4_putNumber_62 : decode cX4_putNumber 62 = .ok (.invokevirtual 25, 3) := by decide +kernel
theorem dX4_putNumber_65 : decode cX4_putNumber 65 = .ok (.lload 4, 2) := by decide +kernel
theorem dX4_putNumber_67 : decode cX4_putNumber 67 = .ok (.ldc2_w 48, 3) := by decide +kernel
theorem dX4_putNumber_70 : decode cX4_putNumber 70 = .ok (.ldiv, 1) := by decide +kernel
theorem dX4_putNumber_71 : decode cX4_putNumber 71 = .ok (.lstore 4, 2) := by decide +kernel
theorem dX4_putNumber_73 : decode cX4_putNumber 73 = .ok (.goto (-46), 3) := by decide +kernel
theorem dX4_putNumber_76 : decode cX4_putNumber 76 = .ok (.return_, 1) := by decide +kernel
theorem dX5_init_0 : decode cX5_init 0 = .ok (.aload_n 0, 1) := by decide +kernel
theorem dX5_init_1 : decode cX5_init 1 = .ok (.invokespecial 3, 3) := by decide +kernel
theorem dX5_init_4 : decode cX5_init 4 = .ok (.aload_n 0, 1) := by decide +kernel
theorem dX5_init_5 : decode cX5_init 5 = .ok (.sipush 400, 3) := by decide +kernel
theorem dX5_init_8 : decode cX5_init 8 = .ok (.newarray .char, 2) := by decide +kernel
theorem dX5_init_10 : decode cX5_init 10 = .ok (.putfield 9, 3) := by decide +kernel
theorem dX5_init_13 : decode cX5_init 13 = .ok (.aload_n 0, 1) := by decide +kernel
theorem dX5_init_14 : decode cX5_init 14 = .ok (.iconst 0, 1) := by decide +kernel
theorem dX5_init_15 : decode cX5_init 15 = .ok (.putfield 15, 3) := by decide +kernel
theorem dX5_init_18 : decode cX5_init 18 = .ok (.aload_n 0, 1) := by decide +kernel
theorem dX5_init_19 : decode cX5_init 19 = .ok (.iconst 0, 1) := by decide +kernel
theorem dX5_init_20 : decode cX5_init 20 = .ok (.putfield 19, 3) := by decide +kernel
theorem dX5_init_23 : decode cX5_init 23 = .ok (.return_, 1) := by decide +kernel
theorem dX5_isFull_0 : decode cX5_isFull 0 = .ok (.aload_n 0, 1) := by decide +kernel
theorem dX5_isFull_1 : decode cX5_isFull 1 = .ok (.getfield 15, 3) := by decide +kernel
theorem dX5_isFull_4 : decode cX5_isFull 4 = .ok (.aload_n 0, 1) := by decide +kernel
theorem dX5_isFull_5 : decode cX5_isFull 5 = .ok (.getfield 9, 3) := by decide +kernel
theorem dX5_isFull_8 : decode cX5_isFull 8 = .ok (.arraylength, 1) := by decide +kernel
theorem dX5_isFull_9 : decode cX5_isFull 9 = .ok (.if_icmp .lt 7, 3) := by decide +kernel
theorem dX5_isFull_12 : decode cX5_isFull 12 = .ok (.iconst 1, 1) := by decide +kernel
theorem dX5_isFull_13 : decode cX5_isFull 13 = .ok (.goto 4, 3) := by decide +kernel
theorem dX5_isFull_16 : decode cX5_isFull 16 = .ok (.iconst 0, 1) := by decide +kernel
theorem dX5_isFull_17 : decode cX5_isFull 17 = .ok (.ireturn, 1) := by decide +kernel
set_option maxRecDepth 20000 in
theorem ggX5_add_X5_isFull : GoodIn wsX5_add wsX5_isFull := goodIn_r _ [7, 2, 1, 8, 9, 10] (by decide +kernel) (by decide +kernel)
set_option maxRecDepth 20000 in
theorem gX5_add_X5_isFull : GoodIn wsX5_add (wsV RX5 22 RX5 yX5_isFull wsX5_isFull) := goodIn_app (goodIn_of _ (by decide +kernel)) ggX5_add_X5_isFull
theorem dX5_add_0 : decode cX5_add 0 = .ok (.aload_n 0, 1) := by decide +kernel
theorem dX5_add_1 : decode cX5_add 1 = .ok (.invokevirtual 22, 3) := by decide +kernel
theorem dX5_add_4 : decode cX5_add 4 = .ok (.ifCond .ne 24, 3) := by decide +kernel
theorem dX5_add_7 : decode cX5_add 7 = .ok (.aload_n 0, 1) := by decide +kernel
theorem dX5_add_8 : decode cX5_add 8 = .ok (.getfield 9, 3) := by decide +kernel
theorem dX5_add_11 : decode cX5_add 11 = .ok (.aload_n 0, 1) := by decide +kernel
theorem dX5_add_12 : decode cX5_add 12 = .ok (.getfield 15, 3) := by decide +kernel
theorem dX5_add_15 : decode cX5_add 15 = .ok (.iload_n 1, 1) := by decide +kernel
theorem dX5_add_16 : decode cX5_add 16 = .ok (.i2c, 1) := by decide +kernel
theorem dX5_add_17 : decode cX5_add 17 = .ok (.castore, 1) := by decide +kernel
theorem dX5_add_18 : decode cX5_add 18 = .ok (.aload_n 0, 1) := by decide +kernel
theorem dX5_add_19 : decode cX5_add 19 = .ok (.dup, 1) := by decide +kernel
theorem dX5_add_20 : decode cX5_add 20 = .ok (.getfield 15, 3) := by decide +kernel
theorem dX5_add_23 : decode cX5_add 23 = .ok (.iconst 1, 1) := by decide +kernel
theorem dX5_add_24 : decode cX5_add 24 = .ok (.iadd, 1) := by decide +kernel
theorem dX5_add_25 : decode cX5_add 25 = .ok (.putfield 15, 3) := by decide +kernel
theorem dX5_add_28 : decode cX5_add 28 = .ok (.return_, 1) := by decide +kernel
theorem dX5_clear_0 : decode cX5_clear 0 = .ok (.aload_n 0, 1) := by decide +kernel
theorem dX5_clear_1 : decode cX5_clear 1 = .ok (.iconst 0, 1) := by decide +kernel
theorem dX5_clear_2 : decode cX5_clear 2 = .ok (.putfield 15, 3) := by decide +kernel
theorem dX5_clear_5 : decode cX5_clear 5 = .ok (.aload_n 0, 1) := by decide +kernel
theorem dX5_clear_6 : decode cX5_clear 6 = .ok (.iconst 0, 1) := by decide +kernel
theorem dX5_clear_7 : decode cX5_clear 7 = .ok (.putfield 19, 3) := by decide +kernel
theorem dX5_clear_10 : decode cX5_clear 10 = .ok (.return_, 1) := by decide +kernel
theorem dX5_isRead_0 : decode cX5_isRead 0 = .ok (.aload_n 0, 1) := by decide +kernel
theorem dX5_isRead_1 : decode cX5_isRead 1 = .ok (.getfield 19, 3) := by decide +kernel
theorem dX5_isRead_4 : decode cX5_isRead 4 = .ok (.aload_n 0, 1) := by decide +kernel
theorem dX5_isRead_5 : decode cX5_isRead 5 = .ok (.getfield 15, 3) := by decide +kernel
theorem dX5_isRead_8 : decode cX5_isRead 8 = .ok (.if_icmp .lt 7, 3) := by decide +kernel
theorem dX5_isRead_11 : decode cX5_isRead 11 = .ok (.iconst 1, 1) := by decide +kernel
theorem dX5_isRead_12 : decode cX5_isRead 12 = .ok (.goto 4, 3) := by decide +kernel
theorem dX5_isRead_15 : decode cX5_isRead 15 = .ok (.iconst 0, 1) := by decide +kernel
theorem dX5_isRead_16 : decode cX5_isRead 16 = .ok (.ireturn, 1) := by decide +kernel
set_option maxRecDepth 20000 in
theorem ggX5_nextSign_X7_isWithin : GoodIn wsX5_nextSign wsX7_isWithin := goodIn_r _ [6] (by decide +kernel) (by decide +kernel)
set_option maxRecDepth 20000 in
theorem gX5_nextSign_X7_isWithin_n26 : GoodIn wsX5_nextSign (wsX7_isWithin) := ggX5_nextSign_X7_isWithin
theorem dX5_nextSign_0 : decode cX5_nextSign 0 = .ok (.aload_n 0, 1) := by decide +kernel
theorem dX5_nextSign_1 : decode cX5_nextSign 1 = .ok (.getfield 19, 3) := by decide +kernel
theorem dX5_nextSign_4 : decode cX5_nextSign 4 = .ok (.iconst 0, 1) := by decide +kernel
theorem dX5_nextSign_5 : decode cX5_nextSign 5 = .ok (.aload_n 0, 1) := by decide +kernel
theorem dX5_nextSign_6 : decode cX5_nextSign 6 = .ok (.getfield 15, 3) := by decide +kernel
theorem dX5_nextSign_9 : decode cX5_nextSign 9 = .ok (.iconst 1, 1) := by decide +kernel
theorem dX5_nextSign_10 : decode cX5_nextSign 10 = .ok (.isub, 1) := by decide +kernel
theorem dX5_nextSign_11 : decode cX5_nextSign 11 = .ok (.invokestatic 26, 3) := by decide +kernel
theorem dX5_nextSign_14 : decode cX5_nextSign 14 = .ok (.ifCond .eq 15, 3) := by decide +kernel
theorem dX5_nextSign_17 : decode cX5_nextSign 17 = .ok (.aload_n 0, 1) := by decide +kernel
theorem dX5_nextSign_18 : decode cX5_nextSign 18 = .ok (.getfield 9, 3) := by decide +kernel
theorem dX5_nextSign_21 : decode cX5_nextSign 21 = .ok (.aload_n 0, 1) := by decide +kernel
theorem dX5_nextSign_22 : decode cX5_nextSign 22 = .ok (.getfield 19, 3) := by decide +kernel
theorem dX5_nextSign_25 : decode cX5_nextSign 25 = .ok (.caload, 1) := by decide +kernel
theorem dX5_nextSign_26 : decode cX5_nextSign 26 = .ok (.goto 4, 3) := by decide +kernel
theorem dX5_nextSign_29 : decode cX5_nextSign 29 = .ok (.iconst (-1), 1) := by decide +kernel
theorem dX5_nextSign_30 : decode cX5_nextSign 30 = .ok (.ireturn, 1) := by decide +kernel
set_option maxRecDepth 20000 in
theorem ggX5_takeSign_X5_nextSign : GoodIn wsX5_takeSign wsX5_nextSign := goodIn_r _ [6, 1, 7, 8, 9, 10, 11, 12, 13, 14] (by decide +kernel) (by decide +kernel)
set_option maxRecDepth 20000 in
theorem gX5_takeSign_X5_nextSign : GoodIn wsX5_takeSign (wsV RX5 30 RX5 yX5_nextSign wsX5_nextSign) := goodIn_app (goodIn_of _ (by decide +kernel)) ggX5_takeSign_X5_nextSign
theorem dX5_takeSign_0 : decode cX5_takeSign 0 = .ok (.aload_n 0, 1) := by decide +kernel
theorem dX5_takeSign_1 : decode cX5_takeSign 1 = .ok (.invokevirtual 30, 3) := by decide +kernel
theorem dX5_takeSign_4 : decode cX5_takeSign 4 = .ok (.istore_n 1, 1) := by decide +kernel
theorem dX5_takeSign_5 : decode cX5_takeSign 5 = .ok (.iload_n 1, 1) := by decide +kernel
theorem dX5_takeSign_6 : decode cX5_takeSign 6 = .ok (.iconst (-1), 1) := by decide +kernel
theorem dX5_takeSign_7 : decode cX5_takeSign 7 = .ok (.if_icmp .eq 13, 3) := by decide +kernel
theorem dX5_takeSign_10 : decode cX5_takeSign 10 = .ok (.aload_n 0, 1) := by decide +kernel
theorem dX5_takeSign_11 : decode cX5_takeSign 11 = .ok (.dup, 1) := by decide +kernel
theorem dX5_takeSign_12 : decode cX5_takeSign 12 = .ok (.getfield 19, 3) := by decide +kernel
theorem dX5_takeSign_15 : decode cX5_takeSign 15 = .ok (.iconst 1, 1) := by decide +kernel
theorem dX5_takeSign_16 : decode cX5_takeSign 16 = .ok (.iadd, 1) := by decide +kernel
theorem dX5_takeSign_17 : decode cX5_takeSign 17 = .ok (.putfield 19, 3) := by decide +kernel
theorem dX5_takeSign_20 : decode cX5_takeSign 20 = .ok (.iload_n 1, 1) := by decide +kernel
theorem dX5_takeSign_21 : decode cX5_takeSign 21 = .ok (.ireturn, 1) := by decide +kernel
set_option maxRecDepth 20000 in
theorem ggX5_takeNumber_X5_nextSign : GoodIn wsX5_takeNumber wsX5_nextSign := goodIn_r _ [6, 1, 7, 8, 9, 10, 11, 16, 17, 18] (by decide +kernel) (by decide +kernel)
set_option maxRecDepth 20000 in
theorem gX5_takeNumber_X5_nextSign : GoodIn wsX5_takeNumber (wsV RX5 30 RX5 yX5_nextSign wsX5_nextSign) := goodIn_app (goodIn_of _ (by decide +kernel)) ggX5_takeNumber_X5_nextSign
set_option maxRecDepth 20000 in
theorem ggX5_takeNumber_X7_isWithin : GoodIn wsX5_takeNumber wsX7_isWithin := goodIn_r _ [11] (by decide +kernel) (by decide +kernel)
set_option maxRecDepth 20000 in
theorem gX5_takeNumber_X7_isWithin_n26 : GoodIn wsX5_takeNumber (wsX7_isWithin) := ggX5_takeNumber_X7_isWithin
set_option maxRecDepth 20000 in
theorem ggX5_takeNumber_X5_takeSign : GoodIn wsX5_takeNumber wsX5_takeSign := goodIn_r _ [15, 1, 2, 3, 4, 5, 6, 7, 8, 9, 10, 11, 16, 17, 18] (by decide +kernel) (by decide +kernel)
set_option maxRecDepth 20000 in
theorem gX5_takeNumber_X5_takeSign : GoodIn wsX5_takeNumber (wsV RX5 34 RX5 yX5_takeSign wsX5_takeSign) := goodIn_app (goodIn_of _ (by decide +kernel)) ggX5_takeNumber_X5_takeSign
theorem dX5_takeNumber_0 : decode cX5_takeNumber 0 = .ok (.aload_n 0, 1) := by decide +kernel
theorem dX5_takeNumber_1 : decode cX5_takeNumber 1 = .ok (.invokevirtual 30, 3) := by decide +kernel
theorem dX5_takeNumber_4 : decode cX5_takeNumber 4 = .ok (.bipush 32, 2) := by decide +kernel
theorem dX5_takeNumber_6 : decode cX5_takeNumber 6 = .ok (.if_icmp .eq 5, 3) := by decide +kernel
theorem dX5_takeNumber_9 : decode cX5_takeNumber 9 = .ok (.iconst (-1), 1) := by decide +kernel
theorem dX5_takeNumber_10 : decode cX5_takeNumber 10 = .ok (.ireturn, 1) := by decide +kernel
theorem dX5_takeNumber_11 : decode cX5_takeNumber 11 = .ok (.aload_n 0, 1) := by decide +kernel
theorem dX5_takeNumber_12 : decode cX5_takeNumber 12 = .ok (.dup, 1) := by decide +kernel
theorem dX5_takeNumber_13 : decode cX5_takeNumber 13 = .ok (.getfield 19, 3) := by decide +kernel
theorem dX5_takeNumber_16 : decode cX5_takeNumber 16 = .ok (.iconst 1, 1) := by decide +kernel
theorem dX5_takeNumber_17 : decode cX5_takeNumber 17 = .ok (.iadd, 1) := by decide +kernel
theorem dX5_takeNumber_18 : decode cX5_takeNumber 18 = .ok (.putfield 19, 3) := by decide +kernel
theorem dX5_takeNumber_21 : decode cX5_takeNumber 21 = .ok (.aload_n 0, 1) := by decide +kernel
theorem dX5_takeNumber_22 : decode cX5_takeNumber 22 = .ok (.invokevirtual 30, 3) := by decide +kernel
theorem dX5_takeNumber_25 : decode cX5_takeNumber 25 = .ok (.bipush 48, 2) := by decide +kernel
theorem dX5_takeNumber_27 : decode cX5_takeNumber 27 = .ok (.if_icmp .ne 7, 3) := by decide +kernel
theorem dX5_takeNumber_30 : decode cX5_takeNumber 30 = .ok (.iconst 1, 1) := by decide +kernel
theorem dX5_takeNumber_31 : decode cX5_takeNumber 31 = .ok (.goto 4, 3) := by decide +kernel
theorem dX5_takeNumber_34 : decode cX5_takeNumber 34 = .ok (.iconst 0, 1) := by decide +kernel
theorem dX5_takeNumber_35 : decode cX5_takeNumber 35 = .ok (.istore_n 1, 1) := by decide +kernel
theorem dX5_takeNumber_36 : decode cX5_takeNumber 36 = .ok (.iconst 0, 1) := by decide +kernel
theorem dX5_takeNumber_37 : decode cX5_takeNumber 37 = .ok (.istore_n 2, 1) := by decide +kernel
theorem dX5_takeNumber_38 : decode cX5_takeNumber 38 = .ok (.iconst 0, 1) := by decide +kernel
theorem dX5_takeNumber_39 : decode cX5_takeNumber 39 = .ok (.istore_n 3, 1) := by decide +kernel
theorem dX5_takeNumber_40 : decode cX5_takeNumber 40 = .ok (.iload_n 2, 1) := by decide +kernel
theorem dX5_takeNumber_41 : decode cX5_takeNumber 41 = .ok (.bipush 6, 2) := by decide +kernel
theorem dX5_takeNumber_43 : decode cX5_takeNumber 43 = .ok (.if_icmp .ge 36, 3) := by decide +kernel
theorem dX5_takeNumber_46 : decode cX5_takeNumber 46 = .ok (.aload_n 0, 1) := by decide +kernel
theorem dX5_takeNumber_47 : decode cX5_takeNumber 47 = .ok (.invokevirtual 30, 3) := by decide +kernel
theorem dX5_takeNumber_50 : decode cX5_takeNumber 50 = .ok (.bipush 48, 2) := by decide +kernel
theorem dX5_takeNumber_52 : decode cX5_takeNumber 52 = .ok (.bipush 57, 2) := by decide +kernel
theorem dX5_takeNumber_54 : decode cX5_takeNumber 54 = .ok (.invokestatic 26, 3) := by decide +kernel
theorem dX5_takeNumber_57 : decode cX5_takeNumber 57 = .ok (.ifCond .eq 22, 3) := by decide +kernel
theorem dX5_takeNumber_60 : decode cX5_takeNumber 60 = .ok (.bipush 10, 2) := by decide +kernel
theorem dX5_takeNumber_62 : decode cX5_takeNumber 62 = .ok (.iload_n 3, 1) := by decide +kernel
theorem dX5_takeNumber_63 : decode cX5_takeNumber 63 = .ok (.imul, 1) := by decide +kernel
theorem dX5_takeNumber_64 : decode cX5_takeNumber 64 = .ok (.aload_n 0, 1) := by decide +kernel
theorem dX5_takeNumber_65 : decode cX5_takeNumber 65 = .ok (.invokevirtual 34, 3) := by decide +kernel
theorem dX5_takeNumber_68 : decode cX5_takeNumber 68 = .ok (.iadd, 1) := by decide +kernel
theorem dX5_takeNumber_69 : decode cX5_takeNumber 69 = .ok (.bipush 48, 2) := by decide +kernel
theorem dX5_takeNumber_71 : decode cX5_takeNumber 71 = .ok (.isub, 1) := by decide +kernel
theorem dX5_takeNumber_72 : decode cX5_takeNumber 72 = .ok (.istore_n 3, 1) := by decide +kernel
theorem dX5_takeNumber_73 : decode cX5_takeNumber 73 = .ok (.iinc 2 1, 3) := by decide +kernel
theorem dX5_takeNumber_76 : decode cX5_takeNumber 76 = .ok (.goto (-36), 3) := by decide +kernel
theorem dX5_takeNumber_79 : decode cX5_takeNumber 79 = .ok (.iload_n 2, 1) := by decide +kernel
theorem dX5_takeNumber_80 : decode cX5_takeNumber 80 = .ok (.iconst 1, 1) := by decide +kernel
theorem dX5_takeNumber_81 : decode cX5_takeNumber 81 = .ok (.if_icmp .eq 12, 3) := by decide +kernel
theorem dX5_takeNumber_84 : decode cX5_takeNumber 84 = .ok (.iload_n 2, 1) := by decide +kernel
theorem dX5_takeNumber_85 : decode cX5_takeNumber 85 = .ok (.iconst 1, 1) := by decide +kernel
theorem dX5_takeNumber_86 : decode cX5_takeNumber 86 = .ok (.if_icmp .le 11, 3) := by decide +kernel
theorem dX5_takeNumber_89 : decode cX5_takeNumber 89 = .ok (.iload_n 1, 1) := by decide +kernel
theorem dX5_takeNumber_90 : decode cX5_takeNumber 90 = .ok (.ifCond .ne 7, 3) := by decide +kernel
theorem dX5_takeNumber_93 : decode cX5_takeNumber 93 = .ok (.iconst 1, 1) := by decide +kernel
theorem dX5_takeNumber_94 : decode cX5_takeNumber 94 = .ok (.goto 4, 3) := by decide +kernel
theorem dX5_takeNumber_97 : decode cX5_takeNumber 97 = .ok (.iconst 0, 1) := by decide +kernel
theorem dX5_takeNumber_98 : decode cX5_takeNumber 98 = .ok (.istore 4, 2) := by decide +kernel
theorem dX5_takeNumber_100 : decode cX5_takeNumber 100 = .ok (.iload 4, 2) := by decide +kernel
theorem dX5_takeNumber_102 : decode cX5_takeNumber 102 = .ok (.ifCond .eq 7, 3) := by decide +kernel
theorem dX5_takeNumber_105 : decode cX5_takeNumber 105 = .ok (.iload_n 3, 1) := by decide +kernel
theorem dX5_takeNumber_106 : decode cX5_takeNumber 106 = .ok (.goto 4, 3) := by decide +kernel
theorem dX5_takeNumber_109 : decode cX5_takeNumber 109 = .ok (.iconst (-1), 1) := by decide +kernel
theorem dX5_takeNumber_110 : decode cX5_takeNumber 110 = .ok (.ireturn, 1) := by decide +kernel
theorem dX6_init_0 : decode cX6_init 0 = .ok (.aload_n 0, 1) := by decide +kernel
theorem dX6_init_1 : decode cX6_init 1 = .ok (.invokespecial 3, 3) := by decide +kernel
theorem dX6_init_4 : decode cX6_init 4 = .ok (.aload_n 0, 1) := by decide +kernel
theorem dX6_init_5 : decode cX6_init 5 = .ok (.sipush 3599, 3) := by decide +kernel
theorem dX6_init_8 : decode cX6_init 8 = .ok (.putfield 9, 3) := by decide +kernel
theorem dX6_init_11 : decode cX6_init 11 = .ok (.aload_n 0, 1) := by decide +kernel
theorem dX6_init_12 : decode cX6_init 12 = .ok (.iconst 0, 1) := by decide +kernel
theorem dX6_init_13 : decode cX6_init 13 = .ok (.putfield 15, 3) := by decide +kernel
theorem dX6_init_16 : decode cX6_init 16 = .ok (.aload_n 0, 1) := by decide +kernel
theorem dX6_init_17 : decode cX6_init 17 = .ok (.bipush 9, 2) := by decide +kernel
theorem dX6_init_19 : decode cX6_init 19 = .ok (.newarray .int, 2) := by decide +kernel
theorem dX6_init_21 : decode cX6_init 21 = .ok (.putfield 19, 3) := by decide +kernel
theorem dX6_init_24 : decode cX6_init 24 = .ok (.aload_n 0, 1) := by decide +kernel
theorem dX6_init_25 : decode cX6_init 25 = .ok (.bipush 9, 2) := by decide +kernel
theorem dX6_init_27 : decode cX6_init 27 = .ok (.newarray .int, 2) := by decide +kernel
theorem dX6_init_29 : decode cX6_init 29 = .ok (.putfield 23, 3) := by decide +kernel
theorem dX6_init_32 : decode cX6_init 32 = .ok (.aload_n 0, 1) := by decide +kernel
theorem dX6_init_33 : decode cX6_init 33 = .ok (.iconst 1, 1) := by decide +kernel
theorem dX6_init_34 : decode cX6_init 34 = .ok (.putfield 26, 3) := by decide +kernel
theorem dX6_init_37 : decode cX6_init 37 = .ok (.aload_n 0, 1) := by decide +kernel
theorem dX6_init_38 : decode cX6_init 38 = .ok (.iload_n 1, 1) := by decide +kernel
theorem dX6_init_39 : decode cX6_init 39 = .ok (.putfield 29, 3) := by decide +kernel
theorem dX6_init_42 : decode cX6_init 42 = .ok (.aload_n 0, 1) := by decide +kernel
theorem dX6_init_43 : decode cX6_init 43 = .ok (.iload_n 3, 1) := by decide +kernel
theorem dX6_init_44 : decode cX6_init 44 = .ok (.putfield 32, 3) := by decide +kernel
theorem dX6_init_47 : decode cX6_init 47 = .ok (.aload_n 0, 1) := by decide +kernel
theorem dX6_init_48 : decode cX6_init 48 = .ok (.getfield 19, 3) := by decide +kernel
theorem dX6_init_51 : decode cX6_init 51 = .ok (.iconst 0, 1) := by decide +kernel
theorem dX6_init_52 : decode cX6_init 52 = .ok (.iload_n 2, 1) := by decide +kernel
theorem dX6_init_53 : decode cX6_init 53 = .ok (.iastore, 1) := by decide +kernel
theorem dX6_init_54 : decode cX6_init 54 = .ok (.aload_n 0, 1) := by decide +kernel
theorem dX6_init_55 : decode cX6_init 55 = .ok (.getfield 23, 3) := by decide +kernel
theorem dX6_init_58 : decode cX6_init 58 = .ok (.iconst 0, 1) := by decide +kernel
theorem dX6_init_59 : decode cX6_init 59 = .ok (.iload_n 3, 1) := by decide +kernel
theorem dX6_init_60 : decode cX6_init 60 = .ok (.iastore, 1) := by decide +kernel
theorem dX6_init_61 : decode cX6_init 61 = .ok (.return_, 1) := by decide +kernel
theorem dX6_isFull_0 : decode cX6_isFull 0 = .ok (.aload_n 0, 1) := by decide +kernel
theorem dX6_isFull_1 : decode cX6_isFull 1 = .ok (.getfield 26, 3) := by decide +kernel
theorem dX6_isFull_4 : decode cX6_isFull 4 = .ok (.aload_n 0, 1) := by decide +kernel
theorem dX6_isFull_5 : decode cX6_isFull 5 = .ok (.getfield 19, 3) := by decide +kernel
theorem dX6_isFull_8 : decode cX6_isFull 8 = .ok (.arraylength, 1) := by decide +kernel
theorem dX6_isFull_9 : decode cX6_isFull 9 = .ok (.if_icmp .lt 7, 3) := by decide +kernel
theorem dX6_isFull_12 : decode cX6_isFull 12 = .ok (.iconst 1, 1) := by decide +kernel
theorem dX6_isFull_13 : decode cX6_isFull 13 = .ok (.goto 4, 3) := by decide +kernel
theorem dX6_isFull_16 : decode cX6_isFull 16 = .ok (.iconst 0, 1) := by decide +kernel
theorem dX6_isFull_17 : decode cX6_isFull 17 = .ok (.ireturn, 1) := by decide +kernel
theorem dX6_kindToldLast_0 : decode cX6_kindToldLast 0 = .ok (.aload_n 0, 1) := by decide +kernel
theorem dX6_kindToldLast_1 : decode cX6_kindToldLast 1 = .ok (.getfield 19, 3) := by decide +kernel
theorem dX6_kindToldLast_4 : decode cX6_kindToldLast 4 = .ok (.aload_n 0, 1) := by decide +kernel
theorem dX6_kindToldLast_5 : decode cX6_kindToldLast 5 = .ok (.getfield 26, 3) := by decide +kernel
theorem dX6_kindToldLast_8 : decode cX6_kindToldLast 8 = .ok (.iconst 1, 1) := by decide +kernel
theorem dX6_kindToldLast_9 : decode cX6_kindToldLast 9 = .ok (.isub, 1) := by decide +kernel
theorem dX6_kindToldLast_10 : decode cX6_kindToldLast 10 = .ok (.iaload, 1) := by decide +kernel
theorem dX6_kindToldLast_11 : decode cX6_kindToldLast 11 = .ok (.ireturn, 1) := by decide +kernel
theorem dX6_dayToldLast_0 : decode cX6_dayToldLast 0 = .ok (.aload_n 0, 1) := by decide +kernel
theorem dX6_dayToldLast_1 : decode cX6_dayToldLast 1 = .ok (.getfield 23, 3) := by decide +kernel
theorem dX6_dayToldLast_4 : decode cX6_dayToldLast 4 = .ok (.aload_n 0, 1) := by decide +kernel
theorem dX6_dayToldLast_5 : decode cX6_dayToldLast 5 = .ok (.getfield 26, 3) := by decide +kernel
theorem dX6_dayToldLast_8 : decode cX6_dayToldLast 8 = .ok (.iconst 1, 1) := by decide +kernel
theorem dX6_dayToldLast_9 : decode cX6_dayToldLast 9 = .ok (.isub, 1) := by decide +kernel
theorem dX6_dayToldLast_10 : decode cX6_dayToldLast 10 = .ok (.iaload, 1) := by decide +kernel
theorem dX6_dayToldLast_11 : decode cX6_dayToldLast 11 = .ok (.ireturn, 1) := by decide +kernel
set_option maxRecDepth 20000 in
theorem ggX6_tell_X6_isFull : GoodIn wsX6_tell wsX6_isFull := goodIn_r _ [8, 2, 1, 9, 10, 11, 12, 13, 14, 15] (by decide +kernel) (by decide +kernel)
set_option maxRecDepth 20000 in
theorem gX6_tell_X6_isFull : GoodIn wsX6_tell (wsV RX6 35 RX6 yX6_isFull wsX6_isFull) := goodIn_app (goodIn_of _ (by decide +kernel)) ggX6_tell_X6_isFull
theorem dX6_tell_0 : decode cX6_tell 0 = .ok (.aload_n 0, 1) := by decide +kernel
theorem dX6_tell_1 : decode cX6_tell 1 = .ok (.invokevirtual 35, 3) := by decide +kernel
theorem dX6_tell_4 : decode cX6_tell 4 = .ok (.ifCond .ne 33, 3) := by decide +kernel
theorem dX6_tell_7 : decode cX6_tell 7 = .ok (.aload_n 0, 1) := by decide +kernel
theorem dX6_tell_8 : decode cX6_tell 8 = .ok (.getfield 19, 3) := by decide +kernel
theorem dX6_tell_11 : decode cX6_tell 11 = .ok (.aload_n 0, 1) := by decide +kernel
theorem dX6_tell_12 : decode cX6_tell 12 = .ok (.getfield 26, 3) := by decide +kernel
theorem dX6_tell_15 : decode cX6_tell 15 = .ok (.iload_n 1, 1) := by decide +kernel
theorem dX6_tell_16 : decode cX6_tell 16 = .ok (.iastore, 1) := by decide +kernel
theorem dX6_tell_17 : decode cX6_tell 17 = .ok (.aload_n 0, 1) := by decide +kernel
theorem dX6_tell_18 : decode cX6_tell 18 = .ok (.getfield 23, 3) := by decide +kernel
theorem dX6_tell_21 : decode cX6_tell 21 = .ok (.aload_n 0, 1) := by decide +kernel
theorem dX6_tell_22 : decode cX6_tell 22 = .ok (.getfield 26, 3) := by decide +kernel
theorem dX6_tell_25 : decode cX6_tell 25 = .ok (.iload_n 2, 1) := by decide +kernel
theorem dX6_tell_26 : decode cX6_tell 26 = .ok (.iastore, 1) := by decide +kernel
theorem dX6_tell_27 : decode cX6_tell 27 = .ok (.aload_n 0, 1) := by decide +kernel
theorem dX6_tell_28 : decode cX6_tell 28 = .ok (.dup, 1) := by decide +kernel
theorem dX6_tell_29 : decode cX6_tell 29 = .ok (.getfield 26, 3) := by decide +kernel
theorem dX6_tell_32 : decode cX6_tell 32 = .ok (.iconst 1, 1) := by decide +kernel
theorem dX6_tell_33 : decode cX6_tell 33 = .ok (.iadd, 1) := by decide +kernel
theorem dX6_tell_34 : decode cX6_tell 34 = .ok (.putfield 26, 3) := by decide +kernel
theorem dX6_tell_37 : decode cX6_tell 37 = .ok (.return_, 1) := by decide +kernel
theorem dX6_leave_0 : decode cX6_leave 0 = .ok (.aload_n 0, 1) := by decide +kernel
theorem dX6_leave_1 : decode cX6_leave 1 = .ok (.iload_n 1, 1) := by decide +kernel
theorem dX6_leave_2 : decode cX6_leave 2 = .ok (.putfield 9, 3) := by decide +kernel
theorem dX6_leave_5 : decode cX6_leave 5 = .ok (.aload_n 0, 1) := by decide +kernel
theorem dX6_leave_6 : decode cX6_leave 6 = .ok (.iconst 1, 1) := by decide +kernel
theorem dX6_leave_7 : decode cX6_leave 7 = .ok (.putfield 15, 3) := by decide +kernel
theorem dX6_leave_10 : decode cX6_leave 10 = .ok (.return_, 1) := by decide +kernel
theorem dX6_daysThere_0 : decode cX6_daysThere 0 = .ok (.iconst 0, 1) := by decide +kernel
theorem dX6_daysThere_1 : decode cX6_daysThere 1 = .ok (.iload_n 2, 1) := by decide +kernel
theorem dX6_daysThere_2 : decode cX6_daysThere 2 = .ok (.aload_n 0, 1) := by decide +kernel
theorem dX6_daysThere_3 : decode cX6_daysThere 3 = .ok (.getfield 9, 3) := by decide +kernel
theorem dX6_daysThere_6 : decode cX6_daysThere 6 = .ok (.invokestatic 39, 3) := by decide +kernel
theorem dX6_daysThere_9 : decode cX6_daysThere 9 = .ok (.iload_n 1, 1) := by decide +kernel
theorem dX6_daysThere_10 : decode cX6_daysThere 10 = .ok (.aload_n 0, 1) := by decide +kernel
theorem dX6_daysThere_11 : decode cX6_daysThere 11 = .ok (.getfield 32, 3) := by decide +kernel
theorem dX6_daysThere_14 : decode cX6_daysThere 14 = .ok (.invokestatic 45, 3) := by decide +kernel
theorem dX6_daysThere_17 : decode cX6_daysThere 17 = .ok (.isub, 1) := by decide +kernel
theorem dX6_daysThere_18 : decode cX6_daysThere 18 = .ok (.iconst 1, 1) := by decide +kernel
theorem dX6_daysThere_19 : decode cX6_daysThere 19 = .ok (.iadd, 1) := by decide +kernel
theorem dX6_daysThere_20 : decode cX6_daysThere 20 = .ok (.invokestatic 45, 3) := by decide +kernel
theorem dX6_daysThere_23 : decode cX6_daysThere 23 = .ok (.ireturn, 1) := by decide +kernel
theorem dX6_kindOn_0 : decode cX6_kindOn 0 = .ok (.aload_n 0, 1) := by decide +kernel
theorem dX6_kindOn_1 : decode cX6_kindOn 1 = .ok (.getfield 19, 3) := by decide +kernel
theorem dX6_kindOn_4 : decode cX6_kindOn 4 = .ok (.iconst 0, 1) := by decide +kernel
theorem dX6_kindOn_5 : decode cX6_kindOn 5 = .ok (.iaload, 1) := by decide +kernel
theorem dX6_kindOn_6 : decode cX6_kindOn 6 = .ok (.istore_n 2, 1) := by decide +kernel
theorem dX6_kindOn_7 : decode cX6_kindOn 7 = .ok (.iconst 1, 1) := by decide +kernel
theorem dX6_kindOn_8 : decode cX6_kindOn 8 = .ok (.istore_n 3, 1) := by decide +kernel
theorem dX6_kindOn_9 : decode cX6_kindOn 9 = .ok (.iload_n 3, 1) := by decide +kernel
theorem dX6_kindOn_10 : decode cX6_kindOn 10 = .ok (.aload_n 0, 1) := by decide +kernel
theorem dX6_kindOn_11 : decode cX6_kindOn 11 = .ok (.getfield 26, 3) := by decide +kernel
theorem dX6_kindOn_14 : decode cX6_kindOn 14 = .ok (.if_icmp .ge 50, 3) := by decide +kernel
theorem dX6_kindOn_17 : decode cX6_kindOn 17 = .ok (.aload_n 0, 1) := by decide +kernel
theorem dX6_kindOn_18 : decode cX6_kindOn 18 = .ok (.getfield 23, 3) := by decide +kernel
theorem dX6_kindOn_21 : decode cX6_kindOn 21 = .ok (.iload_n 3, 1) := by decide +kernel
theorem dX6_kindOn_22 : decode cX6_kindOn 22 = .ok (.iaload, 1) := by decide +kernel
theorem dX6_kindOn_23 : decode cX6_kindOn 23 = .ok (.iload_n 1, 1) := by decide +kernel
theorem dX6_kindOn_24 : decode cX6_kindOn 24 = .ok (.if_icmp .ge 13, 3) := by decide +kernel
theorem dX6_kindOn_27 : decode cX6_kindOn 27 = .ok (.aload_n 0, 1) := by decide +kernel
theorem dX6_kindOn_28 : decode cX6_kindOn 28 = .ok (.getfield 19, 3) := by decide +kernel
theorem dX6_kindOn_31 : decode cX6_kindOn 31 = .ok (.iload_n 3, 1) := by decide +kernel
theorem dX6_kindOn_32 : decode cX6_kindOn 32 = .ok (.iaload, 1) := by decide +kernel
theorem dX6_kindOn_33 : decode cX6_kindOn 33 = .ok (.istore_n 2, 1) := by decide +kernel
theorem dX6_kindOn_34 : decode cX6_kindOn 34 = .ok (.goto 24, 3) := by decide +kernel
theorem dX6_kindOn_37 : decode cX6_kindOn 37 = .ok (.aload_n 0, 1) := by decide +kernel
theorem dX6_kindOn_38 : decode cX6_kindOn 38 = .ok (.getfield 23, 3) := by decide +kernel
theorem dX6_kindOn_41 : decode cX6_kindOn 41 = .ok (.iload_n 3, 1) := by decide +kernel
theorem dX6_kindOn_42 : decode cX6_kindOn 42 = .ok (.iaload, 1) := by decide +kernel
theorem dX6_kindOn_43 : decode cX6_kindOn 43 = .ok (.iload_n 1, 1) := by decide +kernel
theorem dX6_kindOn_44 : decode cX6_kindOn 44 = .ok (.if_icmp .ne 14, 3) := by decide +kernel
theorem dX6_kindOn_47 : decode cX6_kindOn 47 = .ok (.iload_n 2, 1) := by decide +kernel
theorem dX6_kindOn_48 : decode cX6_kindOn 48 = .ok (.aload_n 0, 1) := by decide +kernel
theorem dX6_kindOn_49 : decode cX6_kindOn 49 = .ok (.getfield 19, 3) := by decide +kernel
theorem dX6_kindOn_52 : decode cX6_kindOn 52 = .ok (.iload_n 3, 1) := by decide +kernel
theorem dX6_kindOn_53 : decode cX6_kindOn 53 = .ok (.iaload, 1) := by decide +kernel
theorem dX6_kindOn_54 : decode cX6_kindOn 54 = .ok (.invokestatic 45, 3) := by decide +kernel
theorem dX6_kindOn_57 : decode cX6_kindOn 57 = .ok (.istore_n 2, 1) := by decide +kernel
theorem dX6_kindOn_58 : decode cX6_kindOn 58 = .ok (.iinc 3 1, 3) := by decide +kernel
theorem dX6_kindOn_61 : decode cX6_kindOn 61 = .ok (.goto (-52), 3) := by decide +kernel
theorem dX6_kindOn_64 : decode cX6_kindOn 64 = .ok (.iload_n 2, 1) := by decide +kernel
theorem dX6_kindOn_65 : decode cX6_kindOn 65 = .ok (.ireturn, 1) := by decide +kernel
set_option maxRecDepth 20000 in
theorem ggX7_init_X5_init : GoodIn wsX7_init wsX5_init := goodIn_r _ [27, 28, 2, 3, 29, 30, 31, 32, 81, 82, 83] (by decide +kernel) (by decide +kernel)
set_option maxRecDepth 20000 in
theorem gX7_init_X5_init_n9 : GoodIn wsX7_init (wsX5_init) := ggX7_init_X5_init
set_option maxRecDepth 20000 in
theorem ggX7_init_X2_init : GoodIn wsX7_init wsX2_init := goodIn_r _ [35, 36, 2, 3, 37, 38, 39, 40, 41, 42, 43, 44, 45, 46, 47, 48, 49, 10, 50, 51, 52, 53, 54, 91, 92, 93, 94, 95, 96, 97, 98, 99] (by decide +kernel) (by decide +kernel)
set_option maxRecDepth 20000 in
theorem gX7_init_X2_init : GoodIn wsX7_init (wsX2_init) := ggX7_init_X2_init
set_option maxRecDepth 20000 in
theorem ggX7_init_Jx4a65c_init_da8c8 : GoodIn wsX7_init wsJx4a65c_init_da8c8 := goodIn_r _ [57, 58, 59, 60, 61, 62, 63, 64, 65, 66, 67, 68, 69, 2, 3, 100, 101, 102] (by decide +kernel) (by decide +kernel)
set_option maxRecDepth 20000 in
theorem gX7_init_Jx4a65c_init_da8c8 : GoodIn wsX7_init (wsJx4a65c_init_da8c8) := ggX7_init_Jx4a65c_init_da8c8
set_option maxRecDepth 20000 in
theorem ggX7_init_X1_init : GoodIn wsX7_init wsX1_init := goodIn_r _ [71, 72, 2, 3, 73, 14, 15, 74, 75, 56, 57, 58, 59, 60, 61, 62, 63, 64, 65, 66, 67, 68, 69, 100, 101, 102, 103] (by decide +kernel) (by decide +kernel)
set_option maxRecDepth 20000 in
theorem gX7_init_X1_init_n38 : GoodIn wsX7_init (wsX1_init) := ggX7_init_X1_init
set_option maxRecDepth 20000 in
theorem ggX7_init_X4_init : GoodIn wsX7_init wsX4_init := goodIn_r _ [77, 78, 2, 3, 29, 79, 80, 104, 105] (by decide +kernel) (by decide +kernel)
set_option maxRecDepth 20000 in
theorem gX7_init_X4_init_n45 : GoodIn wsX7_init (wsX4_init) := ggX7_init_X4_init
theorem dX7_init_0 : decode cX7_init 0 = .ok (.aload_n 0, 1) := by decide +kernel
theorem dX7_init_1 : decode cX7_init 1 = .ok (.invokespecial 1, 3) := by decide +kernel
theorem dX7_init_4 : decode cX7_init 4 = .ok (.aload_n 0, 1) := by decide +kernel
theorem dX7_init_5 : decode cX7_init 5 = .ok (.new 7, 3) := by decide +kernel
theorem dX7_init_8 : decode cX7_init 8 = .ok (.dup, 1) := by decide +kernel
theorem dX7_init_9 : decode cX7_init 9 = .ok (.invokespecial 9, 3) := by decide +kernel
theorem dX7_init_12 : decode cX7_init 12 = .ok (.putfield 10, 3) := by decide +kernel
theorem dX7_init_15 : decode cX7_init 15 = .ok (.aload_n 0, 1) := by decide +kernel
theorem dX7_init_16 : decode cX7_init 16 = .ok (.new 16, 3) := by decide +kernel
theorem dX7_init_19 : decode cX7_init 19 = .ok (.dup, 1) := by decide +kernel
theorem dX7_init_20 : decode cX7_init 20 = .ok (.invokespecial 18, 3) := by decide +kernel
theorem dX7_init_23 : decode cX7_init 23 = .ok (.putfield 19, 3) := by decide +kernel
theorem dX7_init_26 : decode cX7_init 26 = .ok (.aload_n 0, 1) := by decide +kernel
theorem dX7_init_27 : decode cX7_init 27 = .ok (.new 16, 3) := by decide +kernel
theorem dX7_init_30 : decode cX7_init 30 = .ok (.dup, 1) := by decide +kernel
theorem dX7_init_31 : decode cX7_init 31 = .ok (.invokespecial 18, 3) := by decide +kernel
theorem dX7_init_34 : decode cX7_init 34 = .ok (.putfield 23, 3) := by decide +kernel
theorem dX7_init_37 : decode cX7_init 37 = .ok (.aload_n 0, 1) := by decide +kernel
theorem dX7_init_38 : decode cX7_init 38 = .ok (.new 26, 3) := by decide +kernel
theorem dX7_init_41 : decode cX7_init 41 = .ok (.dup, 1) := by decide +kernel
theorem dX7_init_42 : decode cX7_init 42 = .ok (.invokespecial 28, 3) := by decide +kernel
theorem dX7_init_45 : decode cX7_init 45 = .ok (.putfield 29, 3) := by decide +kernel
theorem dX7_init_48 : decode cX7_init 48 = .ok (.aload_n 0, 1) := by decide +kernel
theorem dX7_init_49 : decode cX7_init 49 = .ok (.new 26, 3) := by decide +kernel
theorem dX7_init_52 : decode cX7_init 52 = .ok (.dup, 1) := by decide +kernel
theorem dX7_init_53 : decode cX7_init 53 = .ok (.invokespecial 28, 3) := by decide +kernel
theorem dX7_init_56 : decode cX7_init 56 = .ok (.putfield 33, 3) := by decide +kernel
theorem dX7_init_59 : decode cX7_init 59 = .ok (.aload_n 0, 1) := by decide +kernel
theorem dX7_init_60 : decode cX7_init 60 = .ok (.new 36, 3) := by decide +kernel
theorem dX7_init_63 : decode cX7_init 63 = .ok (.dup, 1) := by decide +kernel
theorem dX7_init_64 : decode cX7_init 64 = .ok (.invokespecial 38, 3) := by decide +kernel
theorem dX7_init_67 : decode cX7_init 67 = .ok (.putfield 39, 3) := by decide +kernel
theorem dX7_init_70 : decode cX7_init 70 = .ok (.aload_n 0, 1) := by decide +kernel
theorem dX7_init_71 : decode cX7_init 71 = .ok (.new 43, 3) := by decide +kernel
theorem dX7_init_74 : decode cX7_init 74 = .ok (.dup, 1) := by decide +kernel
theorem dX7_init_75 : decode cX7_init 75 = .ok (.invokespecial 45, 3) := by decide +kernel
theorem dX7_init_78 : decode cX7_init 78 = .ok (.putfield 46, 3) := by decide +kernel
theorem dX7_init_81 : decode cX7_init 81 = .ok (.return_, 1) := by decide +kernel
set_option maxRecDepth 20000 in
theorem ggX7_sign_X7_isWithin : GoodIn wsX7_sign wsX7_isWithin := goodIn_r _ [9] (by decide +kernel) (by decide +kernel)
set_option maxRecDepth 20000 in
theorem gX7_sign_X7_isWithin : GoodIn wsX7_sign (va_wsS RX7 50 yX7_isWithin wsX7_isWithin) := goodIn_app (goodIn_of _ (by decide +kernel)) ggX7_sign_X7_isWithin
set_option maxRecDepth 20000 in
theorem ggX7_sign_X5_isFull : GoodIn wsX7_sign wsX5_isFull := goodIn_r _ [14, 15, 16, 29, 30, 31] (by decide +kernel) (by decide +kernel)
set_option maxRecDepth 20000 in
theorem gX7_sign_X5_isFull : GoodIn wsX7_sign (wsV RX7 61 RX5 yX5_isFull wsX5_isFull) := goodIn_app (goodIn_of _ (by decide +kernel)) ggX7_sign_X5_isFull
set_option maxRecDepth 20000 in
theorem ggX7_sign_X5_add : GoodIn wsX7_sign wsX5_add := goodIn_r _ [20, 16, 15, 21, 11, 12, 13, 14, 29, 30, 31] (by decide +kernel) (by decide +kernel)
set_option maxRecDepth 20000 in
theorem gX7_sign_X5_add : GoodIn wsX7_sign (wsV RX7 70 RX5 yX5_add wsX5_add) := goodIn_app (goodIn_of _ (by decide +kernel)) ggX7_sign_X5_add
theorem dX7_sign_0 : decode cX7_sign 0 = .ok (.iload_n 1, 1) := by decide +kernel
theorem dX7_sign_1 : decode cX7_sign 1 = .ok (.iconst 0, 1) := by decide +kernel
theorem dX7_sign_2 : decode cX7_sign 2 = .ok (.sipush 255, 3) := by decide +kernel
theorem dX7_sign_5 : decode cX7_sign 5 = .ok (.invokestatic 50, 3) := by decide +kernel
theorem dX7_sign_8 : decode cX7_sign 8 = .ok (.ifCond .ne 13, 3) := by decide +kernel
theorem dX7_sign_11 : decode cX7_sign 11 = .ok (.new 54, 3) := by decide +kernel
theorem dX7_sign_14 : decode cX7_sign 14 = .ok (.dup, 1) := by decide +kernel
theorem dX7_sign_15 : decode cX7_sign 15 = .ok (.ldc 56, 2) := by decide +kernel
theorem dX7_sign_17 : decode cX7_sign 17 = .ok (.invokespecial 58, 3) := by decide +kernel
theorem dX7_sign_20 : decode cX7_sign 20 = .ok (.athrow, 1) := by decide +kernel
theorem dX7_sign_21 : decode cX7_sign 21 = .ok (.aload_n 0, 1) := by decide +kernel
theorem dX7_sign_22 : decode cX7_sign 22 = .ok (.getfield 10, 3) := by decide +kernel
theorem dX7_sign_25 : decode cX7_sign 25 = .ok (.invokevirtual 61, 3) := by decide +kernel
theorem dX7_sign_28 : decode cX7_sign 28 = .ok (.ifCond .eq 13, 3) := by decide +kernel
theorem dX7_sign_31 : decode cX7_sign 31 = .ok (.new 65, 3) := by decide +kernel
theorem dX7_sign_34 : decode cX7_sign 34 = .ok (.dup, 1) := by decide +kernel
theorem dX7_sign_35 : decode cX7_sign 35 = .ok (.ldc 67, 2) := by decide +kernel
theorem dX7_sign_37 : decode cX7_sign 37 = .ok (.invokespecial 69, 3) := by decide +kernel
theorem dX7_sign_40 : decode cX7_sign 40 = .ok (.athrow, 1) := by decide +kernel
theorem dX7_sign_41 : decode cX7_sign 41 = .ok (.aload_n 0, 1) := by decide +kernel
theorem dX7_sign_42 : decode cX7_sign 42 = .ok (.getfield 10, 3) := by decide +kernel
theorem dX7_sign_45 : decode cX7_sign 45 = .ok (.iload_n 1, 1) := by decide +kernel
theorem dX7_sign_46 : decode cX7_sign 46 = .ok (.invokevirtual 70, 3) := by decide +kernel
theorem dX7_sign_49 : decode cX7_sign 49 = .ok (.aload_n 0, 1) := by decide +kernel
theorem dX7_sign_50 : decode cX7_sign 50 = .ok (.getfield 10, 3) := by decide +kernel
theorem dX7_sign_53 : decode cX7_sign 53 = .ok (.getfield 74, 3) := by decide +kernel
theorem dX7_sign_56 : decode cX7_sign 56 = .ok (.ireturn, 1) := by decide +kernel
set_option maxRecDepth 20000 in
theorem ggX7_read_X2_clear : GoodIn wsX7_read wsX2_clear := goodIn_r _ [7, 8, 9, 10, 11, 12, 13, 14, 15, 16, 17, 86, 87, 88, 89, 90, 91, 92, 93, 94] (by decide +kernel) (by decide +kernel)
set_option maxRecDepth 20000 in
theorem gX7_read_X2_clear_n78 : GoodIn wsX7_read (wsX2_clear) := ggX7_read_X2_clear
set_option maxRecDepth 20000 in
theorem ggX7_read_X7_readLines : GoodIn wsX7_read wsX7_readLines := goodIn_r _ [22, 3, 23, 24, 25, 26, 27, 28, 29, 30, 31, 32, 21, 33, 1, 34, 35, 36, 37, 38, 39, 40, 41, 42, 43, 44, 45, 46, 47, 48, 49, 50, 51, 52, 5, 53, 12, 13, 54, 55, 56, 57, 8, 9, 10, 58, 59, 60, 61, 62, 63, 64, 65, 66, 67, 11, 68, 69, 70, 71, 72, 73, 74, 79, 80, 81, 82, 83, 84, 85, 95, 96, 97, 86, 87, 88, 89, 90, 91, 92, 93, 94] (by decide +kernel) (by decide +kernel)
set_option maxRecDepth 20000 in
theorem gX7_read_X7_readLines : GoodIn wsX7_read (wsV RX7 81 RX7 yX7_readLines wsX7_readLines) := goodIn_app (goodIn_of _ (by decide +kernel)) ggX7_read_X7_readLines
set_option maxRecDepth 20000 in
theorem ggX7_read_X5_clear : GoodIn wsX7_read wsX5_clear := goodIn_r _ [78, 29, 28, 95, 96, 97] (by decide +kernel) (by decide +kernel)
set_option maxRecDepth 20000 in
theorem gX7_read_X5_clear : GoodIn wsX7_read (wsV RX7 85 RX5 yX5_clear wsX5_clear) := goodIn_app (goodIn_of _ (by decide +kernel)) ggX7_read_X5_clear
theorem dX7_read_0 : decode cX7_read 0 = .ok (.aload_n 0, 1) := by decide +kernel
theorem dX7_read_1 : decode cX7_read 1 = .ok (.getfield 23, 3) := by decide +kernel
theorem dX7_read_4 : decode cX7_read 4 = .ok (.invokevirtual 78, 3) := by decide +kernel
theorem dX7_read_7 : decode cX7_read 7 = .ok (.aload_n 0, 1) := by decide +kernel
theorem dX7_read_8 : decode cX7_read 8 = .ok (.invokevirtual 81, 3) := by decide +kernel
theorem dX7_read_11 : decode cX7_read 11 = .ok (.istore_n 1, 1) := by decide +kernel
theorem dX7_read_12 : decode cX7_read 12 = .ok (.iload_n 1, 1) := by decide +kernel
theorem dX7_read_13 : decode cX7_read 13 = .ok (.ifCond .lt 21, 3) := by decide +kernel
theorem dX7_read_16 : decode cX7_read 16 = .ok (.aload_n 0, 1) := by decide +kernel
theorem dX7_read_17 : decode cX7_read 17 = .ok (.getfield 19, 3) := by decide +kernel
theorem dX7_read_20 : decode cX7_read 20 = .ok (.astore_n 2, 1) := by decide +kernel
theorem dX7_read_21 : decode cX7_read 21 = .ok (.aload_n 0, 1) := by decide +kernel
theorem dX7_read_22 : decode cX7_read 22 = .ok (.aload_n 0, 1) := by decide +kernel
theorem dX7_read_23 : decode cX7_read 23 = .ok (.getfield 23, 3) := by decide +kernel
theorem dX7_read_26 : decode cX7_read 26 = .ok (.putfield 19, 3) := by decide +kernel
theorem dX7_read_29 : decode cX7_read 29 = .ok (.aload_n 0, 1) := by decide +kernel
theorem dX7_read_30 : decode cX7_read 30 = .ok (.aload_n 2, 1) := by decide +kernel
theorem dX7_read_31 : decode cX7_read 31 = .ok (.putfield 23, 3) := by decide +kernel
theorem dX7_read_34 : decode cX7_read 34 = .ok (.aload_n 0, 1) := by decide +kernel
theorem dX7_read_35 : decode cX7_read 35 = .ok (.getfield 10, 3) := by decide +kernel
theorem dX7_read_38 : decode cX7_read 38 = .ok (.invokevirtual 85, 3) := by decide +kernel
theorem dX7_read_41 : decode cX7_read 41 = .ok (.iload_n 1, 1) := by decide +kernel
theorem dX7_read_42 : decode cX7_read 42 = .ok (.ireturn, 1) := by decide +kernel
set_option maxRecDepth 20000 in
theorem ggX7_unit_X7_checkOwner : GoodIn wsX7_unit wsX7_checkOwner := goodIn_ca (goodIn_r _ [10, 11, 12, 13, 14, 9, 15] (by decide +kernel) (by decide +kernel)) (goodIn_sub (fun _ h => List.mem_cons_of_mem _ (List.mem_append_right _ h)) (by decide +kernel))
set_option maxRecDepth 20000 in
theorem gX7_unit_X7_checkOwner : GoodIn wsX7_unit (va_wsS RX7 86 yX7_checkOwner wsX7_checkOwner) := goodIn_app (goodIn_of _ (by decide +kernel)) ggX7_unit_X7_checkOwner
set_option maxRecDepth 20000 in
theorem ggX7_unit_X7_checkKind : GoodIn wsX7_unit wsX7_checkKind := goodIn_ca (goodIn_r _ [18, 11, 12, 13, 14, 9, 15] (by decide +kernel) (by decide +kernel)) (goodIn_sub (fun _ h => List.mem_cons_of_mem _ (List.mem_append_right _ h)) (by decide +kernel))
set_option maxRecDepth 20000 in
theorem gX7_unit_X7_checkKind : GoodIn wsX7_unit (va_wsS RX7 89 yX7_checkKind wsX7_checkKind) := goodIn_app (goodIn_of _ (by decide +kernel)) ggX7_unit_X7_checkKind
set_option maxRecDepth 20000 in
theorem ggX7_unit_X7_checkDay : GoodIn wsX7_unit wsX7_checkDay := goodIn_ca (goodIn_r _ [21, 11, 12, 13, 14, 9, 15] (by decide +kernel) (by decide +kernel)) (goodIn_sub (fun _ h => List.mem_cons_of_mem _ (List.mem_append_right _ h)) (by decide +kernel))
set_option maxRecDepth 20000 in
theorem gX7_unit_X7_checkDay : GoodIn wsX7_unit (va_wsS RX7 92 yX7_checkDay wsX7_checkDay) := goodIn_app (goodIn_of _ (by decide +kernel)) ggX7_unit_X7_checkDay
set_option maxRecDepth 20000 in
theorem ggX7_unit_Jx4a65c_size_8abf5 : GoodIn wsX7_unit wsJx4a65c_size_8abf5 := goodIn_r _ [26, 27, 110, 111, 112] (by decide +kernel) (by decide +kernel)
set_option maxRecDepth 20000 in
theorem gX7_unit_Jx4a65c_size_8abf5 : GoodIn wsX7_unit (wsV RX7 95 RJx4a65c yJx4a65c_size_8abf5 wsJx4a65c_size_8abf5) := goodIn_app (goodIn_of _ (by decide +kernel)) ggX7_unit_Jx4a65c_size_8abf5
set_option maxRecDepth 20000 in
theorem ggX7_unit_X6_init : GoodIn wsX7_unit wsX6_init := goodIn_r _ [30, 31, 32, 33, 34, 35, 36, 37, 38, 39, 40, 41, 103, 104, 105, 106, 107, 108, 109] (by decide +kernel) (by decide +kernel)
set_option maxRecDepth 20000 in
theorem gX7_unit_X6_init : GoodIn wsX7_unit (wsX6_init) := ggX7_unit_X6_init
set_option maxRecDepth 20000 in
theorem ggX7_unit_Jx4a65c_add_9ea2d : GoodIn wsX7_unit wsJx4a65c_add_9ea2d := goodIn_r _ [45, 46, 47, 48, 27, 49, 50, 51, 25, 52, 53, 54, 55, 56, 57, 58, 59, 60, 61, 62, 63, 64, 65, 66, 67, 68, 69, 70, 71, 72, 73, 74, 75, 76, 77, 78, 79, 80, 81, 82, 83, 84, 85, 86, 87, 88, 89, 90, 91, 92, 93, 94, 95, 110, 111, 112] (by decide +kernel) (by decide +kernel)
set_option maxRecDepth 20000 in
theorem gX7_unit_Jx4a65c_add_9ea2d : GoodIn wsX7_unit (wsV RX7 105 RJx4a65c yJx4a65c_add_9ea2d wsJx4a65c_add_9ea2d) := goodIn_app (goodIn_of _ (by decide +kernel)) ggX7_unit_Jx4a65c_add_9ea2d
theorem dX7_unit_0 : decode cX7_unit 0 = .ok (.iload_n 1, 1) := by decide +kernel
theorem dX7_unit_1 : decode cX7_unit 1 = .ok (.invokestatic 86, 3) := by decide +kernel
theorem dX7_unit_4 : decode cX7_unit 4 = .ok (.iload_n 2, 1) := by decide +kernel
theorem dX7_unit_5 : decode cX7_unit 5 = .ok (.invokestatic 89, 3) := by decide +kernel
theorem dX7_unit_8 : decode cX7_unit 8 = .ok (.iload_n 3, 1) := by decide +kernel
theorem dX7_unit_9 : decode cX7_unit 9 = .ok (.invokestatic 92, 3) := by decide +kernel
theorem dX7_unit_12 : decode cX7_unit 12 = .ok (.aload_n 0, 1) := by decide +kernel
theorem dX7_unit_13 : decode cX7_unit 13 = .ok (.getfield 29, 3) := by decide +kernel
theorem dX7_unit_16 : decode cX7_unit 16 = .ok (.invokevirtual 95, 3) := by decide +kernel
theorem dX7_unit_19 : decode cX7_unit 19 = .ok (.bipush 24, 2) := by decide +kernel
theorem dX7_unit_21 : decode cX7_unit 21 = .ok (.if_icmp .lt 13, 3) := by decide +kernel
theorem dX7_unit_24 : decode cX7_unit 24 = .ok (.new 65, 3) := by decide +kernel
theorem dX7_unit_27 : decode cX7_unit 27 = .ok (.dup, 1) := by decide +kernel
theorem dX7_unit_28 : decode cX7_unit 28 = .ok (.ldc 98, 2) := by decide +kernel
theorem dX7_unit_30 : decode cX7_unit 30 = .ok (.invokespecial 69, 3) := by decide +kernel
theorem dX7_unit_33 : decode cX7_unit 33 = .ok (.athrow, 1) := by decide +kernel
theorem dX7_unit_34 : decode cX7_unit 34 = .ok (.aload_n 0, 1) := by decide +kernel
theorem dX7_unit_35 : decode cX7_unit 35 = .ok (.getfield 29, 3) := by decide +kernel
theorem dX7_unit_38 : decode cX7_unit 38 = .ok (.new 100, 3) := by decide +kernel
theorem dX7_unit_41 : decode cX7_unit 41 = .ok (.dup, 1) := by decide +kernel
theorem dX7_unit_42 : decode cX7_unit 42 = .ok (.iload_n 1, 1) := by decide +kernel
theorem dX7_unit_43 : decode cX7_unit 43 = .ok (.iload_n 2, 1) := by decide +kernel
theorem dX7_unit_44 : decode cX7_unit 44 = .ok (.iload_n 3, 1) := by decide +kernel
theorem dX7_unit_45 : decode cX7_unit 45 = .ok (.invokespecial 102, 3) := by decide +kernel
theorem dX7_unit_48 : decode cX7_unit 48 = .ok (.invokevirtual 105, 3) := by decide +kernel
theorem dX7_unit_51 : decode cX7_unit 51 = .ok (.pop, 1) := by decide +kernel
theorem dX7_unit_52 : decode cX7_unit 52 = .ok (.aload_n 0, 1) := by decide +kernel
theorem dX7_unit_53 : decode cX7_unit 53 = .ok (.getfield 29, 3) := by decide +kernel
theorem dX7_unit_56 : decode cX7_unit 56 = .ok (.invokevirtual 95, 3) := by decide +kernel
theorem dX7_unit_59 : decode cX7_unit 59 = .ok (.iconst 1, 1) := by decide +kernel
theorem dX7_unit_60 : decode cX7_unit 60 = .ok (.isub, 1) := by decide +kernel
theorem dX7_unit_61 : decode cX7_unit 61 = .ok (.ireturn, 1) := by decide +kernel
set_option maxRecDepth 20000 in
theorem ggX7_change_X7_checkUnit : GoodIn wsX7_change wsX7_checkUnit := goodIn_ca (goodIn_r _ [9, 10, 11, 3, 12, 13, 14, 15, 16, 17, 18, 19, 8, 20, 72, 73, 74, 75, 76, 77, 78, 79, 80, 81] (by decide +kernel) (by decide +kernel)) (goodIn_sub (fun _ h => List.mem_cons_of_mem _ (List.mem_append_left _ (List.mem_append_left _ (List.mem_append_right _ h)))) (by decide +kernel))
set_option maxRecDepth 20000 in
theorem gX7_change_X7_checkUnit : GoodIn wsX7_change (wsV RX7 108 RX7 yX7_checkUnit wsX7_checkUnit) := goodIn_app (goodIn_of _ (by decide +kernel)) ggX7_change_X7_checkUnit
set_option maxRecDepth 20000 in
theorem ggX7_change_X7_checkKind : GoodIn wsX7_change wsX7_checkKind := goodIn_ca (goodIn_r _ [23, 24, 25, 18, 19, 8, 20] (by decide +kernel) (by decide +kernel)) (goodIn_sub (fun _ h => List.mem_cons_of_mem _ (List.mem_append_left _ (List.mem_append_right _ h))) (by decide +kernel))
set_option maxRecDepth 20000 in
theorem gX7_change_X7_checkKind : GoodIn wsX7_change (va_wsS RX7 89 yX7_checkKind wsX7_checkKind) := goodIn_app (goodIn_of _ (by decide +kernel)) ggX7_change_X7_checkKind
set_option maxRecDepth 20000 in
theorem ggX7_change_X7_checkDay : GoodIn wsX7_change wsX7_checkDay := goodIn_ca (goodIn_r _ [28, 24, 25, 18, 19, 8, 20] (by decide +kernel) (by decide +kernel)) (goodIn_sub (fun _ h => List.mem_cons_of_mem _ (List.mem_append_left _ (List.mem_append_right _ h))) (by decide +kernel))
set_option maxRecDepth 20000 in
theorem gX7_change_X7_checkDay : GoodIn wsX7_change (va_wsS RX7 92 yX7_checkDay wsX7_checkDay) := goodIn_app (goodIn_of _ (by decide +kernel)) ggX7_change_X7_checkDay
set_option maxRecDepth 20000 in
theorem ggX7_change_Jx4a65c_get_915e3 : GoodIn wsX7_change wsJx4a65c_get_915e3 := goodIn_r _ [32, 17, 33, 34, 35, 36, 37, 38, 39, 40, 41, 42, 43, 15, 44, 45, 79, 80, 81] (by decide +kernel) (by decide +kernel)
set_option maxRecDepth 20000 in
theorem gX7_change_Jx4a65c_get_915e3 : GoodIn wsX7_change (wsV RX7 111 RJx4a65c yJx4a65c_get_915e3 wsJx4a65c_get_915e3) := goodIn_app (goodIn_of _ (by decide +kernel)) ggX7_change_Jx4a65c_get_915e3
set_option maxRecDepth 20000 in
theorem ggX7_change_X7_checkGoesOn : GoodIn wsX7_change wsX7_checkGoesOn := goodIn_ca (goodIn_r _ [48, 49, 50, 51, 52, 53, 54, 55, 56, 57, 82, 83, 84, 85, 86, 87, 88] (by decide +kernel) (by decide +kernel)) (goodIn_sub (fun _ h => List.mem_cons_of_mem _ (List.mem_append_right _ h)) (by decide +kernel))
set_option maxRecDepth 20000 in
theorem gX7_change_X7_checkGoesOn : GoodIn wsX7_change (va_wsS RX7 115 yX7_checkGoesOn wsX7_checkGoesOn) := goodIn_app (goodIn_of _ (by decide +kernel)) ggX7_change_X7_checkGoesOn
set_option maxRecDepth 20000 in
theorem ggX7_change_X6_isFull : GoodIn wsX7_change wsX6_isFull := goodIn_r _ [61, 57, 62, 82, 83, 84, 85, 86, 87, 88] (by decide +kernel) (by decide +kernel)
set_option maxRecDepth 20000 in
theorem gX7_change_X6_isFull : GoodIn wsX7_change (wsV RX7 119 RX6 yX6_isFull wsX6_isFull) := goodIn_app (goodIn_of _ (by decide +kernel)) ggX7_change_X6_isFull
set_option maxRecDepth 20000 in
theorem ggX7_change_X6_kindToldLast : GoodIn wsX7_change wsX6_kindToldLast := goodIn_r _ [66, 62, 57, 82, 83, 84, 85, 86, 87, 88] (by decide +kernel) (by decide +kernel)
set_option maxRecDepth 20000 in
theorem gX7_change_X6_kindToldLast : GoodIn wsX7_change (wsV RX7 122 RX6 yX6_kindToldLast wsX6_kindToldLast) := goodIn_app (goodIn_of _ (by decide +kernel)) ggX7_change_X6_kindToldLast
set_option maxRecDepth 20000 in
theorem ggX7_change_X6_tell : GoodIn wsX7_change wsX6_tell := goodIn_r _ [70, 62, 57, 56, 71, 59, 60, 54, 61, 82, 83, 84, 85, 86, 87, 88] (by decide +kernel) (by decide +kernel)
set_option maxRecDepth 20000 in
theorem gX7_change_X6_tell : GoodIn wsX7_change (wsV RX7 125 RX6 yX6_tell wsX6_tell) := goodIn_app (goodIn_of _ (by decide +kernel)) ggX7_change_X6_tell
theorem dX7_change_0 : decode cX7_change 0 = .ok (.aload_n 0, 1) := by decide +kernel
theorem dX7_change_1 : decode cX7_change 1 = .ok (.iload_n 1, 1) := by decide +kernel
theorem dX7_change_2 : decode cX7_change 2 = .ok (.invokevirtual 108, 3) := by decide +kernel
theorem dX7_change_5 : decode cX7_change 5 = .ok (.iload_n 2, 1) := by decide +kernel
theorem dX7_change_6 : decode cX7_change 6 = .ok (.invokestatic 89, 3) := by decide +kernel
theorem dX7_change_9 : decode cX7_change 9 = .ok (.iload_n 3, 1) := by decide +kernel
theorem dX7_change_10 : decode cX7_change 10 = .ok (.invokestatic 92, 3) := by decide +kernel
theorem dX7_change_13 : decode cX7_change 13 = .ok (.aload_n 0, 1) := by decide +kernel
theorem dX7_change_14 : decode cX7_change 14 = .ok (.getfield 29, 3) := by decide +kernel
theorem dX7_change_17 : decode cX7_change 17 = .ok (.iload_n 1, 1) := by decide +kernel
theorem dX7_change_18 : decode cX7_change 18 = .ok (.invokevirtual 111, 3) := by decide +kernel
theorem dX7_change_21 : decode cX7_change 21 = .ok (.checkcast 100, 3) := by decide +kernel
theorem dX7_change_24 : decode cX7_change 24 = .ok (.astore 4, 2) := by decide +kernel
theorem dX7_change_26 : decode cX7_change 26 = .ok (.aload 4, 2) := by decide +kernel
theorem dX7_change_28 : decode cX7_change 28 = .ok (.iload_n 3, 1) := by decide +kernel
theorem dX7_change_29 : decode cX7_change 29 = .ok (.invokestatic 115, 3) := by decide +kernel
theorem dX7_change_32 : decode cX7_change 32 = .ok (.aload 4, 2) := by decide +kernel
theorem dX7_change_34 : decode cX7_change 34 = .ok (.invokevirtual 119, 3) := by decide +kernel
theorem dX7_change_37 : decode cX7_change 37 = .ok (.ifCond .eq 13, 3) := by decide +kernel
theorem dX7_change_40 : decode cX7_change 40 = .ok (.new 65, 3) := by decide +kernel
theorem dX7_change_43 : decode cX7_change 43 = .ok (.dup, 1) := by decide +kernel
theorem dX7_change_44 : decode cX7_change 44 = .ok (.ldc 120, 2) := by decide +kernel
theorem dX7_change_46 : decode cX7_change 46 = .ok (.invokespecial 69, 3) := by decide +kernel
theorem dX7_change_49 : decode cX7_change 49 = .ok (.athrow, 1) := by decide +kernel
theorem dX7_change_50 : decode cX7_change 50 = .ok (.aload 4, 2) := by decide +kernel
theorem dX7_change_52 : decode cX7_change 52 = .ok (.invokevirtual 122, 3) := by decide +kernel
theorem dX7_change_55 : decode cX7_change 55 = .ok (.iload_n 2, 1) := by decide +kernel
theorem dX7_change_56 : decode cX7_change 56 = .ok (.if_icmp .eq 7, 3) := by decide +kernel
theorem dX7_change_59 : decode cX7_change 59 = .ok (.iconst 1, 1) := by decide +kernel
theorem dX7_change_60 : decode cX7_change 60 = .ok (.goto 4, 3) := by decide +kernel
theorem dX7_change_63 : decode cX7_change 63 = .ok (.iconst 0, 1) := by decide +kernel
theorem dX7_change_64 : decode cX7_change 64 = .ok (.istore 5, 2) := by decide +kernel
theorem dX7_change_66 : decode cX7_change 66 = .ok (.aload 4, 2) := by decide +kernel
theorem dX7_change_68 : decode cX7_change 68 = .ok (.iload_n 2, 1) := by decide +kernel
theorem dX7_change_69 : decode cX7_change 69 = .ok (.iload_n 3, 1) := by decide +kernel
theorem dX7_change_70 : decode cX7_change 70 = .ok (.invokevirtual 125, 3) := by decide +kernel
theorem dX7_change_73 : decode cX7_change 73 = .ok (.iload 5, 2) := by decide +kernel
theorem dX7_change_75 : decode cX7_change 75 = .ok (.ireturn, 1) := by decide +kernel
set_option maxRecDepth 20000 in
theorem ggX7_gone_X7_checkUnit : GoodIn wsX7_gone wsX7_checkUnit := goodIn_ca (goodIn_r _ [7, 8, 9, 1, 10, 11, 12, 13, 14, 15, 16, 17, 6, 18, 71, 72, 73, 74, 75, 76, 77, 78, 79, 80] (by decide +kernel) (by decide +kernel)) (goodIn_sub (fun _ h => List.mem_cons_of_mem _ (List.mem_append_left _ (List.mem_append_left _ (List.mem_append_right _ h)))) (by decide +kernel))
set_option maxRecDepth 20000 in
theorem gX7_gone_X7_checkUnit : GoodIn wsX7_gone (wsV RX7 108 RX7 yX7_checkUnit wsX7_checkUnit) := goodIn_app (goodIn_of _ (by decide +kernel)) ggX7_gone_X7_checkUnit
set_option maxRecDepth 20000 in
theorem ggX7_gone_X7_checkDay : GoodIn wsX7_gone wsX7_checkDay := goodIn_ca (goodIn_r _ [21, 22, 23, 16, 17, 6, 18] (by decide +kernel) (by decide +kernel)) (goodIn_sub (fun _ h => List.mem_cons_of_mem _ (List.mem_append_left _ (List.mem_append_right _ h))) (by decide +kernel))
set_option maxRecDepth 20000 in
theorem gX7_gone_X7_checkDay : GoodIn wsX7_gone (va_wsS RX7 92 yX7_checkDay wsX7_checkDay) := goodIn_app (goodIn_of _ (by decide +kernel)) ggX7_gone_X7_checkDay
set_option maxRecDepth 20000 in
theorem ggX7_gone_Jx4a65c_get_915e3 : GoodIn wsX7_gone wsJx4a65c_get_915e3 := goodIn_r _ [27, 15, 28, 29, 30, 31, 32, 33, 34, 35, 36, 37, 38, 13, 39, 40, 78, 79, 80] (by decide +kernel) (by decide +kernel)
set_option maxRecDepth 20000 in
theorem gX7_gone_Jx4a65c_get_915e3 : GoodIn wsX7_gone (wsV RX7 111 RJx4a65c yJx4a65c_get_915e3 wsJx4a65c_get_915e3) := goodIn_app (goodIn_of _ (by decide +kernel)) ggX7_gone_Jx4a65c_get_915e3
set_option maxRecDepth 20000 in
theorem ggX7_gone_X7_checkGoesOn : GoodIn wsX7_gone wsX7_checkGoesOn := goodIn_ca (goodIn_r _ [43, 44, 45, 46, 47, 48, 49, 50, 51, 52, 81, 82, 83, 84, 85, 86, 87] (by decide +kernel) (by decide +kernel)) (goodIn_sub (fun _ h => List.mem_cons_of_mem _ (List.mem_append_right _ h)) (by decide +kernel))
set_option maxRecDepth 20000 in
theorem gX7_gone_X7_checkGoesOn : GoodIn wsX7_gone (va_wsS RX7 115 yX7_checkGoesOn wsX7_checkGoesOn) := goodIn_app (goodIn_of _ (by decide +kernel)) ggX7_gone_X7_checkGoesOn
set_option maxRecDepth 20000 in
theorem ggX7_gone_X6_leave : GoodIn wsX7_gone wsX6_leave := goodIn_r _ [56, 57, 58, 81, 82, 83, 84, 85, 86, 87] (by decide +kernel) (by decide +kernel)
set_option maxRecDepth 20000 in
theorem gX7_gone_X6_leave : GoodIn wsX7_gone (wsV RX7 129 RX6 yX6_leave wsX6_leave) := goodIn_app (goodIn_of _ (by decide +kernel)) ggX7_gone_X6_leave
set_option maxRecDepth 20000 in
theorem ggX7_gone_X6_daysThere : GoodIn wsX7_gone wsX6_daysThere := goodIn_r _ [62, 57, 63, 64, 65, 66, 67, 68, 69, 70, 81, 82, 83, 84, 85, 86, 87] (by decide +kernel) (by decide +kernel)
set_option maxRecDepth 20000 in
theorem gX7_gone_X6_daysThere : GoodIn wsX7_gone (wsV RX7 132 RX6 yX6_daysThere wsX6_daysThere) := goodIn_app (goodIn_of _ (by decide +kernel)) ggX7_gone_X6_daysThere
theorem dX7_gone_0 : decode cX7_gone 0 = .ok (.aload_n 0, 1) := by decide +kernel
theorem dX7_gone_1 : decode cX7_gone 1 = .ok (.iload_n 1, 1) := by decide +kernel
theorem dX7_gone_2 : decode cX7_gone 2 = .ok (.invokevirtual 108, 3) := by decide +kernel
theorem dX7_gone_5 : decode cX7_gone 5 = .ok (.iload_n 2, 1) := by decide +kernel
theorem dX7_gone_6 : decode cX7_gone 6 = .ok (.invokestatic 92, 3) := by decide +kernel
theorem dX7_gone_9 : decode cX7_gone 9 = .ok (.aload_n 0, 1) := by decide +kernel
theorem dX7_gone_10 : decode cX7_gone 10 = .ok (.getfield 29, 3) := by decide +kernel
theorem dX7_gone_13 : decode cX7_gone 13 = .ok (.iload_n 1, 1) := by decide +kernel
theorem dX7_gone_14 : decode cX7_gone 14 = .ok (.invokevirtual 111, 3) := by decide +kernel
theorem dX7_gone_17 : decode cX7_gone 17 = .ok (.checkcast 100, 3) := by decide +kernel
theorem dX7_gone_20 : decode cX7_gone 20 = .ok (.astore_n 3, 1) := by decide +kernel
theorem dX7_gone_21 : decode cX7_gone 21 = .ok (.aload_n 3, 1) := by decide +kernel
theorem dX7_gone_22 : decode cX7_gone 22 = .ok (.iload_n 2, 1) := by decide +kernel
theorem dX7_gone_23 : decode cX7_gone 23 = .ok (.invokestatic 115, 3) := by decide +kernel
theorem dX7_gone_26 : decode cX7_gone 26 = .ok (.aload_n 3, 1) := by decide +kernel
theorem dX7_gone_27 : decode cX7_gone 27 = .ok (.iload_n 2, 1) := by decide +kernel
theorem dX7_gone_28 : decode cX7_gone 28 = .ok (.invokevirtual 129, 3) := by decide +kernel
theorem dX7_gone_31 : decode cX7_gone 31 = .ok (.aload_n 3, 1) := by decide +kernel
theorem dX7_gone_32 : decode cX7_gone 32 = .ok (.iconst 0, 1) := by decide +kernel
theorem dX7_gone_33 : decode cX7_gone 33 = .ok (.sipush 3599, 3) := by decide +kernel
theorem dX7_gone_36 : decode cX7_gone 36 = .ok (.invokevirtual 132, 3) := by decide +kernel
theorem dX7_gone_39 : decode cX7_gone 39 = .ok (.ireturn, 1) := by decide +kernel
set_option maxRecDepth 20000 in
theorem ggX7_move_X7_checkOwner : GoodIn wsX7_move wsX7_checkOwner := goodIn_ca (goodIn_r _ [12, 1, 2, 13, 14, 11, 15] (by decide +kernel) (by decide +kernel)) (goodIn_sub (fun _ h => List.mem_cons_of_mem _ (List.mem_append_left _ (List.mem_append_right _ h))) (by decide +kernel))
set_option maxRecDepth 20000 in
theorem gX7_move_X7_checkOwner : GoodIn wsX7_move (va_wsS RX7 86 yX7_checkOwner wsX7_checkOwner) := goodIn_app (goodIn_of _ (by decide +kernel)) ggX7_move_X7_checkOwner
set_option maxRecDepth 20000 in
theorem ggX7_move_X7_checkKind : GoodIn wsX7_move wsX7_checkKind := goodIn_ca (goodIn_r _ [18, 1, 2, 13, 14, 11, 15] (by decide +kernel) (by decide +kernel)) (goodIn_sub (fun _ h => List.mem_cons_of_mem _ (List.mem_append_left _ (List.mem_append_right _ h))) (by decide +kernel))
set_option maxRecDepth 20000 in
theorem gX7_move_X7_checkKind : GoodIn wsX7_move (va_wsS RX7 89 yX7_checkKind wsX7_checkKind) := goodIn_app (goodIn_of _ (by decide +kernel)) ggX7_move_X7_checkKind
set_option maxRecDepth 20000 in
theorem ggX7_move_X7_checkDay : GoodIn wsX7_move wsX7_checkDay := goodIn_ca (goodIn_r _ [21, 1, 2, 13, 14, 11, 15] (by decide +kernel) (by decide +kernel)) (goodIn_sub (fun _ h => List.mem_cons_of_mem _ (List.mem_append_left _ (List.mem_append_right _ h))) (by decide +kernel))
set_option maxRecDepth 20000 in
theorem gX7_move_X7_checkDay : GoodIn wsX7_move (va_wsS RX7 92 yX7_checkDay wsX7_checkDay) := goodIn_app (goodIn_of _ (by decide +kernel)) ggX7_move_X7_checkDay
set_option maxRecDepth 20000 in
theorem ggX7_move_X7_isWithin : GoodIn wsX7_move wsX7_isWithin := goodIn_r _ [15] (by decide +kernel) (by decide +kernel)
set_option maxRecDepth 20000 in
theorem gX7_move_X7_isWithin : GoodIn wsX7_move (va_wsS RX7 50 yX7_isWithin wsX7_isWithin) := goodIn_app (goodIn_of _ (by decide +kernel)) ggX7_move_X7_isWithin
set_option maxRecDepth 20000 in
theorem ggX7_move_Jx4a65c_size_8abf5 : GoodIn wsX7_move wsJx4a65c_size_8abf5 := goodIn_r _ [26, 27, 124, 125, 126] (by decide +kernel) (by decide +kernel)
set_option maxRecDepth 20000 in
theorem gX7_move_Jx4a65c_size_8abf5 : GoodIn wsX7_move (wsV RX7 95 RJx4a65c yJx4a65c_size_8abf5 wsJx4a65c_size_8abf5) := goodIn_app (goodIn_of _ (by decide +kernel)) ggX7_move_Jx4a65c_size_8abf5
set_option maxRecDepth 20000 in
theorem ggX7_move_X3_init : GoodIn wsX7_move wsX3_init := goodIn_r _ [30, 31, 32, 33, 34, 35, 36, 37, 120, 121, 122, 123] (by decide +kernel) (by decide +kernel)
set_option maxRecDepth 20000 in
theorem gX7_move_X3_init : GoodIn wsX7_move (wsX3_init) := ggX7_move_X3_init
set_option maxRecDepth 20000 in
theorem ggX7_move_Jx4a65c_add_9ea2d : GoodIn wsX7_move wsJx4a65c_add_9ea2d := goodIn_r _ [41, 42, 43, 44, 27, 45, 46, 47, 25, 48, 49, 50, 51, 52, 53, 54, 55, 56, 57, 58, 59, 60, 61, 62, 63, 64, 65, 66, 67, 68, 69, 70, 71, 72, 73, 74, 75, 76, 77, 78, 79, 80, 81, 82, 83, 84, 85, 86, 87, 88, 89, 90, 91, 124, 125, 126] (by decide +kernel) (by decide +kernel)
set_option maxRecDepth 20000 in
theorem gX7_move_Jx4a65c_add_9ea2d : GoodIn wsX7_move (wsV RX7 105 RJx4a65c yJx4a65c_add_9ea2d wsJx4a65c_add_9ea2d) := goodIn_app (goodIn_of _ (by decide +kernel)) ggX7_move_Jx4a65c_add_9ea2d
set_option maxRecDepth 20000 in
theorem ggX7_move_X7_movesOf : GoodIn wsX7_move wsX7_movesOf := goodIn_r _ [95, 5, 96, 22, 23, 24, 25, 26, 27, 97, 98, 99, 100, 101, 102, 103, 104, 105, 106, 107, 108, 109, 110, 111, 112, 44, 113, 114, 115, 116, 117, 118, 119, 120, 121, 122, 123, 124, 125, 126] (by decide +kernel) (by decide +kernel)
set_option maxRecDepth 20000 in
theorem gX7_move_X7_movesOf : GoodIn wsX7_move (wsV RX7 145 RX7 yX7_movesOf wsX7_movesOf) := goodIn_app (goodIn_of _ (by decide +kernel)) ggX7_move_X7_movesOf
theorem dX7_move_0 : decode cX7_move 0 = .ok (.iload_n 1, 1) := by decide +kernel
theorem dX7_move_1 : decode cX7_move 1 = .ok (.invokestatic 86, 3) := by decide +kernel
theorem dX7_move_4 : decode cX7_move 4 = .ok (.iload_n 2, 1) := by decide +kernel
theorem dX7_move_5 : decode cX7_move 5 = .ok (.invokestatic 89, 3) := by decide +kernel
theorem dX7_move_8 : decode cX7_move 8 = .ok (.iload_n 3, 1) := by decide +kernel
theorem dX7_move_9 : decode cX7_move 9 = .ok (.invokestatic 92, 3) := by decide +kernel
theorem dX7_move_12 : decode cX7_move 12 = .ok (.iload 4, 2) := by decide +kernel
theorem dX7_move_14 : decode cX7_move 14 = .ok (.iconst 1, 1) := by decide +kernel
theorem dX7_move_15 : decode cX7_move 15 = .ok (.bipush 100, 2) := by decide +kernel
theorem dX7_move_17 : decode cX7_move 17 = .ok (.invokestatic 50, 3) := by decide +kernel
theorem dX7_move_20 : decode cX7_move 20 = .ok (.ifCond .ne 13, 3) := by decide +kernel
theorem dX7_move_23 : decode cX7_move 23 = .ok (.new 54, 3) := by decide +kernel
theorem dX7_move_26 : decode cX7_move 26 = .ok (.dup, 1) := by decide +kernel
theorem dX7_move_27 : decode cX7_move 27 = .ok (.ldc 136, 2) := by decide +kernel
theorem dX7_move_29 : decode cX7_move 29 = .ok (.invokespecial 58, 3) := by decide +kernel
theorem dX7_move_32 : decode cX7_move 32 = .ok (.athrow, 1) := by decide +kernel
theorem dX7_move_33 : decode cX7_move 33 = .ok (.aload_n 0, 1) := by decide +kernel
theorem dX7_move_34 : decode cX7_move 34 = .ok (.getfield 33, 3) := by decide +kernel
theorem dX7_move_37 : decode cX7_move 37 = .ok (.invokevirtual 95, 3) := by decide +kernel
theorem dX7_move_40 : decode cX7_move 40 = .ok (.bipush 60, 2) := by decide +kernel
theorem dX7_move_42 : decode cX7_move 42 = .ok (.if_icmp .lt 13, 3) := by decide +kernel
theorem dX7_move_45 : decode cX7_move 45 = .ok (.new 65, 3) := by decide +kernel
theorem dX7_move_48 : decode cX7_move 48 = .ok (.dup, 1) := by decide +kernel
theorem dX7_move_49 : decode cX7_move 49 = .ok (.ldc 138, 2) := by decide +kernel
theorem dX7_move_51 : decode cX7_move 51 = .ok (.invokespecial 69, 3) := by decide +kernel
theorem dX7_move_54 : decode cX7_move 54 = .ok (.athrow, 1) := by decide +kernel
theorem dX7_move_55 : decode cX7_move 55 = .ok (.aload_n 0, 1) := by decide +kernel
theorem dX7_move_56 : decode cX7_move 56 = .ok (.getfield 33, 3) := by decide +kernel
theorem dX7_move_59 : decode cX7_move 59 = .ok (.new 140, 3) := by decide +kernel
theorem dX7_move_62 : decode cX7_move 62 = .ok (.dup, 1) := by decide +kernel
theorem dX7_move_63 : decode cX7_move 63 = .ok (.iload_n 1, 1) := by decide +kernel
theorem dX7_move_64 : decode cX7_move 64 = .ok (.iload_n 2, 1) := by decide +kernel
theorem dX7_move_65 : decode cX7_move 65 = .ok (.iload_n 3, 1) := by decide +kernel
theorem dX7_move_66 : decode cX7_move 66 = .ok (.iload 4, 2) := by decide +kernel
theorem dX7_move_68 : decode cX7_move 68 = .ok (.invokespecial 142, 3) := by decide +kernel
theorem dX7_move_71 : decode cX7_move 71 = .ok (.invokevirtual 105, 3) := by decide +kernel
theorem dX7_move_74 : decode cX7_move 74 = .ok (.pop, 1) := by decide +kernel
theorem dX7_move_75 : decode cX7_move 75 = .ok (.aload_n 0, 1) := by decide +kernel
theorem dX7_move_76 : decode cX7_move 76 = .ok (.iload_n 1, 1) := by decide +kernel
theorem dX7_move_77 : decode cX7_move 77 = .ok (.invokevirtual 145, 3) := by decide +kernel
theorem dX7_move_80 : decode cX7_move 80 = .ok (.ireturn, 1) := by decide +kernel
set_option maxRecDepth 20000 in
theorem ggX7_sum_X7_checkOwner : GoodIn wsX7_sum wsX7_checkOwner := goodIn_ca (goodIn_r _ [4, 5, 6, 7, 8, 3, 9] (by decide +kernel) (by decide +kernel)) (goodIn_sub (fun _ h => List.mem_cons_of_mem _ (List.mem_append_right _ h)) (by decide +kernel))
set_option maxRecDepth 20000 in
theorem gX7_sum_X7_checkOwner : GoodIn wsX7_sum (va_wsS RX7 86 yX7_checkOwner wsX7_checkOwner) := goodIn_app (goodIn_of _ (by decide +kernel)) ggX7_sum_X7_checkOwner
set_option maxRecDepth 20000 in
theorem ggX7_sum_X7_checkMonth : GoodIn wsX7_sum wsX7_checkMonth := goodIn_ca (goodIn_r _ [12, 5, 6, 7, 8, 3, 9] (by decide +kernel) (by decide +kernel)) (goodIn_sub (fun _ h => List.mem_cons_of_mem _ (List.mem_append_right _ h)) (by decide +kernel))
set_option maxRecDepth 20000 in
theorem gX7_sum_X7_checkMonth : GoodIn wsX7_sum (va_wsS RX7 149 yX7_checkMonth wsX7_checkMonth) := goodIn_app (goodIn_of _ (by decide +kernel)) ggX7_sum_X7_checkMonth
set_option maxRecDepth 20000 in
theorem ggX7_sum_X7_sumBy : GoodIn wsX7_sum wsX7_sumBy := goodIn_r _ [16, 17, 18, 19, 20, 21, 22, 23, 24, 3, 25, 26, 27, 28, 29, 30, 31, 32, 33, 34, 35, 36, 37, 38, 39, 40, 41, 42, 43, 44, 45, 46, 47, 48, 49, 50, 51, 52, 53, 54, 55, 56, 57, 58, 59, 60, 61, 62, 63, 64, 65, 66, 67, 68, 69, 70, 71, 72, 73, 74, 75, 76, 77, 78, 79, 80, 81, 82, 83, 84, 8, 9, 85, 86, 87, 88, 89, 90, 91, 92, 93, 94, 95, 96, 97, 98, 99, 100, 101, 102, 103, 104, 105, 106, 107, 108, 109, 7, 110, 111, 112, 113, 114, 115, 116, 117, 118, 119, 120, 121, 122, 123, 124, 125, 126, 127, 128, 129, 130, 131, 132, 133, 134, 135, 136, 137, 138, 139, 140, 141, 142, 143, 144, 145, 146, 147, 148, 149] (by decide +kernel) (by decide +kernel)
set_option maxRecDepth 20000 in
theorem gX7_sum_X7_sumBy : GoodIn wsX7_sum (wsV RX7 152 RX7 yX7_sumBy wsX7_sumBy) := goodIn_app (goodIn_of _ (by decide +kernel)) ggX7_sum_X7_sumBy
theorem dX7_sum_0 : decode cX7_sum 0 = .ok (.iload_n 1, 1) := by decide +kernel
theorem dX7_sum_1 : decode cX7_sum 1 = .ok (.invokestatic 86, 3) := by decide +kernel
theorem dX7_sum_4 : decode cX7_sum 4 = .ok (.iload_n 2, 1) := by decide +kernel
theorem dX7_sum_5 : decode cX7_sum 5 = .ok (.invokestatic 149, 3) := by decide +kernel
theorem dX7_sum_8 : decode cX7_sum 8 = .ok (.aload_n 0, 1) := by decide +kernel
theorem dX7_sum_9 : decode cX7_sum 9 = .ok (.iload_n 1, 1) := by decide +kernel
theorem dX7_sum_10 : decode cX7_sum 10 = .ok (.iload_n 1, 1) := by decide +kernel
theorem dX7_sum_11 : decode cX7_sum 11 = .ok (.iload_n 2, 1) := by decide +kernel
theorem dX7_sum_12 : decode cX7_sum 12 = .ok (.invokevirtual 152, 3) := by decide +kernel
theorem dX7_sum_15 : decode cX7_sum 15 = .ok (.ireturn, 1) := by decide +kernel
set_option maxRecDepth 20000 in
theorem ggX7_days_X7_checkOwner : GoodIn wsX7_days wsX7_checkOwner := goodIn_ca (goodIn_r _ [4, 5, 6, 7, 8, 3, 9] (by decide +kernel) (by decide +kernel)) (goodIn_sub (fun _ h => List.mem_cons_of_mem _ (List.mem_append_right _ h)) (by decide +kernel))
set_option maxRecDepth 20000 in
theorem gX7_days_X7_checkOwner : GoodIn wsX7_days (va_wsS RX7 86 yX7_checkOwner wsX7_checkOwner) := goodIn_app (goodIn_of _ (by decide +kernel)) ggX7_days_X7_checkOwner
set_option maxRecDepth 20000 in
theorem ggX7_days_X7_checkMonth : GoodIn wsX7_days wsX7_checkMonth := goodIn_ca (goodIn_r _ [12, 5, 6, 7, 8, 3, 9] (by decide +kernel) (by decide +kernel)) (goodIn_sub (fun _ h => List.mem_cons_of_mem _ (List.mem_append_right _ h)) (by decide +kernel))
set_option maxRecDepth 20000 in
theorem gX7_days_X7_checkMonth : GoodIn wsX7_days (va_wsS RX7 149 yX7_checkMonth wsX7_checkMonth) := goodIn_app (goodIn_of _ (by decide +kernel)) ggX7_days_X7_checkMonth
set_option maxRecDepth 20000 in
theorem ggX7_days_X7_unitDays : GoodIn wsX7_days wsX7_unitDays := goodIn_r _ [16, 17, 18, 19, 20, 21, 22, 23, 24, 25, 26, 27, 28, 29, 30, 31, 32, 33, 34, 35, 36, 37, 38, 39, 40, 41, 42, 43, 3, 44, 45, 46, 47, 48, 49, 50, 51, 52, 53, 54, 55, 56, 57, 58, 59, 60, 61, 62, 63, 64, 65, 66, 67, 68, 69, 70, 71, 72, 73, 74, 75, 76, 77, 78] (by decide +kernel) (by decide +kernel)
set_option maxRecDepth 20000 in
theorem gX7_days_X7_unitDays : GoodIn wsX7_days (wsV RX7 156 RX7 yX7_unitDays wsX7_unitDays) := goodIn_app (goodIn_of _ (by decide +kernel)) ggX7_days_X7_unitDays
theorem dX7_days_0 : decode cX7_days 0 = .ok (.iload_n 1, 1) := by decide +kernel
theorem dX7_days_1 : decode cX7_days 1 = .ok (.invokestatic 86, 3) := by decide +kernel
theorem dX7_days_4 : decode cX7_days 4 = .ok (.iload_n 2, 1) := by decide +kernel
theorem dX7_days_5 : decode cX7_days 5 = .ok (.invokestatic 149, 3) := by decide +kernel
theorem dX7_days_8 : decode cX7_days 8 = .ok (.aload_n 0, 1) := by decide +kernel
theorem dX7_days_9 : decode cX7_days 9 = .ok (.iload_n 1, 1) := by decide +kernel
theorem dX7_days_10 : decode cX7_days 10 = .ok (.iload_n 2, 1) := by decide +kernel
theorem dX7_days_11 : decode cX7_days 11 = .ok (.invokevirtual 156, 3) := by decide +kernel
theorem dX7_days_14 : decode cX7_days 14 = .ok (.ireturn, 1) := by decide +kernel
set_option maxRecDepth 20000 in
theorem ggX7_average_X7_checkOwner : GoodIn wsX7_average wsX7_checkOwner := goodIn_ca (goodIn_r _ [6, 7, 8, 9, 10, 5, 11] (by decide +kernel) (by decide +kernel)) (goodIn_sub (fun _ h => List.mem_cons_of_mem _ (List.mem_append_right _ h)) (by decide +kernel))
set_option maxRecDepth 20000 in
theorem gX7_average_X7_checkOwner : GoodIn wsX7_average (va_wsS RX7 86 yX7_checkOwner wsX7_checkOwner) := goodIn_app (goodIn_of _ (by decide +kernel)) ggX7_average_X7_checkOwner
set_option maxRecDepth 20000 in
theorem ggX7_average_X7_checkMonth : GoodIn wsX7_average wsX7_checkMonth := goodIn_ca (goodIn_r _ [14, 7, 8, 9, 10, 5, 11] (by decide +kernel) (by decide +kernel)) (goodIn_sub (fun _ h => List.mem_cons_of_mem _ (List.mem_append_right _ h)) (by decide +kernel))
set_option maxRecDepth 20000 in
theorem gX7_average_X7_checkMonth : GoodIn wsX7_average (va_wsS RX7 149 yX7_checkMonth wsX7_checkMonth) := goodIn_app (goodIn_of _ (by decide +kernel)) ggX7_average_X7_checkMonth
set_option maxRecDepth 20000 in
theorem ggX7_average_X7_unitDays : GoodIn wsX7_average wsX7_unitDays := goodIn_r _ [18, 19, 20, 21, 22, 23, 24, 25, 26, 27, 28, 29, 30, 31, 32, 33, 34, 35, 36, 37, 38, 39, 40, 41, 42, 43, 44, 45, 5, 46, 47, 48, 49, 50, 51, 52, 53, 54, 55, 56, 57, 58, 59, 60, 61, 62, 63, 102, 103, 104, 105, 106, 107, 108, 109, 110, 111, 112, 113, 114, 115, 116, 117, 118] (by decide +kernel) (by decide +kernel)
set_option maxRecDepth 20000 in
theorem gX7_average_X7_unitDays : GoodIn wsX7_average (wsV RX7 156 RX7 yX7_unitDays wsX7_unitDays) := goodIn_app (goodIn_of _ (by decide +kernel)) ggX7_average_X7_unitDays
set_option maxRecDepth 20000 in
theorem ggX7_average_X7_storageBy : GoodIn wsX7_average wsX7_storageBy := goodIn_r _ [67, 19, 20, 68, 21, 22, 23, 24, 25, 26, 27, 28, 29, 30, 31, 32, 33, 34, 35, 36, 37, 38, 39, 40, 41, 42, 43, 69, 70, 71, 5, 72, 73, 62, 58, 63, 74, 57, 59, 44, 45, 46, 47, 48, 49, 75, 76, 77, 53, 78, 79, 80, 81, 61, 82, 83, 84, 85, 86, 87, 88, 89, 90, 91, 92, 93, 10, 11, 15, 16, 17, 18, 50, 51, 52, 54, 55, 56, 60, 94, 95, 96, 97, 98, 99, 100, 101, 102, 103, 104, 105, 106, 107, 108, 109, 110, 111, 112, 113, 114, 115, 116, 117, 118, 119, 120, 121, 122, 123, 124, 125, 126, 127] (by decide +kernel) (by decide +kernel)
set_option maxRecDepth 20000 in
theorem gX7_average_X7_storageBy : GoodIn wsX7_average (wsV RX7 164 RX7 yX7_storageBy wsX7_storageBy) := goodIn_app (goodIn_of _ (by decide +kernel)) ggX7_average_X7_storageBy
theorem dX7_average_0 : decode cX7_average 0 = .ok (.iload_n 1, 1) := by decide +kernel
theorem dX7_average_1 : decode cX7_average 1 = .ok (.invokestatic 86, 3) := by decide +kernel
theorem dX7_average_4 : decode cX7_average 4 = .ok (.iload_n 2, 1) := by decide +kernel
theorem dX7_average_5 : decode cX7_average 5 = .ok (.invokestatic 149, 3) := by decide +kernel
theorem dX7_average_8 : decode cX7_average 8 = .ok (.aload_n 0, 1) := by decide +kernel
theorem dX7_average_9 : decode cX7_average 9 = .ok (.iload_n 1, 1) := by decide +kernel
theorem dX7_average_10 : decode cX7_average 10 = .ok (.iload_n 2, 1) := by decide +kernel
theorem dX7_average_11 : decode cX7_average 11 = .ok (.invokevirtual 156, 3) := by decide +kernel
theorem dX7_average_14 : decode cX7_average 14 = .ok (.istore_n 3, 1) := by decide +kernel
theorem dX7_average_15 : decode cX7_average 15 = .ok (.iload_n 3, 1) := by decide +kernel
theorem dX7_average_16 : decode cX7_average 16 = .ok (.ifCond .ne 13, 3) := by decide +kernel
theorem dX7_average_19 : decode cX7_average 19 = .ok (.new 159, 3) := by decide +kernel
theorem dX7_average_22 : decode cX7_average 22 = .ok (.dup, 1) := by decide +kernel
theorem dX7_average_23 : decode cX7_average 23 = .ok (.ldc 161, 2) := by decide +kernel
theorem dX7_average_25 : decode cX7_average 25 = .ok (.invokespecial 163, 3) := by decide +kernel
theorem dX7_average_28 : decode cX7_average 28 = .ok (.athrow, 1) := by decide +kernel
theorem dX7_average_29 : decode cX7_average 29 = .ok (.aload_n 0, 1) := by decide +kernel
theorem dX7_average_30 : decode cX7_average 30 = .ok (.iload_n 1, 1) := by decide +kernel
theorem dX7_average_31 : decode cX7_average 31 = .ok (.iload_n 1, 1) := by decide +kernel
theorem dX7_average_32 : decode cX7_average 32 = .ok (.iload_n 2, 1) := by decide +kernel
theorem dX7_average_33 : decode cX7_average 33 = .ok (.invokevirtual 164, 3) := by decide +kernel
theorem dX7_average_36 : decode cX7_average 36 = .ok (.iload_n 3, 1) := by decide +kernel
theorem dX7_average_37 : decode cX7_average 37 = .ok (.idiv, 1) := by decide +kernel
theorem dX7_average_38 : decode cX7_average 38 = .ok (.ireturn, 1) := by decide +kernel
set_option maxRecDepth 20000 in
theorem ggX7_bill_X7_checkOwner : GoodIn wsX7_bill wsX7_checkOwner := goodIn_ca (goodIn_r _ [10, 11, 12, 13, 14, 9, 15] (by decide +kernel) (by decide +kernel)) (goodIn_sub (fun _ h => List.mem_cons_of_mem _ (List.mem_append_right _ h)) (by decide +kernel))
set_option maxRecDepth 20000 in
theorem gX7_bill_X7_checkOwner : GoodIn wsX7_bill (va_wsS RX7 86 yX7_checkOwner wsX7_checkOwner) := goodIn_app (goodIn_of _ (by decide +kernel)) ggX7_bill_X7_checkOwner
set_option maxRecDepth 20000 in
theorem ggX7_bill_X7_checkMonth : GoodIn wsX7_bill wsX7_checkMonth := goodIn_ca (goodIn_r _ [18, 11, 12, 13, 14, 9, 15] (by decide +kernel) (by decide +kernel)) (goodIn_sub (fun _ h => List.mem_cons_of_mem _ (List.mem_append_right _ h)) (by decide +kernel))
set_option maxRecDepth 20000 in
theorem gX7_bill_X7_checkMonth : GoodIn wsX7_bill (va_wsS RX7 149 yX7_checkMonth wsX7_checkMonth) := goodIn_app (goodIn_of _ (by decide +kernel)) ggX7_bill_X7_checkMonth
set_option maxRecDepth 20000 in
theorem ggX7_bill_X1_isBilled : GoodIn wsX7_bill wsX1_isBilled := goodIn_r _ [23, 24, 25, 26, 27, 28, 29, 30, 31, 32, 33, 34, 35, 36, 37, 38, 39, 40, 41, 42, 43, 44, 45, 46, 47, 48, 208, 204, 205, 206, 207, 209, 210, 211] (by decide +kernel) (by decide +kernel)
set_option maxRecDepth 20000 in
theorem gX7_bill_X1_isBilled : GoodIn wsX7_bill (wsV RX7 167 RX1 yX1_isBilled wsX1_isBilled) := goodIn_app (goodIn_of _ (by decide +kernel)) ggX7_bill_X1_isBilled
set_option maxRecDepth 20000 in
theorem ggX7_bill_X7_sumBy : GoodIn wsX7_bill wsX7_sumBy := goodIn_r _ [52, 53, 54, 55, 56, 57, 58, 59, 60, 9, 61, 62, 63, 64, 27, 28, 29, 30, 31, 65, 33, 34, 35, 36, 37, 38, 39, 40, 41, 42, 43, 44, 45, 46, 47, 48, 66, 67, 68, 69, 70, 71, 72, 73, 74, 75, 76, 77, 78, 79, 80, 81, 82, 83, 84, 85, 86, 87, 88, 89, 90, 91, 92, 93, 94, 95, 96, 97, 98, 99, 14, 15, 100, 101, 102, 103, 104, 105, 106, 107, 108, 109, 110, 111, 112, 113, 114, 115, 116, 117, 118, 119, 120, 121, 122, 123, 124, 13, 125, 126, 127, 128, 129, 130, 131, 132, 133, 134, 197, 198, 199, 200, 201, 202, 203, 212, 213, 214, 215, 216, 217, 218, 209, 210, 211, 219, 220, 221, 222, 223, 224, 225, 226, 227, 228, 229, 230, 231] (by decide +kernel) (by decide +kernel)
set_option maxRecDepth 20000 in
theorem gX7_bill_X7_sumBy : GoodIn wsX7_bill (wsV RX7 152 RX7 yX7_sumBy wsX7_sumBy) := goodIn_app (goodIn_of _ (by decide +kernel)) ggX7_bill_X7_sumBy
set_option maxRecDepth 20000 in
theorem ggX7_bill_X0_init : GoodIn wsX7_bill wsX0_init := goodIn_r _ [137, 138, 139, 140, 141, 142, 143, 144, 204, 205, 206, 207] (by decide +kernel) (by decide +kernel)
set_option maxRecDepth 20000 in
theorem gX7_bill_X0_init : GoodIn wsX7_bill (wsX0_init) := ggX7_bill_X0_init
set_option maxRecDepth 20000 in
theorem ggX7_bill_X1_add : GoodIn wsX7_bill wsX1_add := goodIn_r _ [148, 24, 26, 27, 28, 29, 30, 31, 149, 150, 151, 152, 153, 154, 48, 155, 156, 157, 158, 159, 160, 161, 162, 163, 164, 165, 166, 167, 168, 55, 56, 57, 169, 170, 171, 172, 173, 174, 175, 176, 177, 178, 179, 180, 181, 182, 183, 184, 185, 186, 187, 188, 189, 190, 191, 192, 71, 72, 193, 194, 195, 196, 208, 209, 210, 211] (by decide +kernel) (by decide +kernel)
set_option maxRecDepth 20000 in
theorem gX7_bill_X1_add : GoodIn wsX7_bill (wsV RX7 181 RX1 yX1_add wsX1_add) := goodIn_app (goodIn_of _ (by decide +kernel)) ggX7_bill_X1_add
theorem dX7_bill_0 : decode cX7_bill 0 = .ok (.iload_n 1, 1) := by decide +kernel
theorem dX7_bill_1 : decode cX7_bill 1 = .ok (.invokestatic 86, 3) := by decide +kernel
theorem dX7_bill_4 : decode cX7_bill 4 = .ok (.iload_n 2, 1) := by decide +kernel
theorem dX7_bill_5 : decode cX7_bill 5 = .ok (.invokestatic 149, 3) := by decide +kernel
theorem dX7_bill_8 : decode cX7_bill 8 = .ok (.aload_n 0, 1) := by decide +kernel
theorem dX7_bill_9 : decode cX7_bill 9 = .ok (.getfield 39, 3) := by decide +kernel
theorem dX7_bill_12 : decode cX7_bill 12 = .ok (.iload_n 1, 1) := by decide +kernel
theorem dX7_bill_13 : decode cX7_bill 13 = .ok (.iload_n 2, 1) := by decide +kernel
theorem dX7_bill_14 : decode cX7_bill 14 = .ok (.invokevirtual 167, 3) := by decide +kernel
theorem dX7_bill_17 : decode cX7_bill 17 = .ok (.ifCond .eq 13, 3) := by decide +kernel
theorem dX7_bill_20 : decode cX7_bill 20 = .ok (.new 171, 3) := by decide +kernel
theorem dX7_bill_23 : decode cX7_bill 23 = .ok (.dup, 1) := by decide +kernel
theorem dX7_bill_24 : decode cX7_bill 24 = .ok (.ldc 173, 2) := by decide +kernel
theorem dX7_bill_26 : decode cX7_bill 26 = .ok (.invokespecial 175, 3) := by decide +kernel
theorem dX7_bill_29 : decode cX7_bill 29 = .ok (.athrow, 1) := by decide +kernel
theorem dX7_bill_30 : decode cX7_bill 30 = .ok (.aload_n 0, 1) := by decide +kernel
theorem dX7_bill_31 : decode cX7_bill 31 = .ok (.iload_n 1, 1) := by decide +kernel
theorem dX7_bill_32 : decode cX7_bill 32 = .ok (.iload_n 1, 1) := by decide +kernel
theorem dX7_bill_33 : decode cX7_bill 33 = .ok (.iload_n 2, 1) := by decide +kernel
theorem dX7_bill_34 : decode cX7_bill 34 = .ok (.invokevirtual 152, 3) := by decide +kernel
theorem dX7_bill_37 : decode cX7_bill 37 = .ok (.istore_n 3, 1) := by decide +kernel
theorem dX7_bill_38 : decode cX7_bill 38 = .ok (.aload_n 0, 1) := by decide +kernel
theorem dX7_bill_39 : decode cX7_bill 39 = .ok (.getfield 39, 3) := by decide +kernel
theorem dX7_bill_42 : decode cX7_bill 42 = .ok (.new 176, 3) := by decide +kernel
theorem dX7_bill_45 : decode cX7_bill 45 = .ok (.dup, 1) := by decide +kernel
theorem dX7_bill_46 : decode cX7_bill 46 = .ok (.iload_n 1, 1) := by decide +kernel
theorem dX7_bill_47 : decode cX7_bill 47 = .ok (.iload_n 2, 1) := by decide +kernel
theorem dX7_bill_48 : decode cX7_bill 48 = .ok (.iload_n 3, 1) := by decide +kernel
theorem dX7_bill_49 : decode cX7_bill 49 = .ok (.iconst 0, 1) := by decide +kernel
theorem dX7_bill_50 : decode cX7_bill 50 = .ok (.invokespecial 178, 3) := by decide +kernel
theorem dX7_bill_53 : decode cX7_bill 53 = .ok (.invokevirtual 181, 3) := by decide +kernel
theorem dX7_bill_56 : decode cX7_bill 56 = .ok (.iload_n 3, 1) := by decide +kernel
theorem dX7_bill_57 : decode cX7_bill 57 = .ok (.ireturn, 1) := by decide +kernel
set_option maxRecDepth 20000 in
theorem ggX7_correct_X7_checkOwner : GoodIn wsX7_correct wsX7_checkOwner := goodIn_ca (goodIn_r _ [10, 11, 12, 13, 14, 9, 15] (by decide +kernel) (by decide +kernel)) (goodIn_sub (fun _ h => List.mem_cons_of_mem _ (List.mem_append_right _ h)) (by decide +kernel))
set_option maxRecDepth 20000 in
theorem gX7_correct_X7_checkOwner : GoodIn wsX7_correct (va_wsS RX7 86 yX7_checkOwner wsX7_checkOwner) := goodIn_app (goodIn_of _ (by decide +kernel)) ggX7_correct_X7_checkOwner
set_option maxRecDepth 20000 in
theorem ggX7_correct_X7_checkMonth : GoodIn wsX7_correct wsX7_checkMonth := goodIn_ca (goodIn_r _ [18, 11, 12, 13, 14, 9, 15] (by decide +kernel) (by decide +kernel)) (goodIn_sub (fun _ h => List.mem_cons_of_mem _ (List.mem_append_right _ h)) (by decide +kernel))
set_option maxRecDepth 20000 in
theorem gX7_correct_X7_checkMonth : GoodIn wsX7_correct (va_wsS RX7 149 yX7_checkMonth wsX7_checkMonth) := goodIn_app (goodIn_of _ (by decide +kernel)) ggX7_correct_X7_checkMonth
set_option maxRecDepth 20000 in
theorem ggX7_correct_X1_isBilled : GoodIn wsX7_correct wsX1_isBilled := goodIn_r _ [23, 24, 25, 26, 27, 28, 29, 30, 31, 32, 33, 34, 35, 36, 37, 38, 39, 40, 41, 42, 43, 44, 45, 46, 47, 48, 212, 208, 209, 210, 211, 213, 214, 215] (by decide +kernel) (by decide +kernel)
set_option maxRecDepth 20000 in
theorem gX7_correct_X1_isBilled : GoodIn wsX7_correct (wsV RX7 167 RX1 yX1_isBilled wsX1_isBilled) := goodIn_app (goodIn_of _ (by decide +kernel)) ggX7_correct_X1_isBilled
set_option maxRecDepth 20000 in
theorem ggX7_correct_X7_sumBy : GoodIn wsX7_correct wsX7_sumBy := goodIn_r _ [52, 53, 54, 55, 56, 57, 58, 59, 60, 9, 61, 62, 63, 64, 27, 28, 29, 30, 31, 65, 33, 34, 35, 36, 37, 38, 39, 40, 41, 42, 43, 44, 45, 46, 47, 48, 66, 67, 68, 69, 70, 71, 72, 73, 74, 75, 76, 77, 78, 79, 80, 81, 82, 83, 84, 85, 86, 87, 88, 89, 90, 91, 92, 93, 94, 95, 96, 97, 98, 99, 14, 15, 100, 101, 102, 103, 104, 105, 106, 107, 108, 109, 110, 111, 112, 113, 114, 115, 116, 117, 118, 119, 120, 121, 122, 123, 124, 13, 125, 126, 127, 128, 129, 130, 131, 132, 133, 134, 201, 202, 203, 204, 205, 206, 207, 216, 217, 218, 219, 220, 221, 222, 213, 214, 215, 223, 224, 225, 226, 227, 228, 229, 230, 231, 232, 233, 234, 235] (by decide +kernel) (by decide +kernel)
set_option maxRecDepth 20000 in
theorem gX7_correct_X7_sumBy : GoodIn wsX7_correct (wsV RX7 152 RX7 yX7_sumBy wsX7_sumBy) := goodIn_app (goodIn_of _ (by decide +kernel)) ggX7_correct_X7_sumBy
set_option maxRecDepth 20000 in
theorem ggX7_correct_X1_centsOfMonth : GoodIn wsX7_correct wsX1_centsOfMonth := goodIn_r _ [138, 24, 25, 26, 27, 28, 29, 30, 31, 32, 33, 34, 35, 36, 37, 38, 39, 40, 41, 42, 43, 44, 45, 46, 47, 48, 212, 208, 209, 210, 211, 213, 214, 215] (by decide +kernel) (by decide +kernel)
set_option maxRecDepth 20000 in
theorem gX7_correct_X1_centsOfMonth : GoodIn wsX7_correct (wsV RX7 186 RX1 yX1_centsOfMonth wsX1_centsOfMonth) := goodIn_app (goodIn_of _ (by decide +kernel)) ggX7_correct_X1_centsOfMonth
set_option maxRecDepth 20000 in
theorem ggX7_correct_X0_init : GoodIn wsX7_correct wsX0_init := goodIn_r _ [141, 142, 143, 144, 145, 146, 147, 148, 208, 209, 210, 211] (by decide +kernel) (by decide +kernel)
set_option maxRecDepth 20000 in
theorem gX7_correct_X0_init : GoodIn wsX7_correct (wsX0_init) := ggX7_correct_X0_init
set_option maxRecDepth 20000 in
theorem ggX7_correct_X1_add : GoodIn wsX7_correct wsX1_add := goodIn_r _ [152, 24, 26, 27, 28, 29, 30, 31, 153, 154, 155, 156, 157, 158, 48, 159, 160, 161, 162, 163, 164, 165, 166, 167, 168, 169, 170, 171, 172, 55, 56, 57, 173, 174, 175, 176, 177, 178, 179, 180, 181, 182, 183, 184, 185, 186, 187, 188, 189, 190, 191, 192, 193, 194, 195, 196, 71, 72, 197, 198, 199, 200, 212, 213, 214, 215] (by decide +kernel) (by decide +kernel)
set_option maxRecDepth 20000 in
theorem gX7_correct_X1_add : GoodIn wsX7_correct (wsV RX7 181 RX1 yX1_add wsX1_add) := goodIn_app (goodIn_of _ (by decide +kernel)) ggX7_correct_X1_add
theorem dX7_correct_0 : decode cX7_correct 0 = .ok (.iload_n 1, 1) := by decide +kernel
theorem dX7_correct_1 : decode cX7_correct 1 = .ok (.invokestatic 86, 3) := by decide +kernel
theorem dX7_correct_4 : decode cX7_correct 4 = .ok (.iload_n 2, 1) := by decide +kernel
theorem dX7_correct_5 : decode cX7_correct 5 = .ok (.invokestatic 149, 3) := by decide +kernel
theorem dX7_correct_8 : decode cX7_correct 8 = .ok (.aload_n 0, 1) := by decide +kernel
theorem dX7_correct_9 : decode cX7_correct 9 = .ok (.getfield 39, 3) := by decide +kernel
theorem dX7_correct_12 : decode cX7_correct 12 = .ok (.iload_n 1, 1) := by decide +kernel
theorem dX7_correct_13 : decode cX7_correct 13 = .ok (.iload_n 2, 1) := by decide +kernel
theorem dX7_correct_14 : decode cX7_correct 14 = .ok (.invokevirtual 167, 3) := by decide +kernel
theorem dX7_correct_17 : decode cX7_correct 17 = .ok (.ifCond .ne 13, 3) := by decide +kernel
theorem dX7_correct_20 : decode cX7_correct 20 = .ok (.new 171, 3) := by decide +kernel
theorem dX7_correct_23 : decode cX7_correct 23 = .ok (.dup, 1) := by decide +kernel
theorem dX7_correct_24 : decode cX7_correct 24 = .ok (.ldc 184, 2) := by decide +kernel
theorem dX7_correct_26 : decode cX7_correct 26 = .ok (.invokespecial 175, 3) := by decide +kernel
theorem dX7_correct_29 : decode cX7_correct 29 = .ok (.athrow, 1) := by decide +kernel
theorem dX7_correct_30 : decode cX7_correct 30 = .ok (.aload_n 0, 1) := by decide +kernel
theorem dX7_correct_31 : decode cX7_correct 31 = .ok (.iload_n 1, 1) := by decide +kernel
theorem dX7_correct_32 : decode cX7_correct 32 = .ok (.iload_n 1, 1) := by decide +kernel
theorem dX7_correct_33 : decode cX7_correct 33 = .ok (.iload_n 2, 1) := by decide +kernel
theorem dX7_correct_34 : decode cX7_correct 34 = .ok (.invokevirtual 152, 3) := by decide +kernel
theorem dX7_correct_37 : decode cX7_correct 37 = .ok (.aload_n 0, 1) := by decide +kernel
theorem dX7_correct_38 : decode cX7_correct 38 = .ok (.getfield 39, 3) := by decide +kernel
theorem dX7_correct_41 : decode cX7_correct 41 = .ok (.iload_n 1, 1) := by decide +kernel
theorem dX7_correct_42 : decode cX7_correct 42 = .ok (.iload_n 2, 1) := by decide +kernel
theorem dX7_correct_43 : decode cX7_correct 43 = .ok (.invokevirtual 186, 3) := by decide +kernel
theorem dX7_correct_46 : decode cX7_correct 46 = .ok (.isub, 1) := by decide +kernel
theorem dX7_correct_47 : decode cX7_correct 47 = .ok (.istore_n 3, 1) := by decide +kernel
theorem dX7_correct_48 : decode cX7_correct 48 = .ok (.iload_n 3, 1) := by decide +kernel
theorem dX7_correct_49 : decode cX7_correct 49 = .ok (.ifCond .eq 21, 3) := by decide +kernel
theorem dX7_correct_52 : decode cX7_correct 52 = .ok (.aload_n 0, 1) := by decide +kernel
theorem dX7_correct_53 : decode cX7_correct 53 = .ok (.getfield 39, 3) := by decide +kernel
theorem dX7_correct_56 : decode cX7_correct 56 = .ok (.new 176, 3) := by decide +kernel
theorem dX7_correct_59 : decode cX7_correct 59 = .ok (.dup, 1) := by decide +kernel
theorem dX7_correct_60 : decode cX7_correct 60 = .ok (.iload_n 1, 1) := by decide +kernel
theorem dX7_correct_61 : decode cX7_correct 61 = .ok (.iload_n 2, 1) := by decide +kernel
theorem dX7_correct_62 : decode cX7_correct 62 = .ok (.iload_n 3, 1) := by decide +kernel
theorem dX7_correct_63 : decode cX7_correct 63 = .ok (.iconst 1, 1) := by decide +kernel
theorem dX7_correct_64 : decode cX7_correct 64 = .ok (.invokespecial 178, 3) := by decide +kernel
theorem dX7_correct_67 : decode cX7_correct 67 = .ok (.invokevirtual 181, 3) := by decide +kernel
theorem dX7_correct_70 : decode cX7_correct 70 = .ok (.iload_n 3, 1) := by decide +kernel
theorem dX7_correct_71 : decode cX7_correct 71 = .ok (.ireturn, 1) := by decide +kernel
set_option maxRecDepth 20000 in
theorem ggX7_line_X7_checkOwner : GoodIn wsX7_line wsX7_checkOwner := goodIn_ca (goodIn_r _ [9, 3, 4, 10, 11, 8, 12] (by decide +kernel) (by decide +kernel)) (goodIn_sub (fun _ h => List.mem_cons_of_mem _ (List.mem_append_right _ h)) (by decide +kernel))
set_option maxRecDepth 20000 in
theorem gX7_line_X7_checkOwner : GoodIn wsX7_line (va_wsS RX7 86 yX7_checkOwner wsX7_checkOwner) := goodIn_app (goodIn_of _ (by decide +kernel)) ggX7_line_X7_checkOwner
set_option maxRecDepth 20000 in
theorem ggX7_line_X1_find : GoodIn wsX7_line wsX1_find := goodIn_r _ [17, 18, 19, 20, 21, 22, 23, 24, 25, 26, 27, 28, 29, 30, 31, 32, 33, 34, 35, 36, 37, 38, 39, 40, 41, 42, 54, 50, 51, 52, 53, 55, 56, 57] (by decide +kernel) (by decide +kernel)
set_option maxRecDepth 20000 in
theorem gX7_line_X1_find : GoodIn wsX7_line (wsV RX7 189 RX1 yX1_find wsX1_find) := goodIn_app (goodIn_of _ (by decide +kernel)) ggX7_line_X1_find
theorem dX7_line_0 : decode cX7_line 0 = .ok (.iload_n 1, 1) := by decide +kernel
theorem dX7_line_1 : decode cX7_line 1 = .ok (.invokestatic 86, 3) := by decide +kernel
theorem dX7_line_4 : decode cX7_line 4 = .ok (.aload_n 0, 1) := by decide +kernel
theorem dX7_line_5 : decode cX7_line 5 = .ok (.getfield 39, 3) := by decide +kernel
theorem dX7_line_8 : decode cX7_line 8 = .ok (.iload_n 1, 1) := by decide +kernel
theorem dX7_line_9 : decode cX7_line 9 = .ok (.iload_n 2, 1) := by decide +kernel
theorem dX7_line_10 : decode cX7_line 10 = .ok (.invokevirtual 189, 3) := by decide +kernel
theorem dX7_line_13 : decode cX7_line 13 = .ok (.astore 4, 2) := by decide +kernel
theorem dX7_line_15 : decode cX7_line 15 = .ok (.aload 4, 2) := by decide +kernel
theorem dX7_line_17 : decode cX7_line 17 = .ok (.ifnonnull 13, 3) := by decide +kernel
theorem dX7_line_20 : decode cX7_line 20 = .ok (.new 193, 3) := by decide +kernel
theorem dX7_line_23 : decode cX7_line 23 = .ok (.dup, 1) := by decide +kernel
theorem dX7_line_24 : decode cX7_line 24 = .ok (.ldc 195, 2) := by decide +kernel
theorem dX7_line_26 : decode cX7_line 26 = .ok (.invokespecial 197, 3) := by decide +kernel
theorem dX7_line_29 : decode cX7_line 29 = .ok (.athrow, 1) := by decide +kernel
theorem dX7_line_30 : decode cX7_line 30 = .ok (.iload_n 3, 1) := by decide +kernel
theorem dX7_line_31 : decode cX7_line 31 = .ok (.tableswitch 51 0 2 #[25, 31, 37], 25) := by decide +kernel
theorem dX7_line_56 : decode cX7_line 56 = .ok (.aload 4, 2) := by decide +kernel
theorem dX7_line_58 : decode cX7_line 58 = .ok (.getfield 198, 3) := by decide +kernel
theorem dX7_line_61 : decode cX7_line 61 = .ok (.ireturn, 1) := by decide +kernel
theorem dX7_line_62 : decode cX7_line 62 = .ok (.aload 4, 2) := by decide +kernel
theorem dX7_line_64 : decode cX7_line 64 = .ok (.getfield 201, 3) := by decide +kernel
theorem dX7_line_67 : decode cX7_line 67 = .ok (.ireturn, 1) := by decide +kernel
theorem dX7_line_68 : decode cX7_line 68 = .ok (.aload 4, 2) := by decide +kernel
theorem dX7_line_70 : decode cX7_line 70 = .ok (.getfield 204, 3) := by decide +kernel
theorem dX7_line_73 : decode cX7_line 73 = .ok (.ifCond .eq 7, 3) := by decide +kernel
theorem dX7_line_76 : decode cX7_line 76 = .ok (.iconst 1, 1) := by decide +kernel
theorem dX7_line_77 : decode cX7_line 77 = .ok (.goto 4, 3) := by decide +kernel
theorem dX7_line_80 : decode cX7_line 80 = .ok (.iconst 0, 1) := by decide +kernel
theorem dX7_line_81 : decode cX7_line 81 = .ok (.ireturn, 1) := by decide +kernel
theorem dX7_line_82 : decode cX7_line 82 = .ok (.new 54, 3) := by decide +kernel
theorem dX7_line_85 : decode cX7_line 85 = .ok (.dup, 1) := by decide +kernel
theorem dX7_line_86 : decode cX7_line 86 = .ok (.ldc 208, 2) := by decide +kernel
theorem dX7_line_88 : decode cX7_line 88 = .ok (.invokespecial 58, 3) := by decide +kernel
theorem dX7_line_91 : decode cX7_line 91 = .ok (.athrow, 1) := by decide +kernel
set_option maxRecDepth 20000 in
theorem ggX7_billed_X7_checkOwner : GoodIn wsX7_billed wsX7_checkOwner := goodIn_ca (goodIn_r _ [5, 6, 7, 8, 9, 4, 10] (by decide +kernel) (by decide +kernel)) (goodIn_sub (fun _ h => List.mem_cons_of_mem _ (List.mem_append_right _ h)) (by decide +kernel))
set_option maxRecDepth 20000 in
theorem gX7_billed_X7_checkOwner : GoodIn wsX7_billed (va_wsS RX7 86 yX7_checkOwner wsX7_checkOwner) := goodIn_app (goodIn_of _ (by decide +kernel)) ggX7_billed_X7_checkOwner
set_option maxRecDepth 20000 in
theorem ggX7_billed_X1_centsOfOwner : GoodIn wsX7_billed wsX1_centsOfOwner := goodIn_r _ [15, 16, 17, 18, 19, 20, 21, 22, 23, 24, 25, 26, 27, 28, 29, 30, 31, 32, 33, 34, 35, 36, 37, 38, 39, 40, 48, 49, 50, 51, 52, 53, 54, 55] (by decide +kernel) (by decide +kernel)
set_option maxRecDepth 20000 in
theorem gX7_billed_X1_centsOfOwner : GoodIn wsX7_billed (wsV RX7 210 RX1 yX1_centsOfOwner wsX1_centsOfOwner) := goodIn_app (goodIn_of _ (by decide +kernel)) ggX7_billed_X1_centsOfOwner
theorem dX7_billed_0 : decode cX7_billed 0 = .ok (.iload_n 1, 1) := by decide +kernel
theorem dX7_billed_1 : decode cX7_billed 1 = .ok (.invokestatic 86, 3) := by decide +kernel
theorem dX7_billed_4 : decode cX7_billed 4 = .ok (.aload_n 0, 1) := by decide +kernel
theorem dX7_billed_5 : decode cX7_billed 5 = .ok (.getfield 39, 3) := by decide +kernel
theorem dX7_billed_8 : decode cX7_billed 8 = .ok (.iload_n 1, 1) := by decide +kernel
theorem dX7_billed_9 : decode cX7_billed 9 = .ok (.invokevirtual 210, 3) := by decide +kernel
theorem dX7_billed_12 : decode cX7_billed 12 = .ok (.ireturn, 1) := by decide +kernel
set_option maxRecDepth 20000 in
theorem ggX7_compare_X7_checkOwner : GoodIn wsX7_compare wsX7_checkOwner := goodIn_ca (goodIn_r _ [4, 5, 6, 7, 8, 3, 9] (by decide +kernel) (by decide +kernel)) (goodIn_sub (fun _ h => List.mem_cons_of_mem _ (List.mem_append_right _ h)) (by decide +kernel))
set_option maxRecDepth 20000 in
theorem gX7_compare_X7_checkOwner : GoodIn wsX7_compare (va_wsS RX7 86 yX7_checkOwner wsX7_checkOwner) := goodIn_app (goodIn_of _ (by decide +kernel)) ggX7_compare_X7_checkOwner
set_option maxRecDepth 20000 in
theorem ggX7_compare_X7_checkMonth : GoodIn wsX7_compare wsX7_checkMonth := goodIn_ca (goodIn_r _ [12, 5, 6, 7, 8, 3, 9] (by decide +kernel) (by decide +kernel)) (goodIn_sub (fun _ h => List.mem_cons_of_mem _ (List.mem_append_right _ h)) (by decide +kernel))
set_option maxRecDepth 20000 in
theorem gX7_compare_X7_checkMonth : GoodIn wsX7_compare (va_wsS RX7 149 yX7_checkMonth wsX7_checkMonth) := goodIn_app (goodIn_of _ (by decide +kernel)) ggX7_compare_X7_checkMonth
set_option maxRecDepth 20000 in
theorem ggX7_compare_X7_sumBy : GoodIn wsX7_compare wsX7_sumBy := goodIn_r _ [16, 17, 18, 19, 20, 21, 22, 23, 24, 3, 25, 26, 27, 28, 29, 30, 31, 32, 33, 34, 35, 36, 37, 38, 39, 40, 41, 42, 43, 44, 45, 46, 47, 48, 49, 50, 51, 52, 53, 54, 55, 56, 57, 58, 59, 60, 61, 62, 63, 64, 65, 66, 67, 68, 69, 70, 71, 72, 73, 74, 75, 76, 77, 78, 79, 80, 81, 82, 83, 84, 8, 9, 85, 86, 87, 88, 89, 90, 91, 92, 93, 94, 95, 96, 97, 98, 99, 100, 101, 102, 103, 104, 105, 106, 107, 108, 109, 7, 110, 111, 112, 113, 114, 115, 116, 117, 118, 119, 120, 121, 122, 123, 124, 125, 126, 127, 128, 129, 130, 131, 132, 133, 134, 135, 136, 137, 138, 139, 140, 141, 142, 143, 144, 145, 146, 147, 148, 149] (by decide +kernel) (by decide +kernel)
set_option maxRecDepth 20000 in
theorem gX7_compare_X7_sumBy : GoodIn wsX7_compare (wsV RX7 152 RX7 yX7_sumBy wsX7_sumBy) := goodIn_app (goodIn_of _ (by decide +kernel)) ggX7_compare_X7_sumBy
theorem dX7_compare_0 : decode cX7_compare 0 = .ok (.iload_n 1, 1) := by decide +kernel
theorem dX7_compare_1 : decode cX7_compare 1 = .ok (.invokestatic 86, 3) := by decide +kernel
theorem dX7_compare_4 : decode cX7_compare 4 = .ok (.iload_n 2, 1) := by decide +kernel
theorem dX7_compare_5 : decode cX7_compare 5 = .ok (.invokestatic 86, 3) := by decide +kernel
theorem dX7_compare_8 : decode cX7_compare 8 = .ok (.iload_n 3, 1) := by decide +kernel
theorem dX7_compare_9 : decode cX7_compare 9 = .ok (.invokestatic 149, 3) := by decide +kernel
theorem dX7_compare_12 : decode cX7_compare 12 = .ok (.aload_n 0, 1) := by decide +kernel
theorem dX7_compare_13 : decode cX7_compare 13 = .ok (.iload_n 2, 1) := by decide +kernel
theorem dX7_compare_14 : decode cX7_compare 14 = .ok (.iload_n 1, 1) := by decide +kernel
theorem dX7_compare_15 : decode cX7_compare 15 = .ok (.iload_n 3, 1) := by decide +kernel
theorem dX7_compare_16 : decode cX7_compare 16 = .ok (.invokevirtual 152, 3) := by decide +kernel
theorem dX7_compare_19 : decode cX7_compare 19 = .ok (.aload_n 0, 1) := by decide +kernel
theorem dX7_compare_20 : decode cX7_compare 20 = .ok (.iload_n 1, 1) := by decide +kernel
theorem dX7_compare_21 : decode cX7_compare 21 = .ok (.iload_n 1, 1) := by decide +kernel
theorem dX7_compare_22 : decode cX7_compare 22 = .ok (.iload_n 3, 1) := by decide +kernel
theorem dX7_compare_23 : decode cX7_compare 23 = .ok (.invokevirtual 152, 3) := by decide +kernel
theorem dX7_compare_26 : decode cX7_compare 26 = .ok (.isub, 1) := by decide +kernel
theorem dX7_compare_27 : decode cX7_compare 27 = .ok (.ireturn, 1) := by decide +kernel
set_option maxRecDepth 20000 in
theorem ggX7_print_X7_checkOwner : GoodIn wsX7_print wsX7_checkOwner := goodIn_ca (goodIn_r _ [7, 8, 9, 10, 11, 6, 12] (by decide +kernel) (by decide +kernel)) (goodIn_sub (fun _ h => List.mem_cons_of_mem _ (List.mem_append_right _ h)) (by decide +kernel))
set_option maxRecDepth 20000 in
theorem gX7_print_X7_checkOwner : GoodIn wsX7_print (va_wsS RX7 86 yX7_checkOwner wsX7_checkOwner) := goodIn_app (goodIn_of _ (by decide +kernel)) ggX7_print_X7_checkOwner
set_option maxRecDepth 20000 in
theorem ggX7_print_X4_clear : GoodIn wsX7_print wsX4_clear := goodIn_r _ [17, 18, 74, 75] (by decide +kernel) (by decide +kernel)
set_option maxRecDepth 20000 in
theorem gX7_print_X4_clear : GoodIn wsX7_print (wsV RX7 213 RX4 yX4_clear wsX4_clear) := goodIn_app (goodIn_of _ (by decide +kernel)) ggX7_print_X4_clear
set_option maxRecDepth 20000 in
theorem ggX7_print_Jx4a65c_size_8abf5 : GoodIn wsX7_print wsJx4a65c_size_8abf5 := goodIn_r _ [23, 24, 76, 77, 78] (by decide +kernel) (by decide +kernel)
set_option maxRecDepth 20000 in
theorem gX7_print_Jx4a65c_size_8abf5 : GoodIn wsX7_print (wsV RX7 95 RJx4a65c yJx4a65c_size_8abf5 wsJx4a65c_size_8abf5) := goodIn_app (goodIn_of _ (by decide +kernel)) ggX7_print_Jx4a65c_size_8abf5
set_option maxRecDepth 20000 in
theorem ggX7_print_Jx4a65c_get_915e3 : GoodIn wsX7_print wsJx4a65c_get_915e3 := goodIn_r _ [28, 24, 29, 30, 31, 32, 33, 34, 35, 36, 37, 38, 39, 22, 40, 41, 76, 77, 78] (by decide +kernel) (by decide +kernel)
set_option maxRecDepth 20000 in
theorem gX7_print_Jx4a65c_get_915e3 : GoodIn wsX7_print (wsV RX7 111 RJx4a65c yJx4a65c_get_915e3 wsJx4a65c_get_915e3) := goodIn_app (goodIn_of _ (by decide +kernel)) ggX7_print_Jx4a65c_get_915e3
set_option maxRecDepth 20000 in
theorem ggX7_print_X4_write : GoodIn wsX7_print wsX4_write := goodIn_r _ [45, 46, 47, 48, 16, 49, 18, 50, 51, 52, 53, 54, 55, 56, 57, 58, 59, 60, 61, 70, 71, 72, 73, 74, 75] (by decide +kernel) (by decide +kernel)
set_option maxRecDepth 20000 in
theorem gX7_print_X4_write : GoodIn wsX7_print (wsV RX7 220 RX4 yX4_write wsX4_write) := goodIn_app (goodIn_of _ (by decide +kernel)) ggX7_print_X4_write
theorem dX7_print_0 : decode cX7_print 0 = .ok (.iload_n 1, 1) := by decide +kernel
theorem dX7_print_1 : decode cX7_print 1 = .ok (.invokestatic 86, 3) := by decide +kernel
theorem dX7_print_4 : decode cX7_print 4 = .ok (.aload_n 0, 1) := by decide +kernel
theorem dX7_print_5 : decode cX7_print 5 = .ok (.getfield 46, 3) := by decide +kernel
theorem dX7_print_8 : decode cX7_print 8 = .ok (.invokevirtual 213, 3) := by decide +kernel
theorem dX7_print_11 : decode cX7_print 11 = .ok (.iconst 0, 1) := by decide +kernel
theorem dX7_print_12 : decode cX7_print 12 = .ok (.istore_n 2, 1) := by decide +kernel
theorem dX7_print_13 : decode cX7_print 13 = .ok (.iload_n 2, 1) := by decide +kernel
theorem dX7_print_14 : decode cX7_print 14 = .ok (.aload_n 0, 1) := by decide +kernel
theorem dX7_print_15 : decode cX7_print 15 = .ok (.getfield 39, 3) := by decide +kernel
theorem dX7_print_18 : decode cX7_print 18 = .ok (.getfield 214, 3) := by decide +kernel
theorem dX7_print_21 : decode cX7_print 21 = .ok (.invokevirtual 95, 3) := by decide +kernel
theorem dX7_print_24 : decode cX7_print 24 = .ok (.if_icmp .ge 40, 3) := by decide +kernel
theorem dX7_print_27 : decode cX7_print 27 = .ok (.aload_n 0, 1) := by decide +kernel
theorem dX7_print_28 : decode cX7_print 28 = .ok (.getfield 39, 3) := by decide +kernel
theorem dX7_print_31 : decode cX7_print 31 = .ok (.getfield 214, 3) := by decide +kernel
theorem dX7_print_34 : decode cX7_print 34 = .ok (.iload_n 2, 1) := by decide +kernel
theorem dX7_print_35 : decode cX7_print 35 = .ok (.invokevirtual 111, 3) := by decide +kernel
theorem dX7_print_38 : decode cX7_print 38 = .ok (.checkcast 176, 3) := by decide +kernel
theorem dX7_print_41 : decode cX7_print 41 = .ok (.astore_n 3, 1) := by decide +kernel
theorem dX7_print_42 : decode cX7_print 42 = .ok (.aload_n 3, 1) := by decide +kernel
theorem dX7_print_43 : decode cX7_print 43 = .ok (.getfield 217, 3) := by decide +kernel
theorem dX7_print_46 : decode cX7_print 46 = .ok (.iload_n 1, 1) := by decide +kernel
theorem dX7_print_47 : decode cX7_print 47 = .ok (.if_icmp .ne 11, 3) := by decide +kernel
theorem dX7_print_50 : decode cX7_print 50 = .ok (.aload_n 0, 1) := by decide +kernel
theorem dX7_print_51 : decode cX7_print 51 = .ok (.getfield 46, 3) := by decide +kernel
theorem dX7_print_54 : decode cX7_print 54 = .ok (.aload_n 3, 1) := by decide +kernel
theorem dX7_print_55 : decode cX7_print 55 = .ok (.invokevirtual 220, 3) := by decide +kernel
theorem dX7_print_58 : decode cX7_print 58 = .ok (.iinc 2 1, 3) := by decide +kernel
theorem dX7_print_61 : decode cX7_print 61 = .ok (.goto (-48), 3) := by decide +kernel
theorem dX7_print_64 : decode cX7_print 64 = .ok (.aload_n 0, 1) := by decide +kernel
theorem dX7_print_65 : decode cX7_print 65 = .ok (.getfield 46, 3) := by decide +kernel
theorem dX7_print_68 : decode cX7_print 68 = .ok (.getfield 223, 3) := by decide +kernel
theorem dX7_print_71 : decode cX7_print 71 = .ok (.ireturn, 1) := by decide +kernel
set_option maxRecDepth 20000 in
theorem ggX7_at_X7_isWithin : GoodIn wsX7_at wsX7_isWithin := goodIn_r _ [8] (by decide +kernel) (by decide +kernel)
set_option maxRecDepth 20000 in
theorem gX7_at_X7_isWithin : GoodIn wsX7_at (va_wsS RX7 50 yX7_isWithin wsX7_isWithin) := goodIn_app (goodIn_of _ (by decide +kernel)) ggX7_at_X7_isWithin
theorem dX7_at_0 : decode cX7_at 0 = .ok (.iload_n 1, 1) := by decide +kernel
theorem dX7_at_1 : decode cX7_at 1 = .ok (.iconst 0, 1) := by decide +kernel
theorem dX7_at_2 : decode cX7_at 2 = .ok (.aload_n 0, 1) := by decide +kernel
theorem dX7_at_3 : decode cX7_at 3 = .ok (.getfield 46, 3) := by decide +kernel
theorem dX7_at_6 : decode cX7_at 6 = .ok (.getfield 223, 3) := by decide +kernel
theorem dX7_at_9 : decode cX7_at 9 = .ok (.iconst 1, 1) := by decide +kernel
theorem dX7_at_10 : decode cX7_at 10 = .ok (.isub, 1) := by decide +kernel
theorem dX7_at_11 : decode cX7_at 11 = .ok (.invokestatic 50, 3) := by decide +kernel
theorem dX7_at_14 : decode cX7_at 14 = .ok (.ifCond .ne 13, 3) := by decide +kernel
theorem dX7_at_17 : decode cX7_at 17 = .ok (.new 224, 3) := by decide +kernel
theorem dX7_at_20 : decode cX7_at 20 = .ok (.dup, 1) := by decide +kernel
theorem dX7_at_21 : decode cX7_at 21 = .ok (.ldc 226, 2) := by decide +kernel
theorem dX7_at_23 : decode cX7_at 23 = .ok (.invokespecial 228, 3) := by decide +kernel
theorem dX7_at_26 : decode cX7_at 26 = .ok (.athrow, 1) := by decide +kernel
theorem dX7_at_27 : decode cX7_at 27 = .ok (.aload_n 0, 1) := by decide +kernel
theorem dX7_at_28 : decode cX7_at 28 = .ok (.getfield 46, 3) := by decide +kernel
theorem dX7_at_31 : decode cX7_at 31 = .ok (.getfield 229, 3) := by decide +kernel
theorem dX7_at_34 : decode cX7_at 34 = .ok (.iload_n 1, 1) := by decide +kernel
theorem dX7_at_35 : decode cX7_at 35 = .ok (.caload, 1) := by decide +kernel
theorem dX7_at_36 : decode cX7_at 36 = .ok (.ireturn, 1) := by decide +kernel
set_option maxRecDepth 20000 in
theorem ggX7_count_Jx4a65c_size_8abf5 : GoodIn wsX7_count wsJx4a65c_size_8abf5 := goodIn_r _ [10, 11, 56, 57, 58] (by decide +kernel) (by decide +kernel)
set_option maxRecDepth 20000 in
theorem gX7_count_Jx4a65c_size_8abf5 : GoodIn wsX7_count (wsV RX7 95 RJx4a65c yJx4a65c_size_8abf5 wsJx4a65c_size_8abf5) := goodIn_app (goodIn_of _ (by decide +kernel)) ggX7_count_Jx4a65c_size_8abf5
set_option maxRecDepth 20000 in
theorem ggX7_count_X7_unitsStillThere : GoodIn wsX7_count wsX7_unitsStillThere := goodIn_r _ [16, 3, 17, 6, 7, 8, 9, 10, 11, 18, 19, 20, 21, 22, 23, 24, 25, 26, 27, 28, 29, 30, 31, 32, 33, 34, 35, 36, 37, 38, 39, 40, 41, 59, 60, 61, 62, 63, 64, 65, 56, 57, 58] (by decide +kernel) (by decide +kernel)
set_option maxRecDepth 20000 in
theorem gX7_count_X7_unitsStillThere : GoodIn wsX7_count (wsV RX7 235 RX7 yX7_unitsStillThere wsX7_unitsStillThere) := goodIn_app (goodIn_of _ (by decide +kernel)) ggX7_count_X7_unitsStillThere
theorem dX7_count_0 : decode cX7_count 0 = .ok (.iload_n 1, 1) := by decide +kernel
theorem dX7_count_1 : decode cX7_count 1 = .ok (.tableswitch 96 0 6 #[43, 51, 59, 67, 72, 80, 88], 43) := by decide +kernel
theorem dX7_count_44 : decode cX7_count 44 = .ok (.aload_n 0, 1) := by decide +kernel
theorem dX7_count_45 : decode cX7_count 45 = .ok (.getfield 10, 3) := by decide +kernel
theorem dX7_count_48 : decode cX7_count 48 = .ok (.getfield 74, 3) := by decide +kernel
theorem dX7_count_51 : decode cX7_count 51 = .ok (.ireturn, 1) := by decide +kernel
theorem dX7_count_52 : decode cX7_count 52 = .ok (.aload_n 0, 1) := by decide +kernel
theorem dX7_count_53 : decode cX7_count 53 = .ok (.getfield 19, 3) := by decide +kernel
theorem dX7_count_56 : decode cX7_count 56 = .ok (.getfield 233, 3) := by decide +kernel
theorem dX7_count_59 : decode cX7_count 59 = .ok (.ireturn, 1) := by decide +kernel
theorem dX7_count_60 : decode cX7_count 60 = .ok (.aload_n 0, 1) := by decide +kernel
theorem dX7_count_61 : decode cX7_count 61 = .ok (.getfield 29, 3) := by decide +kernel
theorem dX7_count_64 : decode cX7_count 64 = .ok (.invokevirtual 95, 3) := by decide +kernel
theorem dX7_count_67 : decode cX7_count 67 = .ok (.ireturn, 1) := by decide +kernel
theorem dX7_count_68 : decode cX7_count 68 = .ok (.aload_n 0, 1) := by decide +kernel
theorem dX7_count_69 : decode cX7_count 69 = .ok (.invokevirtual 235, 3) := by decide +kernel
theorem dX7_count_72 : decode cX7_count 72 = .ok (.ireturn, 1) := by decide +kernel
theorem dX7_count_73 : decode cX7_count 73 = .ok (.aload_n 0, 1) := by decide +kernel
theorem dX7_count_74 : decode cX7_count 74 = .ok (.getfield 33, 3) := by decide +kernel
theorem dX7_count_77 : decode cX7_count 77 = .ok (.invokevirtual 95, 3) := by decide +kernel
theorem dX7_count_80 : decode cX7_count 80 = .ok (.ireturn, 1) := by decide +kernel
theorem dX7_count_81 : decode cX7_count 81 = .ok (.aload_n 0, 1) := by decide +kernel
theorem dX7_count_82 : decode cX7_count 82 = .ok (.getfield 46, 3) := by decide +kernel
theorem dX7_count_85 : decode cX7_count 85 = .ok (.getfield 223, 3) := by decide +kernel
theorem dX7_count_88 : decode cX7_count 88 = .ok (.ireturn, 1) := by decide +kernel
theorem dX7_count_89 : decode cX7_count 89 = .ok (.aload_n 0, 1) := by decide +kernel
theorem dX7_count_90 : decode cX7_count 90 = .ok (.getfield 19, 3) := by decide +kernel
theorem dX7_count_93 : decode cX7_count 93 = .ok (.getfield 238, 3) := by decide +kernel
theorem dX7_count_96 : decode cX7_count 96 = .ok (.ireturn, 1) := by decide +kernel
theorem dX7_count_97 : decode cX7_count 97 = .ok (.iconst (-1), 1) := by decide +kernel
theorem dX7_count_98 : decode cX7_count 98 = .ok (.ireturn, 1) := by decide +kernel
theorem dX7_isWithin_0 : decode cX7_isWithin 0 = .ok (.iload_n 0, 1) := by decide +kernel
theorem dX7_isWithin_1 : decode cX7_isWithin 1 = .ok (.iload_n 1, 1) := by decide +kernel
theorem dX7_isWithin_2 : decode cX7_isWithin 2 = .ok (.if_icmp .lt 12, 3) := by decide +kernel
theorem dX7_isWithin_5 : decode cX7_isWithin 5 = .ok (.iload_n 0, 1) := by decide +kernel
theorem dX7_isWithin_6 : decode cX7_isWithin 6 = .ok (.iload_n 2, 1) := by decide +kernel
theorem dX7_isWithin_7 : decode cX7_isWithin 7 = .ok (.if_icmp .gt 7, 3) := by decide +kernel
theorem dX7_isWithin_10 : decode cX7_isWithin 10 = .ok (.iconst 1, 1) := by decide +kernel
theorem dX7_isWithin_11 : decode cX7_isWithin 11 = .ok (.goto 4, 3) := by decide +kernel
theorem dX7_isWithin_14 : decode cX7_isWithin 14 = .ok (.iconst 0, 1) := by decide +kernel
theorem dX7_isWithin_15 : decode cX7_isWithin 15 = .ok (.ireturn, 1) := by decide +kernel
set_option maxRecDepth 20000 in
theorem ggX7_checkOwner_X7_isWithin : GoodIn wsX7_checkOwner wsX7_isWithin := goodIn_r _ [6] (by decide +kernel) (by decide +kernel)
set_option maxRecDepth 20000 in
theorem gX7_checkOwner_X7_isWithin : GoodIn wsX7_checkOwner (va_wsS RX7 50 yX7_isWithin wsX7_isWithin) := goodIn_app (goodIn_of _ (by decide +kernel)) ggX7_checkOwner_X7_isWithin
theorem dX7_checkOwner_0 : decode cX7_checkOwner 0 = .ok (.iload_n 0, 1) := by decide +kernel
theorem dX7_checkOwner_1 : decode cX7_checkOwner 1 = .ok (.iconst 0, 1) := by decide +kernel
theorem dX7_checkOwner_2 : decode cX7_checkOwner 2 = .ok (.bipush 7, 2) := by decide +kernel
theorem dX7_checkOwner_4 : decode cX7_checkOwner 4 = .ok (.invokestatic 50, 3) := by decide +kernel
theorem dX7_checkOwner_7 : decode cX7_checkOwner 7 = .ok (.ifCond .ne 13, 3) := by decide +kernel
theorem dX7_checkOwner_10 : decode cX7_checkOwner 10 = .ok (.new 54, 3) := by decide +kernel
theorem dX7_checkOwner_13 : decode cX7_checkOwner 13 = .ok (.dup, 1) := by decide +kernel
theorem dX7_checkOwner_14 : decode cX7_checkOwner 14 = .ok (.ldc 241, 2) := by decide +kernel
theorem dX7_checkOwner_16 : decode cX7_checkOwner 16 = .ok (.invokespecial 58, 3) := by decide +kernel
theorem dX7_checkOwner_19 : decode cX7_checkOwner 19 = .ok (.athrow, 1) := by decide +kernel
theorem dX7_checkOwner_20 : decode cX7_checkOwner 20 = .ok (.return_, 1) := by decide +kernel
set_option maxRecDepth 20000 in
theorem ggX7_checkKind_X7_isWithin : GoodIn wsX7_checkKind wsX7_isWithin := goodIn_r _ [6] (by decide +kernel) (by decide +kernel)
set_option maxRecDepth 20000 in
theorem gX7_checkKind_X7_isWithin : GoodIn wsX7_checkKind (va_wsS RX7 50 yX7_isWithin wsX7_isWithin) := goodIn_app (goodIn_of _ (by decide +kernel)) ggX7_checkKind_X7_isWithin
theorem dX7_checkKind_0 : decode cX7_checkKind 0 = .ok (.iload_n 0, 1) := by decide +kernel
theorem dX7_checkKind_1 : decode cX7_checkKind 1 = .ok (.iconst 0, 1) := by decide +kernel
theorem dX7_checkKind_2 : decode cX7_checkKind 2 = .ok (.iconst 4, 1) := by decide +kernel
theorem dX7_checkKind_3 : decode cX7_checkKind 3 = .ok (.invokestatic 50, 3) := by decide +kernel
theorem dX7_checkKind_6 : decode cX7_checkKind 6 = .ok (.ifCond .ne 13, 3) := by decide +kernel
theorem dX7_checkKind_9 : decode cX7_checkKind 9 = .ok (.new 54, 3) := by decide +kernel
theorem dX7_checkKind_12 : decode cX7_checkKind 12 = .ok (.dup, 1) := by decide +kernel
theorem dX7_checkKind_13 : decode cX7_checkKind 13 = .ok (.ldc 243, 2) := by decide +kernel
theorem dX7_checkKind_15 : decode cX7_checkKind 15 = .ok (.invokespecial 58, 3) := by decide +kernel
theorem dX7_checkKind_18 : decode cX7_checkKind 18 = .ok (.athrow, 1) := by decide +kernel
theorem dX7_checkKind_19 : decode cX7_checkKind 19 = .ok (.return_, 1) := by decide +kernel
set_option maxRecDepth 20000 in
theorem ggX7_checkDay_X7_isWithin : GoodIn wsX7_checkDay wsX7_isWithin := goodIn_r _ [6] (by decide +kernel) (by decide +kernel)
set_option maxRecDepth 20000 in
theorem gX7_checkDay_X7_isWithin : GoodIn wsX7_checkDay (va_wsS RX7 50 yX7_isWithin wsX7_isWithin) := goodIn_app (goodIn_of _ (by decide +kernel)) ggX7_checkDay_X7_isWithin
theorem dX7_checkDay_0 : decode cX7_checkDay 0 = .ok (.iload_n 0, 1) := by decide +kernel
theorem dX7_checkDay_1 : decode cX7_checkDay 1 = .ok (.iconst 0, 1) := by decide +kernel
theorem dX7_checkDay_2 : decode cX7_checkDay 2 = .ok (.sipush 3599, 3) := by decide +kernel
theorem dX7_checkDay_5 : decode cX7_checkDay 5 = .ok (.invokestatic 50, 3) := by decide +kernel
theorem dX7_checkDay_8 : decode cX7_checkDay 8 = .ok (.ifCond .ne 13, 3) := by decide +kernel
theorem dX7_checkDay_11 : decode cX7_checkDay 11 = .ok (.new 54, 3) := by decide +kernel
theorem dX7_checkDay_14 : decode cX7_checkDay 14 = .ok (.dup, 1) := by decide +kernel
theorem dX7_checkDay_15 : decode cX7_checkDay 15 = .ok (.ldc 245, 2) := by decide +kernel
theorem dX7_checkDay_17 : decode cX7_checkDay 17 = .ok (.invokespecial 58, 3) := by decide +kernel
theorem dX7_checkDay_20 : decode cX7_checkDay 20 = .ok (.athrow, 1) := by decide +kernel
theorem dX7_checkDay_21 : decode cX7_checkDay 21 = .ok (.return_, 1) := by decide +kernel
set_option maxRecDepth 20000 in
theorem ggX7_checkMonth_X7_isWithin : GoodIn wsX7_checkMonth wsX7_isWithin := goodIn_r _ [6] (by decide +kernel) (by decide +kernel)
set_option maxRecDepth 20000 in
theorem gX7_checkMonth_X7_isWithin : GoodIn wsX7_checkMonth (va_wsS RX7 50 yX7_isWithin wsX7_isWithin) := goodIn_app (goodIn_of _ (by decide +kernel)) ggX7_checkMonth_X7_isWithin
theorem dX7_checkMonth_0 : decode cX7_checkMonth 0 = .ok (.iload_n 0, 1) := by decide +kernel
theorem dX7_checkMonth_1 : decode cX7_checkMonth 1 = .ok (.iconst 0, 1) := by decide +kernel
theorem dX7_checkMonth_2 : decode cX7_checkMonth 2 = .ok (.bipush 119, 2) := by decide +kernel
theorem dX7_checkMonth_4 : decode cX7_checkMonth 4 = .ok (.invokestatic 50, 3) := by decide +kernel
theorem dX7_checkMonth_7 : decode cX7_checkMonth 7 = .ok (.ifCond .ne 13, 3) := by decide +kernel
theorem dX7_checkMonth_10 : decode cX7_checkMonth 10 = .ok (.new 54, 3) := by decide +kernel
theorem dX7_checkMonth_13 : decode cX7_checkMonth 13 = .ok (.dup, 1) := by decide +kernel
theorem dX7_checkMonth_14 : decode cX7_checkMonth 14 = .ok (.ldc 247, 2) := by decide +kernel
theorem dX7_checkMonth_16 : decode cX7_checkMonth 16 = .ok (.invokespecial 58, 3) := by decide +kernel
theorem dX7_checkMonth_19 : decode cX7_checkMonth 19 = .ok (.athrow, 1) := by decide +kernel
theorem dX7_checkMonth_20 : decode cX7_checkMonth 20 = .ok (.return_, 1) := by decide +kernel
set_option maxRecDepth 20000 in
theorem ggX7_checkUnit_Jx4a65c_size_8abf5 : GoodIn wsX7_checkUnit wsJx4a65c_size_8abf5 := goodIn_r _ [8, 9, 21, 22, 23] (by decide +kernel) (by decide +kernel)
set_option maxRecDepth 20000 in
theorem gX7_checkUnit_Jx4a65c_size_8abf5 : GoodIn wsX7_checkUnit (wsV RX7 95 RJx4a65c yJx4a65c_size_8abf5 wsJx4a65c_size_8abf5) := goodIn_app (goodIn_of _ (by decide +kernel)) ggX7_checkUnit_Jx4a65c_size_8abf5
set_option maxRecDepth 20000 in
theorem ggX7_checkUnit_X7_isWithin : GoodIn wsX7_checkUnit wsX7_isWithin := goodIn_r _ [13] (by decide +kernel) (by decide +kernel)
set_option maxRecDepth 20000 in
theorem gX7_checkUnit_X7_isWithin : GoodIn wsX7_checkUnit (va_wsS RX7 50 yX7_isWithin wsX7_isWithin) := goodIn_app (goodIn_of _ (by decide +kernel)) ggX7_checkUnit_X7_isWithin
theorem dX7_checkUnit_0 : decode cX7_checkUnit 0 = .ok (.iload_n 1, 1) := by decide +kernel
theorem dX7_checkUnit_1 : decode cX7_checkUnit 1 = .ok (.iconst 0, 1) := by decide +kernel
theorem dX7_checkUnit_2 : decode cX7_checkUnit 2 = .ok (.aload_n 0, 1) := by decide +kernel
theorem dX7_checkUnit_3 : decode cX7_checkUnit 3 = .ok (.getfield 29, 3) := by decide +kernel
theorem dX7_checkUnit_6 : decode cX7_checkUnit 6 = .ok (.invokevirtual 95, 3) := by decide +kernel
theorem dX7_checkUnit_9 : decode cX7_checkUnit 9 = .ok (.iconst 1, 1) := by decide +kernel
theorem dX7_checkUnit_10 : decode cX7_checkUnit 10 = .ok (.isub, 1) := by decide +kernel
theorem dX7_checkUnit_11 : decode cX7_checkUnit 11 = .ok (.invokestatic 50, 3) := by decide +kernel
theorem dX7_checkUnit_14 : decode cX7_checkUnit 14 = .ok (.ifCond .ne 13, 3) := by decide +kernel
theorem dX7_checkUnit_17 : decode cX7_checkUnit 17 = .ok (.new 193, 3) := by decide +kernel
theorem dX7_checkUnit_20 : decode cX7_checkUnit 20 = .ok (.dup, 1) := by decide +kernel
theorem dX7_checkUnit_21 : decode cX7_checkUnit 21 = .ok (.ldc 249, 2) := by decide +kernel
theorem dX7_checkUnit_23 : decode cX7_checkUnit 23 = .ok (.invokespecial 197, 3) := by decide +kernel
theorem dX7_checkUnit_26 : decode cX7_checkUnit 26 = .ok (.athrow, 1) := by decide +kernel
theorem dX7_checkUnit_27 : decode cX7_checkUnit 27 = .ok (.return_, 1) := by decide +kernel
set_option maxRecDepth 20000 in
theorem ggX7_checkGoesOn_X6_dayToldLast : GoodIn wsX7_checkGoesOn wsX6_dayToldLast := goodIn_r _ [7, 8, 9, 10, 11, 12, 13, 14, 15, 16] (by decide +kernel) (by decide +kernel)
set_option maxRecDepth 20000 in
theorem gX7_checkGoesOn_X6_dayToldLast : GoodIn wsX7_checkGoesOn (wsV RX7 256 RX6 yX6_dayToldLast wsX6_dayToldLast) := goodIn_app (goodIn_of _ (by decide +kernel)) ggX7_checkGoesOn_X6_dayToldLast
theorem dX7_checkGoesOn_0 : decode cX7_checkGoesOn 0 = .ok (.aload_n 0, 1) := by decide +kernel
theorem dX7_checkGoesOn_1 : decode cX7_checkGoesOn 1 = .ok (.getfield 251, 3) := by decide +kernel
theorem dX7_checkGoesOn_4 : decode cX7_checkGoesOn 4 = .ok (.ifCond .eq 13, 3) := by decide +kernel
theorem dX7_checkGoesOn_7 : decode cX7_checkGoesOn 7 = .ok (.new 171, 3) := by decide +kernel
theorem dX7_checkGoesOn_10 : decode cX7_checkGoesOn 10 = .ok (.dup, 1) := by decide +kernel
theorem dX7_checkGoesOn_11 : decode cX7_checkGoesOn 11 = .ok (.ldc 254, 2) := by decide +kernel
theorem dX7_checkGoesOn_13 : decode cX7_checkGoesOn 13 = .ok (.invokespecial 175, 3) := by decide +kernel
theorem dX7_checkGoesOn_16 : decode cX7_checkGoesOn 16 = .ok (.athrow, 1) := by decide +kernel
theorem dX7_checkGoesOn_17 : decode cX7_checkGoesOn 17 = .ok (.iload_n 1, 1) := by decide +kernel
theorem dX7_checkGoesOn_18 : decode cX7_checkGoesOn 18 = .ok (.aload_n 0, 1) := by decide +kernel
theorem dX7_checkGoesOn_19 : decode cX7_checkGoesOn 19 = .ok (.invokevirtual 256, 3) := by decide +kernel
theorem dX7_checkGoesOn_22 : decode cX7_checkGoesOn 22 = .ok (.if_icmp .ge 14, 3) := by decide +kernel
theorem dX7_checkGoesOn_25 : decode cX7_checkGoesOn 25 = .ok (.new 171, 3) := by decide +kernel
theorem dX7_checkGoesOn_28 : decode cX7_checkGoesOn 28 = .ok (.dup, 1) := by decide +kernel
theorem dX7_checkGoesOn_29 : decode cX7_checkGoesOn 29 = .ok (.ldc_w 259, 3) := by decide +kernel
theorem dX7_checkGoesOn_32 : decode cX7_checkGoesOn 32 = .ok (.invokespecial 175, 3) := by decide +kernel
theorem dX7_checkGoesOn_35 : decode cX7_checkGoesOn 35 = .ok (.athrow, 1) := by decide +kernel
theorem dX7_checkGoesOn_36 : decode cX7_checkGoesOn 36 = .ok (.return_, 1) := by decide +kernel
set_option maxRecDepth 20000 in
theorem ggX7_readLines_X5_isRead : GoodIn wsX7_readLines wsX5_isRead := goodIn_r _ [6, 7, 8, 70, 71, 72] (by decide +kernel) (by decide +kernel)
set_option maxRecDepth 20000 in
theorem gX7_readLines_X5_isRead : GoodIn wsX7_readLines (wsV RX7 261 RX5 yX5_isRead wsX5_isRead) := goodIn_app (goodIn_of _ (by decide +kernel)) ggX7_readLines_X5_isRead
set_option maxRecDepth 20000 in
theorem ggX7_readLines_X7_readLine : GoodIn wsX7_readLines wsX7_readLine := goodIn_r _ [13, 1, 14, 15, 16, 17, 5, 18, 7, 19, 20, 21, 22, 8, 23, 24, 12, 25, 26, 27, 28, 29, 30, 31, 32, 33, 34, 35, 36, 37, 38, 39, 40, 41, 42, 43, 44, 45, 46, 47, 48, 49, 50, 51, 52, 53, 54, 55, 56, 57, 58, 59, 60, 61, 62, 63, 64, 65, 66, 67, 68, 69, 70, 71, 72, 73, 74, 75, 76, 77, 78, 79, 80, 81] (by decide +kernel) (by decide +kernel)
set_option maxRecDepth 20000 in
theorem gX7_readLines_X7_readLine : GoodIn wsX7_readLines (wsV RX7 267 RX7 yX7_readLine wsX7_readLine) := goodIn_app (goodIn_of _ (by decide +kernel)) ggX7_readLines_X7_readLine
theorem dX7_readLines_0 : decode cX7_readLines 0 = .ok (.iconst 0, 1) := by decide +kernel
theorem dX7_readLines_1 : decode cX7_readLines 1 = .ok (.istore_n 1, 1) := by decide +kernel
theorem dX7_readLines_2 : decode cX7_readLines 2 = .ok (.iload_n 1, 1) := by decide +kernel
theorem dX7_readLines_3 : decode cX7_readLines 3 = .ok (.bipush 60, 2) := by decide +kernel
theorem dX7_readLines_5 : decode cX7_readLines 5 = .ok (.if_icmp .ge 40, 3) := by decide +kernel
theorem dX7_readLines_8 : decode cX7_readLines 8 = .ok (.aload_n 0, 1) := by decide +kernel
theorem dX7_readLines_9 : decode cX7_readLines 9 = .ok (.getfield 10, 3) := by decide +kernel
theorem dX7_readLines_12 : decode cX7_readLines 12 = .ok (.invokevirtual 261, 3) := by decide +kernel
theorem dX7_readLines_15 : decode cX7_readLines 15 = .ok (.ifCond .eq 5, 3) := by decide +kernel
theorem dX7_readLines_18 : decode cX7_readLines 18 = .ok (.iload_n 1, 1) := by decide +kernel
theorem dX7_readLines_19 : decode cX7_readLines 19 = .ok (.ireturn, 1) := by decide +kernel
theorem dX7_readLines_20 : decode cX7_readLines 20 = .ok (.aload_n 0, 1) := by decide +kernel
theorem dX7_readLines_21 : decode cX7_readLines 21 = .ok (.getfield 10, 3) := by decide +kernel
theorem dX7_readLines_24 : decode cX7_readLines 24 = .ok (.getfield 264, 3) := by decide +kernel
theorem dX7_readLines_27 : decode cX7_readLines 27 = .ok (.istore_n 2, 1) := by decide +kernel
theorem dX7_readLines_28 : decode cX7_readLines 28 = .ok (.aload_n 0, 1) := by decide +kernel
theorem dX7_readLines_29 : decode cX7_readLines 29 = .ok (.invokevirtual 267, 3) := by decide +kernel
theorem dX7_readLines_32 : decode cX7_readLines 32 = .ok (.ifCond .ne 7, 3) := by decide +kernel
theorem dX7_readLines_35 : decode cX7_readLines 35 = .ok (.iconst (-1), 1) := by decide +kernel
theorem dX7_readLines_36 : decode cX7_readLines 36 = .ok (.iload_n 2, 1) := by decide +kernel
theorem dX7_readLines_37 : decode cX7_readLines 37 = .ok (.isub, 1) := by decide +kernel
theorem dX7_readLines_38 : decode cX7_readLines 38 = .ok (.ireturn, 1) := by decide +kernel
theorem dX7_readLines_39 : decode cX7_readLines 39 = .ok (.iinc 1 1, 3) := by decide +kernel
theorem dX7_readLines_42 : decode cX7_readLines 42 = .ok (.goto (-40), 3) := by decide +kernel
theorem dX7_readLines_45 : decode cX7_readLines 45 = .ok (.aload_n 0, 1) := by decide +kernel
theorem dX7_readLines_46 : decode cX7_readLines 46 = .ok (.getfield 10, 3) := by decide +kernel
theorem dX7_readLines_49 : decode cX7_readLines 49 = .ok (.invokevirtual 261, 3) := by decide +kernel
theorem dX7_readLines_52 : decode cX7_readLines 52 = .ok (.ifCond .eq 8, 3) := by decide +kernel
theorem dX7_readLines_55 : decode cX7_readLines 55 = .ok (.bipush 60, 2) := by decide +kernel
theorem dX7_readLines_57 : decode cX7_readLines 57 = .ok (.goto 12, 3) := by decide +kernel
theorem dX7_readLines_60 : decode cX7_readLines 60 = .ok (.iconst (-1), 1) := by decide +kernel
theorem dX7_readLines_61 : decode cX7_readLines 61 = .ok (.aload_n 0, 1) := by decide +kernel
theorem dX7_readLines_62 : decode cX7_readLines 62 = .ok (.getfield 10, 3) := by decide +kernel
theorem dX7_readLines_65 : decode cX7_readLines 65 = .ok (.getfield 264, 3) := by decide +kernel
theorem dX7_readLines_68 : decode cX7_readLines 68 = .ok (.isub, 1) := by decide +kernel
theorem dX7_readLines_69 : decode cX7_readLines 69 = .ok (.ireturn, 1) := by decide +kernel
set_option maxRecDepth 20000 in
theorem ggX7_readLine_X5_takeSign : GoodIn wsX7_readLine wsX5_takeSign := goodIn_r _ [7, 8, 9, 10, 11, 6, 12, 13, 14, 15, 16, 17, 62, 63, 64] (by decide +kernel) (by decide +kernel)
set_option maxRecDepth 20000 in
theorem gX7_readLine_X5_takeSign : GoodIn wsX7_readLine (wsV RX7 270 RX5 yX5_takeSign wsX5_takeSign) := goodIn_app (goodIn_of _ (by decide +kernel)) ggX7_readLine_X5_takeSign
set_option maxRecDepth 20000 in
theorem ggX7_readLine_X5_takeNumber : GoodIn wsX7_readLine wsX5_takeNumber := goodIn_r _ [21, 8, 9, 10, 11, 6, 12, 13, 14, 15, 16, 17, 22, 4, 5, 7, 62, 63, 64] (by decide +kernel) (by decide +kernel)
set_option maxRecDepth 20000 in
theorem gX7_readLine_X5_takeNumber : GoodIn wsX7_readLine (wsV RX7 273 RX5 yX5_takeNumber wsX5_takeNumber) := goodIn_app (goodIn_of _ (by decide +kernel)) ggX7_readLine_X5_takeNumber
set_option maxRecDepth 20000 in
theorem ggX7_readLine_X2_tell : GoodIn wsX7_readLine wsX2_tell := goodIn_r _ [27, 28, 29, 15, 16, 17, 30, 31, 32, 26, 33, 34, 35, 36, 37, 38, 39, 40, 41, 42, 43, 44, 45, 46, 47, 48, 49, 50, 51, 52, 53, 54, 65, 66, 67, 68, 69, 70, 71, 72, 73] (by decide +kernel) (by decide +kernel)
set_option maxRecDepth 20000 in
theorem gX7_readLine_X2_tell : GoodIn wsX7_readLine (wsV RX7 276 RX2 yX2_tell wsX2_tell) := goodIn_app (goodIn_of _ (by decide +kernel)) ggX7_readLine_X2_tell
theorem dX7_readLine_0 : decode cX7_readLine 0 = .ok (.aload_n 0, 1) := by decide +kernel
theorem dX7_readLine_1 : decode cX7_readLine 1 = .ok (.getfield 10, 3) := by decide +kernel
theorem dX7_readLine_4 : decode cX7_readLine 4 = .ok (.invokevirtual 270, 3) := by decide +kernel
theorem dX7_readLine_7 : decode cX7_readLine 7 = .ok (.istore_n 1, 1) := by decide +kernel
theorem dX7_readLine_8 : decode cX7_readLine 8 = .ok (.aload_n 0, 1) := by decide +kernel
theorem dX7_readLine_9 : decode cX7_readLine 9 = .ok (.getfield 10, 3) := by decide +kernel
theorem dX7_readLine_12 : decode cX7_readLine 12 = .ok (.invokevirtual 273, 3) := by decide +kernel
theorem dX7_readLine_15 : decode cX7_readLine 15 = .ok (.istore_n 2, 1) := by decide +kernel
theorem dX7_readLine_16 : decode cX7_readLine 16 = .ok (.aload_n 0, 1) := by decide +kernel
theorem dX7_readLine_17 : decode cX7_readLine 17 = .ok (.getfield 10, 3) := by decide +kernel
theorem dX7_readLine_20 : decode cX7_readLine 20 = .ok (.invokevirtual 273, 3) := by decide +kernel
theorem dX7_readLine_23 : decode cX7_readLine 23 = .ok (.istore_n 3, 1) := by decide +kernel
theorem dX7_readLine_24 : decode cX7_readLine 24 = .ok (.iload_n 1, 1) := by decide +kernel
theorem dX7_readLine_25 : decode cX7_readLine 25 = .ok (.bipush 77, 2) := by decide +kernel
theorem dX7_readLine_27 : decode cX7_readLine 27 = .ok (.if_icmp .ne 7, 3) := by decide +kernel
theorem dX7_readLine_30 : decode cX7_readLine 30 = .ok (.iconst (-1), 1) := by decide +kernel
theorem dX7_readLine_31 : decode cX7_readLine 31 = .ok (.goto 10, 3) := by decide +kernel
theorem dX7_readLine_34 : decode cX7_readLine 34 = .ok (.aload_n 0, 1) := by decide +kernel
theorem dX7_readLine_35 : decode cX7_readLine 35 = .ok (.getfield 10, 3) := by decide +kernel
theorem dX7_readLine_38 : decode cX7_readLine 38 = .ok (.invokevirtual 273, 3) := by decide +kernel
theorem dX7_readLine_41 : decode cX7_readLine 41 = .ok (.istore 4, 2) := by decide +kernel
theorem dX7_readLine_43 : decode cX7_readLine 43 = .ok (.aload_n 0, 1) := by decide +kernel
theorem dX7_readLine_44 : decode cX7_readLine 44 = .ok (.getfield 10, 3) := by decide +kernel
theorem dX7_readLine_47 : decode cX7_readLine 47 = .ok (.invokevirtual 270, 3) := by decide +kernel
theorem dX7_readLine_50 : decode cX7_readLine 50 = .ok (.bipush 10, 2) := by decide +kernel
theorem dX7_readLine_52 : decode cX7_readLine 52 = .ok (.if_icmp .ne 22, 3) := by decide +kernel
theorem dX7_readLine_55 : decode cX7_readLine 55 = .ok (.aload_n 0, 1) := by decide +kernel
theorem dX7_readLine_56 : decode cX7_readLine 56 = .ok (.getfield 23, 3) := by decide +kernel
theorem dX7_readLine_59 : decode cX7_readLine 59 = .ok (.iload_n 1, 1) := by decide +kernel
theorem dX7_readLine_60 : decode cX7_readLine 60 = .ok (.iload_n 2, 1) := by decide +kernel
theorem dX7_readLine_61 : decode cX7_readLine 61 = .ok (.iload_n 3, 1) := by decide +kernel
theorem dX7_readLine_62 : decode cX7_readLine 62 = .ok (.iload 4, 2) := by decide +kernel
theorem dX7_readLine_64 : decode cX7_readLine 64 = .ok (.invokevirtual 276, 3) := by decide +kernel
theorem dX7_readLine_67 : decode cX7_readLine 67 = .ok (.ifCond .eq 7, 3) := by decide +kernel
theorem dX7_readLine_70 : decode cX7_readLine 70 = .ok (.iconst 1, 1) := by decide +kernel
theorem dX7_readLine_71 : decode cX7_readLine 71 = .ok (.goto 4, 3) := by decide +kernel
theorem dX7_readLine_74 : decode cX7_readLine 74 = .ok (.iconst 0, 1) := by decide +kernel
theorem dX7_readLine_75 : decode cX7_readLine 75 = .ok (.ireturn, 1) := by decide +kernel
set_option maxRecDepth 20000 in
theorem ggX7_movesOf_Jx4a65c_size_8abf5 : GoodIn wsX7_movesOf wsJx4a65c_size_8abf5 := goodIn_r _ [7, 8, 37, 38, 39] (by decide +kernel) (by decide +kernel)
set_option maxRecDepth 20000 in
theorem gX7_movesOf_Jx4a65c_size_8abf5 : GoodIn wsX7_movesOf (wsV RX7 95 RJx4a65c yJx4a65c_size_8abf5 wsJx4a65c_size_8abf5) := goodIn_app (goodIn_of _ (by decide +kernel)) ggX7_movesOf_Jx4a65c_size_8abf5
set_option maxRecDepth 20000 in
theorem ggX7_movesOf_Jx4a65c_get_915e3 : GoodIn wsX7_movesOf wsJx4a65c_get_915e3 := goodIn_r _ [12, 8, 13, 14, 15, 16, 17, 18, 19, 20, 21, 22, 23, 6, 24, 25, 37, 38, 39] (by decide +kernel) (by decide +kernel)
set_option maxRecDepth 20000 in
theorem gX7_movesOf_Jx4a65c_get_915e3 : GoodIn wsX7_movesOf (wsV RX7 111 RJx4a65c yJx4a65c_get_915e3 wsJx4a65c_get_915e3) := goodIn_app (goodIn_of _ (by decide +kernel)) ggX7_movesOf_Jx4a65c_get_915e3
theorem dX7_movesOf_0 : decode cX7_movesOf 0 = .ok (.iconst 0, 1) := by decide +kernel
theorem dX7_movesOf_1 : decode cX7_movesOf 1 = .ok (.istore_n 2, 1) := by decide +kernel
theorem dX7_movesOf_2 : decode cX7_movesOf 2 = .ok (.iconst 0, 1) := by decide +kernel
theorem dX7_movesOf_3 : decode cX7_movesOf 3 = .ok (.istore_n 3, 1) := by decide +kernel
theorem dX7_movesOf_4 : decode cX7_movesOf 4 = .ok (.iload_n 3, 1) := by decide +kernel
theorem dX7_movesOf_5 : decode cX7_movesOf 5 = .ok (.aload_n 0, 1) := by decide +kernel
theorem dX7_movesOf_6 : decode cX7_movesOf 6 = .ok (.getfield 33, 3) := by decide +kernel
theorem dX7_movesOf_9 : decode cX7_movesOf 9 = .ok (.invokevirtual 95, 3) := by decide +kernel
theorem dX7_movesOf_12 : decode cX7_movesOf 12 = .ok (.if_icmp .ge 30, 3) := by decide +kernel
theorem dX7_movesOf_15 : decode cX7_movesOf 15 = .ok (.aload_n 0, 1) := by decide +kernel
theorem dX7_movesOf_16 : decode cX7_movesOf 16 = .ok (.getfield 33, 3) := by decide +kernel
theorem dX7_movesOf_19 : decode cX7_movesOf 19 = .ok (.iload_n 3, 1) := by decide +kernel
theorem dX7_movesOf_20 : decode cX7_movesOf 20 = .ok (.invokevirtual 111, 3) := by decide +kernel
theorem dX7_movesOf_23 : decode cX7_movesOf 23 = .ok (.checkcast 140, 3) := by decide +kernel
theorem dX7_movesOf_26 : decode cX7_movesOf 26 = .ok (.getfield 279, 3) := by decide +kernel
theorem dX7_movesOf_29 : decode cX7_movesOf 29 = .ok (.iload_n 1, 1) := by decide +kernel
theorem dX7_movesOf_30 : decode cX7_movesOf 30 = .ok (.if_icmp .ne 6, 3) := by decide +kernel
theorem dX7_movesOf_33 : decode cX7_movesOf 33 = .ok (.iinc 2 1, 3) := by decide +kernel
theorem dX7_movesOf_36 : decode cX7_movesOf 36 = .ok (.iinc 3 1, 3) := by decide +kernel
theorem dX7_movesOf_39 : decode cX7_movesOf 39 = .ok (.goto (-35), 3) := by decide +kernel
theorem dX7_movesOf_42 : decode cX7_movesOf 42 = .ok (.iload_n 2, 1) := by decide +kernel
theorem dX7_movesOf_43 : decode cX7_movesOf 43 = .ok (.ireturn, 1) := by decide +kernel
set_option maxRecDepth 20000 in
theorem ggX7_unitsStillThere_Jx4a65c_size_8abf5 : GoodIn wsX7_unitsStillThere wsJx4a65c_size_8abf5 := goodIn_r _ [7, 8, 40, 41, 42] (by decide +kernel) (by decide +kernel)
set_option maxRecDepth 20000 in
theorem gX7_unitsStillThere_Jx4a65c_size_8abf5 : GoodIn wsX7_unitsStillThere (wsV RX7 95 RJx4a65c yJx4a65c_size_8abf5 wsJx4a65c_size_8abf5) := goodIn_app (goodIn_of _ (by decide +kernel)) ggX7_unitsStillThere_Jx4a65c_size_8abf5
set_option maxRecDepth 20000 in
theorem ggX7_unitsStillThere_Jx4a65c_get_915e3 : GoodIn wsX7_unitsStillThere wsJx4a65c_get_915e3 := goodIn_r _ [12, 8, 13, 14, 15, 16, 17, 18, 19, 20, 21, 22, 23, 6, 24, 25, 40, 41, 42] (by decide +kernel) (by decide +kernel)
set_option maxRecDepth 20000 in
theorem gX7_unitsStillThere_Jx4a65c_get_915e3 : GoodIn wsX7_unitsStillThere (wsV RX7 111 RJx4a65c yJx4a65c_get_915e3 wsJx4a65c_get_915e3) := goodIn_app (goodIn_of _ (by decide +kernel)) ggX7_unitsStillThere_Jx4a65c_get_915e3
theorem dX7_unitsStillThere_0 : decode cX7_unitsStillThere 0 = .ok (.iconst 0, 1) := by decide +kernel
theorem dX7_unitsStillThere_1 : decode cX7_unitsStillThere 1 = .ok (.istore_n 1, 1) := by decide +kernel
theorem dX7_unitsStillThere_2 : decode cX7_unitsStillThere 2 = .ok (.iconst 0, 1) := by decide +kernel
theorem dX7_unitsStillThere_3 : decode cX7_unitsStillThere 3 = .ok (.istore_n 2, 1) := by decide +kernel
theorem dX7_unitsStillThere_4 : decode cX7_unitsStillThere 4 = .ok (.iload_n 2, 1) := by decide +kernel
theorem dX7_unitsStillThere_5 : decode cX7_unitsStillThere 5 = .ok (.aload_n 0, 1) := by decide +kernel
theorem dX7_unitsStillThere_6 : decode cX7_unitsStillThere 6 = .ok (.getfield 29, 3) := by decide +kernel
theorem dX7_unitsStillThere_9 : decode cX7_unitsStillThere 9 = .ok (.invokevirtual 95, 3) := by decide +kernel
theorem dX7_unitsStillThere_12 : decode cX7_unitsStillThere 12 = .ok (.if_icmp .ge 29, 3) := by decide +kernel
theorem dX7_unitsStillThere_15 : decode cX7_unitsStillThere 15 = .ok (.aload_n 0, 1) := by decide +kernel
theorem dX7_unitsStillThere_16 : decode cX7_unitsStillThere 16 = .ok (.getfield 29, 3) := by decide +kernel
theorem dX7_unitsStillThere_19 : decode cX7_unitsStillThere 19 = .ok (.iload_n 2, 1) := by decide +kernel
theorem dX7_unitsStillThere_20 : decode cX7_unitsStillThere 20 = .ok (.invokevirtual 111, 3) := by decide +kernel
theorem dX7_unitsStillThere_23 : decode cX7_unitsStillThere 23 = .ok (.checkcast 100, 3) := by decide +kernel
theorem dX7_unitsStillThere_26 : decode cX7_unitsStillThere 26 = .ok (.getfield 251, 3) := by decide +kernel
theorem dX7_unitsStillThere_29 : decode cX7_unitsStillThere 29 = .ok (.ifCond .ne 6, 3) := by decide +kernel
theorem dX7_unitsStillThere_32 : decode cX7_unitsStillThere 32 = .ok (.iinc 1 1, 3) := by decide +kernel
theorem dX7_unitsStillThere_35 : decode cX7_unitsStillThere 35 = .ok (.iinc 2 1, 3) := by decide +kernel
theorem dX7_unitsStillThere_38 : decode cX7_unitsStillThere 38 = .ok (.goto (-34), 3) := by decide +kernel
theorem dX7_unitsStillThere_41 : decode cX7_unitsStillThere 41 = .ok (.iload_n 1, 1) := by decide +kernel
theorem dX7_unitsStillThere_42 : decode cX7_unitsStillThere 42 = .ok (.ireturn, 1) := by decide +kernel
set_option maxRecDepth 20000 in
theorem ggX7_sumBy_X7_storageBy : GoodIn wsX7_sumBy wsX7_storageBy := goodIn_r _ [10, 11, 12, 1, 13, 14, 15, 16, 17, 18, 19, 20, 21, 22, 23, 24, 25, 26, 27, 28, 29, 30, 31, 32, 33, 34, 35, 36, 37, 38, 9, 39, 2, 3, 4, 5, 40, 41, 42, 43, 44, 45, 46, 47, 48, 49, 50, 51, 52, 53, 54, 55, 56, 57, 58, 59, 60, 61, 62, 63, 64, 65, 66, 67, 68, 69, 70, 71, 72, 73, 74, 75, 76, 77, 78, 79, 80, 81, 82, 83, 84, 85, 86, 87, 88, 89, 90, 108, 109, 110, 111, 112, 113, 114, 115, 116, 117, 118, 119, 120, 121, 122, 123, 124, 125, 126, 127, 128, 129, 130, 131, 132, 133] (by decide +kernel) (by decide +kernel)
set_option maxRecDepth 20000 in
theorem gX7_sumBy_X7_storageBy : GoodIn wsX7_sumBy (wsV RX7 164 RX7 yX7_storageBy wsX7_storageBy) := goodIn_app (goodIn_of _ (by decide +kernel)) ggX7_sumBy_X7_storageBy
set_option maxRecDepth 20000 in
theorem ggX7_sumBy_X7_handlingBy : GoodIn wsX7_sumBy wsX7_handlingBy := goodIn_r _ [94, 95, 96, 1, 13, 14, 15, 16, 17, 18, 19, 20, 21, 22, 23, 24, 25, 26, 27, 28, 29, 30, 31, 32, 33, 34, 35, 43, 44, 9, 45, 46, 47, 48, 97, 70, 71, 98, 99, 100, 61, 101, 102, 64, 65, 66, 67, 68, 69, 108, 109, 110, 111, 112, 113, 114, 134, 135, 136, 137, 122, 123, 124, 125, 126, 127, 128, 129, 130, 131, 132, 133] (by decide +kernel) (by decide +kernel)
set_option maxRecDepth 20000 in
theorem gX7_sumBy_X7_handlingBy : GoodIn wsX7_sumBy (wsV RX7 280 RX7 yX7_handlingBy wsX7_handlingBy) := goodIn_app (goodIn_of _ (by decide +kernel)) ggX7_sumBy_X7_handlingBy
set_option maxRecDepth 20000 in
theorem ggX7_sumBy_X2_minimumOf : GoodIn wsX7_sumBy wsX2_minimumOf := goodIn_r _ [106, 107, 67, 68, 61, 69, 70, 9, 71, 125, 126, 127, 128, 129, 130, 131, 132, 133] (by decide +kernel) (by decide +kernel)
set_option maxRecDepth 20000 in
theorem gX7_sumBy_X2_minimumOf : GoodIn wsX7_sumBy (wsV RX7 283 RX2 yX2_minimumOf wsX2_minimumOf) := goodIn_app (goodIn_of _ (by decide +kernel)) ggX7_sumBy_X2_minimumOf
theorem dX7_sumBy_0 : decode cX7_sumBy 0 = .ok (.aload_n 0, 1) := by decide +kernel
theorem dX7_sumBy_1 : decode cX7_sumBy 1 = .ok (.iload_n 1, 1) := by decide +kernel
theorem dX7_sumBy_2 : decode cX7_sumBy 2 = .ok (.iload_n 2, 1) := by decide +kernel
theorem dX7_sumBy_3 : decode cX7_sumBy 3 = .ok (.iload_n 3, 1) := by decide +kernel
theorem dX7_sumBy_4 : decode cX7_sumBy 4 = .ok (.invokevirtual 164, 3) := by decide +kernel
theorem dX7_sumBy_7 : decode cX7_sumBy 7 = .ok (.aload_n 0, 1) := by decide +kernel
theorem dX7_sumBy_8 : decode cX7_sumBy 8 = .ok (.iload_n 1, 1) := by decide +kernel
theorem dX7_sumBy_9 : decode cX7_sumBy 9 = .ok (.iload_n 2, 1) := by decide +kernel
theorem dX7_sumBy_10 : decode cX7_sumBy 10 = .ok (.iload_n 3, 1) := by decide +kernel
theorem dX7_sumBy_11 : decode cX7_sumBy 11 = .ok (.invokevirtual 280, 3) := by decide +kernel
theorem dX7_sumBy_14 : decode cX7_sumBy 14 = .ok (.iadd, 1) := by decide +kernel
theorem dX7_sumBy_15 : decode cX7_sumBy 15 = .ok (.istore 4, 2) := by decide +kernel
theorem dX7_sumBy_17 : decode cX7_sumBy 17 = .ok (.iload 4, 2) := by decide +kernel
theorem dX7_sumBy_19 : decode cX7_sumBy 19 = .ok (.aload_n 0, 1) := by decide +kernel
theorem dX7_sumBy_20 : decode cX7_sumBy 20 = .ok (.getfield 19, 3) := by decide +kernel
theorem dX7_sumBy_23 : decode cX7_sumBy 23 = .ok (.iload_n 1, 1) := by decide +kernel
theorem dX7_sumBy_24 : decode cX7_sumBy 24 = .ok (.invokevirtual 283, 3) := by decide +kernel
theorem dX7_sumBy_27 : decode cX7_sumBy 27 = .ok (.invokestatic 286, 3) := by decide +kernel
theorem dX7_sumBy_30 : decode cX7_sumBy 30 = .ok (.ireturn, 1) := by decide +kernel
set_option maxRecDepth 20000 in
theorem ggX7_storageBy_Jx4a65c_size_8abf5 : GoodIn wsX7_storageBy wsJx4a65c_size_8abf5 := goodIn_r _ [8, 9, 101, 102, 103] (by decide +kernel) (by decide +kernel)
set_option maxRecDepth 20000 in
theorem gX7_storageBy_Jx4a65c_size_8abf5 : GoodIn wsX7_storageBy (wsV RX7 95 RJx4a65c yJx4a65c_size_8abf5 wsJx4a65c_size_8abf5) := goodIn_app (goodIn_of _ (by decide +kernel)) ggX7_storageBy_Jx4a65c_size_8abf5
set_option maxRecDepth 20000 in
theorem ggX7_storageBy_Jx4a65c_get_915e3 : GoodIn wsX7_storageBy wsJx4a65c_get_915e3 := goodIn_r _ [13, 9, 14, 15, 16, 17, 18, 19, 20, 21, 22, 23, 24, 7, 25, 26, 101, 102, 103] (by decide +kernel) (by decide +kernel)
set_option maxRecDepth 20000 in
theorem gX7_storageBy_Jx4a65c_get_915e3 : GoodIn wsX7_storageBy (wsV RX7 111 RJx4a65c yJx4a65c_get_915e3 wsJx4a65c_get_915e3) := goodIn_app (goodIn_of _ (by decide +kernel)) ggX7_storageBy_Jx4a65c_get_915e3
set_option maxRecDepth 20000 in
theorem ggX7_storageBy_X7_storageOfUnit : GoodIn wsX7_storageBy wsX7_storageOfUnit := goodIn_r _ [31, 32, 33, 34, 35, 36, 37, 38, 3, 39, 40, 30, 41, 42, 43, 44, 45, 46, 47, 48, 49, 50, 51, 52, 53, 54, 55, 56, 57, 58, 59, 60, 61, 62, 63, 64, 65, 66, 67, 94, 95, 96, 97, 98, 99, 100, 87, 88, 89, 90, 91, 92, 93, 104, 105, 106, 107, 108, 109, 110, 111, 112] (by decide +kernel) (by decide +kernel)
set_option maxRecDepth 20000 in
theorem gX7_storageBy_X7_storageOfUnit : GoodIn wsX7_storageBy (wsV RX7 292 RX7 yX7_storageOfUnit wsX7_storageOfUnit) := goodIn_app (goodIn_of _ (by decide +kernel)) ggX7_storageBy_X7_storageOfUnit
set_option maxRecDepth 20000 in
theorem ggX7_storageBy_X7_unitDays : GoodIn wsX7_storageBy wsX7_unitDays := goodIn_r _ [71, 1, 2, 4, 5, 6, 7, 8, 9, 10, 11, 12, 13, 14, 15, 16, 17, 18, 19, 20, 21, 22, 23, 24, 25, 26, 39, 40, 30, 41, 42, 43, 44, 72, 73, 74, 48, 75, 76, 77, 37, 34, 38, 78, 53, 33, 35, 87, 88, 89, 90, 91, 92, 93, 94, 95, 96, 97, 98, 99, 100, 101, 102, 103] (by decide +kernel) (by decide +kernel)
set_option maxRecDepth 20000 in
theorem gX7_storageBy_X7_unitDays : GoodIn wsX7_storageBy (wsV RX7 156 RX7 yX7_unitDays wsX7_unitDays) := goodIn_app (goodIn_of _ (by decide +kernel)) ggX7_storageBy_X7_unitDays
set_option maxRecDepth 20000 in
theorem ggX7_storageBy_X2_percentFor : GoodIn wsX7_storageBy wsX2_percentFor := goodIn_r _ [82, 83, 84, 85, 86, 66, 30, 67, 104, 105, 106, 107, 108, 109, 110, 111, 112] (by decide +kernel) (by decide +kernel)
set_option maxRecDepth 20000 in
theorem gX7_storageBy_X2_percentFor : GoodIn wsX7_storageBy (wsV RX7 296 RX2 yX2_percentFor wsX2_percentFor) := goodIn_app (goodIn_of _ (by decide +kernel)) ggX7_storageBy_X2_percentFor
theorem dX7_storageBy_0 : decode cX7_storageBy 0 = .ok (.iconst 0, 1) := by decide +kernel
theorem dX7_storageBy_1 : decode cX7_storageBy 1 = .ok (.istore 4, 2) := by decide +kernel
theorem dX7_storageBy_3 : decode cX7_storageBy 3 = .ok (.iconst 0, 1) := by decide +kernel
theorem dX7_storageBy_4 : decode cX7_storageBy 4 = .ok (.istore 5, 2) := by decide +kernel
theorem dX7_storageBy_6 : decode cX7_storageBy 6 = .ok (.iload 5, 2) := by decide +kernel
theorem dX7_storageBy_8 : decode cX7_storageBy 8 = .ok (.aload_n 0, 1) := by decide +kernel
theorem dX7_storageBy_9 : decode cX7_storageBy 9 = .ok (.getfield 29, 3) := by decide +kernel
theorem dX7_storageBy_12 : decode cX7_storageBy 12 = .ok (.invokevirtual 95, 3) := by decide +kernel
theorem dX7_storageBy_15 : decode cX7_storageBy 15 = .ok (.if_icmp .ge 45, 3) := by decide +kernel
theorem dX7_storageBy_18 : decode cX7_storageBy 18 = .ok (.aload_n 0, 1) := by decide +kernel
theorem dX7_storageBy_19 : decode cX7_storageBy 19 = .ok (.getfield 29, 3) := by decide +kernel
theorem dX7_storageBy_22 : decode cX7_storageBy 22 = .ok (.iload 5, 2) := by decide +kernel
theorem dX7_storageBy_24 : decode cX7_storageBy 24 = .ok (.invokevirtual 111, 3) := by decide +kernel
theorem dX7_storageBy_27 : decode cX7_storageBy 27 = .ok (.checkcast 100, 3) := by decide +kernel
theorem dX7_storageBy_30 : decode cX7_storageBy 30 = .ok (.astore 6, 2) := by decide +kernel
theorem dX7_storageBy_32 : decode cX7_storageBy 32 = .ok (.aload 6, 2) := by decide +kernel
theorem dX7_storageBy_34 : decode cX7_storageBy 34 = .ok (.getfield 291, 3) := by decide +kernel
theorem dX7_storageBy_37 : decode cX7_storageBy 37 = .ok (.iload_n 2, 1) := by decide +kernel
theorem dX7_storageBy_38 : decode cX7_storageBy 38 = .ok (.if_icmp .ne 16, 3) := by decide +kernel
theorem dX7_storageBy_41 : decode cX7_storageBy 41 = .ok (.iload 4, 2) := by decide +kernel
theorem dX7_storageBy_43 : decode cX7_storageBy 43 = .ok (.aload_n 0, 1) := by decide +kernel
theorem dX7_storageBy_44 : decode cX7_storageBy 44 = .ok (.iload_n 1, 1) := by decide +kernel
theorem dX7_storageBy_45 : decode cX7_storageBy 45 = .ok (.aload 6, 2) := by decide +kernel
theorem dX7_storageBy_47 : decode cX7_storageBy 47 = .ok (.iload_n 3, 1) := by decide +kernel
theorem dX7_storageBy_48 : decode cX7_storageBy 48 = .ok (.invokevirtual 292, 3) := by decide +kernel
theorem dX7_storageBy_51 : decode cX7_storageBy 51 = .ok (.iadd, 1) := by decide +kernel
theorem dX7_storageBy_52 : decode cX7_storageBy 52 = .ok (.istore 4, 2) := by decide +kernel
theorem dX7_storageBy_54 : decode cX7_storageBy 54 = .ok (.iinc 5 1, 3) := by decide +kernel
theorem dX7_storageBy_57 : decode cX7_storageBy 57 = .ok (.goto (-51), 3) := by decide +kernel
theorem dX7_storageBy_60 : decode cX7_storageBy 60 = .ok (.aload_n 0, 1) := by decide +kernel
theorem dX7_storageBy_61 : decode cX7_storageBy 61 = .ok (.getfield 19, 3) := by decide +kernel
theorem dX7_storageBy_64 : decode cX7_storageBy 64 = .ok (.iload_n 1, 1) := by decide +kernel
theorem dX7_storageBy_65 : decode cX7_storageBy 65 = .ok (.aload_n 0, 1) := by decide +kernel
theorem dX7_storageBy_66 : decode cX7_storageBy 66 = .ok (.iload_n 2, 1) := by decide +kernel
theorem dX7_storageBy_67 : decode cX7_storageBy 67 = .ok (.iload_n 3, 1) := by decide +kernel
theorem dX7_storageBy_68 : decode cX7_storageBy 68 = .ok (.invokevirtual 156, 3) := by decide +kernel
theorem dX7_storageBy_71 : decode cX7_storageBy 71 = .ok (.invokevirtual 296, 3) := by decide +kernel
theorem dX7_storageBy_74 : decode cX7_storageBy 74 = .ok (.istore 5, 2) := by decide +kernel
theorem dX7_storageBy_76 : decode cX7_storageBy 76 = .ok (.iload 4, 2) := by decide +kernel
theorem dX7_storageBy_78 : decode cX7_storageBy 78 = .ok (.iload 4, 2) := by decide +kernel
theorem dX7_storageBy_80 : decode cX7_storageBy 80 = .ok (.iload 5, 2) := by decide +kernel
theorem dX7_storageBy_82 : decode cX7_storageBy 82 = .ok (.imul, 1) := by decide +kernel
theorem dX7_storageBy_83 : decode cX7_storageBy 83 = .ok (.bipush 100, 2) := by decide +kernel
theorem dX7_storageBy_85 : decode cX7_storageBy 85 = .ok (.idiv, 1) := by decide +kernel
theorem dX7_storageBy_86 : decode cX7_storageBy 86 = .ok (.isub, 1) := by decide +kernel
theorem dX7_storageBy_87 : decode cX7_storageBy 87 = .ok (.ireturn, 1) := by decide +kernel
set_option maxRecDepth 20000 in
theorem ggX7_storageOfUnit_X7_firstDayOf : GoodIn wsX7_storageOfUnit wsX7_firstDayOf := goodIn_r _ [12] (by decide +kernel) (by decide +kernel)
set_option maxRecDepth 20000 in
theorem gX7_storageOfUnit_X7_firstDayOf : GoodIn wsX7_storageOfUnit (va_wsS RX7 299 yX7_firstDayOf wsX7_firstDayOf) := goodIn_app (goodIn_of _ (by decide +kernel)) ggX7_storageOfUnit_X7_firstDayOf
set_option maxRecDepth 20000 in
theorem ggX7_storageOfUnit_X7_lastDayOf : GoodIn wsX7_storageOfUnit wsX7_lastDayOf := goodIn_r _ [15] (by decide +kernel) (by decide +kernel)
set_option maxRecDepth 20000 in
theorem gX7_storageOfUnit_X7_lastDayOf : GoodIn wsX7_storageOfUnit (va_wsS RX7 305 yX7_lastDayOf wsX7_lastDayOf) := goodIn_app (goodIn_of _ (by decide +kernel)) ggX7_storageOfUnit_X7_lastDayOf
set_option maxRecDepth 20000 in
theorem ggX7_storageOfUnit_X6_kindOn : GoodIn wsX7_storageOfUnit wsX6_kindOn := goodIn_r _ [20, 21, 22, 23, 24, 2, 3, 4, 39, 40, 41, 42, 43, 44, 45] (by decide +kernel) (by decide +kernel)
set_option maxRecDepth 20000 in
theorem gX7_storageOfUnit_X6_kindOn : GoodIn wsX7_storageOfUnit (wsV RX7 314 RX6 yX6_kindOn wsX6_kindOn) := goodIn_app (goodIn_of _ (by decide +kernel)) ggX7_storageOfUnit_X6_kindOn
set_option maxRecDepth 20000 in
theorem ggX7_storageOfUnit_X2_storageCents : GoodIn wsX7_storageOfUnit wsX2_storageCents := goodIn_r _ [29, 30, 31, 32, 28, 33, 34, 35, 36, 37, 11, 38, 53, 54, 55, 56, 57, 58, 59, 60, 61] (by decide +kernel) (by decide +kernel)
set_option maxRecDepth 20000 in
theorem gX7_storageOfUnit_X2_storageCents : GoodIn wsX7_storageOfUnit (wsV RX7 317 RX2 yX2_storageCents wsX2_storageCents) := goodIn_app (goodIn_of _ (by decide +kernel)) ggX7_storageOfUnit_X2_storageCents
theorem dX7_storageOfUnit_0 : decode cX7_storageOfUnit 0 = .ok (.iload_n 3, 1) := by decide +kernel
theorem dX7_storageOfUnit_1 : decode cX7_storageOfUnit 1 = .ok (.invokestatic 299, 3) := by decide +kernel
theorem dX7_storageOfUnit_4 : decode cX7_storageOfUnit 4 = .ok (.aload_n 2, 1) := by decide +kernel
theorem dX7_storageOfUnit_5 : decode cX7_storageOfUnit 5 = .ok (.getfield 302, 3) := by decide +kernel
theorem dX7_storageOfUnit_8 : decode cX7_storageOfUnit 8 = .ok (.invokestatic 286, 3) := by decide +kernel
theorem dX7_storageOfUnit_11 : decode cX7_storageOfUnit 11 = .ok (.istore 4, 2) := by decide +kernel
theorem dX7_storageOfUnit_13 : decode cX7_storageOfUnit 13 = .ok (.iload_n 3, 1) := by decide +kernel
theorem dX7_storageOfUnit_14 : decode cX7_storageOfUnit 14 = .ok (.invokestatic 305, 3) := by decide +kernel
theorem dX7_storageOfUnit_17 : decode cX7_storageOfUnit 17 = .ok (.aload_n 2, 1) := by decide +kernel
theorem dX7_storageOfUnit_18 : decode cX7_storageOfUnit 18 = .ok (.getfield 308, 3) := by decide +kernel
theorem dX7_storageOfUnit_21 : decode cX7_storageOfUnit 21 = .ok (.invokestatic 311, 3) := by decide +kernel
theorem dX7_storageOfUnit_24 : decode cX7_storageOfUnit 24 = .ok (.istore 5, 2) := by decide +kernel
theorem dX7_storageOfUnit_26 : decode cX7_storageOfUnit 26 = .ok (.iconst 0, 1) := by decide +kernel
theorem dX7_storageOfUnit_27 : decode cX7_storageOfUnit 27 = .ok (.istore 6, 2) := by decide +kernel
theorem dX7_storageOfUnit_29 : decode cX7_storageOfUnit 29 = .ok (.iload 4, 2) := by decide +kernel
theorem dX7_storageOfUnit_31 : decode cX7_storageOfUnit 31 = .ok (.istore 7, 2) := by decide +kernel
theorem dX7_storageOfUnit_33 : decode cX7_storageOfUnit 33 = .ok (.iload 7, 2) := by decide +kernel
theorem dX7_storageOfUnit_35 : decode cX7_storageOfUnit 35 = .ok (.iload 5, 2) := by decide +kernel
theorem dX7_storageOfUnit_37 : decode cX7_storageOfUnit 37 = .ok (.if_icmp .gt 28, 3) := by decide +kernel
theorem dX7_storageOfUnit_40 : decode cX7_storageOfUnit 40 = .ok (.iload 6, 2) := by decide +kernel
theorem dX7_storageOfUnit_42 : decode cX7_storageOfUnit 42 = .ok (.aload_n 0, 1) := by decide +kernel
theorem dX7_storageOfUnit_43 : decode cX7_storageOfUnit 43 = .ok (.getfield 19, 3) := by decide +kernel
theorem dX7_storageOfUnit_46 : decode cX7_storageOfUnit 46 = .ok (.iload_n 1, 1) := by decide +kernel
theorem dX7_storageOfUnit_47 : decode cX7_storageOfUnit 47 = .ok (.aload_n 2, 1) := by decide +kernel
theorem dX7_storageOfUnit_48 : decode cX7_storageOfUnit 48 = .ok (.iload 7, 2) := by decide +kernel
theorem dX7_storageOfUnit_50 : decode cX7_storageOfUnit 50 = .ok (.invokevirtual 314, 3) := by decide +kernel
theorem dX7_storageOfUnit_53 : decode cX7_storageOfUnit 53 = .ok (.invokevirtual 317, 3) := by decide +kernel
theorem dX7_storageOfUnit_56 : decode cX7_storageOfUnit 56 = .ok (.iadd, 1) := by decide +kernel
theorem dX7_storageOfUnit_57 : decode cX7_storageOfUnit 57 = .ok (.istore 6, 2) := by decide +kernel
theorem dX7_storageOfUnit_59 : decode cX7_storageOfUnit 59 = .ok (.iinc 7 1, 3) := by decide +kernel
theorem dX7_storageOfUnit_62 : decode cX7_storageOfUnit 62 = .ok (.goto (-29), 3) := by decide +kernel
theorem dX7_storageOfUnit_65 : decode cX7_storageOfUnit 65 = .ok (.iload 6, 2) := by decide +kernel
theorem dX7_storageOfUnit_67 : decode cX7_storageOfUnit 67 = .ok (.ireturn, 1) := by decide +kernel
set_option maxRecDepth 20000 in
theorem ggX7_handlingBy_Jx4a65c_size_8abf5 : GoodIn wsX7_handlingBy wsJx4a65c_size_8abf5 := goodIn_r _ [8, 9, 60, 61, 62] (by decide +kernel) (by decide +kernel)
set_option maxRecDepth 20000 in
theorem gX7_handlingBy_Jx4a65c_size_8abf5 : GoodIn wsX7_handlingBy (wsV RX7 95 RJx4a65c yJx4a65c_size_8abf5 wsJx4a65c_size_8abf5) := goodIn_app (goodIn_of _ (by decide +kernel)) ggX7_handlingBy_Jx4a65c_size_8abf5
set_option maxRecDepth 20000 in
theorem ggX7_handlingBy_Jx4a65c_get_915e3 : GoodIn wsX7_handlingBy wsJx4a65c_get_915e3 := goodIn_r _ [13, 9, 14, 15, 16, 17, 18, 19, 20, 21, 22, 23, 24, 7, 25, 26, 60, 61, 62] (by decide +kernel) (by decide +kernel)
set_option maxRecDepth 20000 in
theorem gX7_handlingBy_Jx4a65c_get_915e3 : GoodIn wsX7_handlingBy (wsV RX7 111 RJx4a65c yJx4a65c_get_915e3 wsJx4a65c_get_915e3) := goodIn_app (goodIn_of _ (by decide +kernel)) ggX7_handlingBy_Jx4a65c_get_915e3
set_option maxRecDepth 20000 in
theorem ggX7_handlingBy_X7_firstDayOf : GoodIn wsX7_handlingBy wsX7_firstDayOf := goodIn_r _ [30] (by decide +kernel) (by decide +kernel)
set_option maxRecDepth 20000 in
theorem gX7_handlingBy_X7_firstDayOf : GoodIn wsX7_handlingBy (va_wsS RX7 299 yX7_firstDayOf wsX7_firstDayOf) := goodIn_app (goodIn_of _ (by decide +kernel)) ggX7_handlingBy_X7_firstDayOf
set_option maxRecDepth 20000 in
theorem ggX7_handlingBy_X7_lastDayOf : GoodIn wsX7_handlingBy wsX7_lastDayOf := goodIn_r _ [33] (by decide +kernel) (by decide +kernel)
set_option maxRecDepth 20000 in
theorem gX7_handlingBy_X7_lastDayOf : GoodIn wsX7_handlingBy (va_wsS RX7 305 yX7_lastDayOf wsX7_lastDayOf) := goodIn_app (goodIn_of _ (by decide +kernel)) ggX7_handlingBy_X7_lastDayOf
set_option maxRecDepth 20000 in
theorem ggX7_handlingBy_X7_isWithin : GoodIn wsX7_handlingBy wsX7_isWithin := goodIn_r _ [36] (by decide +kernel) (by decide +kernel)
set_option maxRecDepth 20000 in
theorem gX7_handlingBy_X7_isWithin : GoodIn wsX7_handlingBy (va_wsS RX7 50 yX7_isWithin wsX7_isWithin) := goodIn_app (goodIn_of _ (by decide +kernel)) ggX7_handlingBy_X7_isWithin
set_option maxRecDepth 20000 in
theorem ggX7_handlingBy_X2_handlingCents : GoodIn wsX7_handlingBy wsX2_handlingCents := goodIn_r _ [41, 42, 43, 44, 40, 45, 46, 47, 48, 35, 29, 36, 63, 64, 65, 66, 67, 68, 69, 70, 71] (by decide +kernel) (by decide +kernel)
set_option maxRecDepth 20000 in
theorem gX7_handlingBy_X2_handlingCents : GoodIn wsX7_handlingBy (wsV RX7 329 RX2 yX2_handlingCents wsX2_handlingCents) := goodIn_app (goodIn_of _ (by decide +kernel)) ggX7_handlingBy_X2_handlingCents
theorem dX7_handlingBy_0 : decode cX7_handlingBy 0 = .ok (.iconst 0, 1) := by decide +kernel
theorem dX7_handlingBy_1 : decode cX7_handlingBy 1 = .ok (.istore 4, 2) := by decide +kernel
theorem dX7_handlingBy_3 : decode cX7_handlingBy 3 = .ok (.iconst 0, 1) := by decide +kernel
theorem dX7_handlingBy_4 : decode cX7_handlingBy 4 = .ok (.istore 5, 2) := by decide +kernel
theorem dX7_handlingBy_6 : decode cX7_handlingBy 6 = .ok (.iload 5, 2) := by decide +kernel
theorem dX7_handlingBy_8 : decode cX7_handlingBy 8 = .ok (.aload_n 0, 1) := by decide +kernel
theorem dX7_handlingBy_9 : decode cX7_handlingBy 9 = .ok (.getfield 33, 3) := by decide +kernel
theorem dX7_handlingBy_12 : decode cX7_handlingBy 12 = .ok (.invokevirtual 95, 3) := by decide +kernel
theorem dX7_handlingBy_15 : decode cX7_handlingBy 15 = .ok (.if_icmp .ge 75, 3) := by decide +kernel
theorem dX7_handlingBy_18 : decode cX7_handlingBy 18 = .ok (.aload_n 0, 1) := by decide +kernel
theorem dX7_handlingBy_19 : decode cX7_handlingBy 19 = .ok (.getfield 33, 3) := by decide +kernel
theorem dX7_handlingBy_22 : decode cX7_handlingBy 22 = .ok (.iload 5, 2) := by decide +kernel
theorem dX7_handlingBy_24 : decode cX7_handlingBy 24 = .ok (.invokevirtual 111, 3) := by decide +kernel
theorem dX7_handlingBy_27 : decode cX7_handlingBy 27 = .ok (.checkcast 140, 3) := by decide +kernel
theorem dX7_handlingBy_30 : decode cX7_handlingBy 30 = .ok (.astore 6, 2) := by decide +kernel
theorem dX7_handlingBy_32 : decode cX7_handlingBy 32 = .ok (.aload 6, 2) := by decide +kernel
theorem dX7_handlingBy_34 : decode cX7_handlingBy 34 = .ok (.getfield 279, 3) := by decide +kernel
theorem dX7_handlingBy_37 : decode cX7_handlingBy 37 = .ok (.iload_n 2, 1) := by decide +kernel
theorem dX7_handlingBy_38 : decode cX7_handlingBy 38 = .ok (.if_icmp .ne 46, 3) := by decide +kernel
theorem dX7_handlingBy_41 : decode cX7_handlingBy 41 = .ok (.aload 6, 2) := by decide +kernel
theorem dX7_handlingBy_43 : decode cX7_handlingBy 43 = .ok (.getfield 320, 3) := by decide +kernel
theorem dX7_handlingBy_46 : decode cX7_handlingBy 46 = .ok (.iload_n 3, 1) := by decide +kernel
theorem dX7_handlingBy_47 : decode cX7_handlingBy 47 = .ok (.invokestatic 299, 3) := by decide +kernel
theorem dX7_handlingBy_50 : decode cX7_handlingBy 50 = .ok (.iload_n 3, 1) := by decide +kernel
theorem dX7_handlingBy_51 : decode cX7_handlingBy 51 = .ok (.invokestatic 305, 3) := by decide +kernel
theorem dX7_handlingBy_54 : decode cX7_handlingBy 54 = .ok (.invokestatic 50, 3) := by decide +kernel
theorem dX7_handlingBy_57 : decode cX7_handlingBy 57 = .ok (.ifCond .eq 27, 3) := by decide +kernel
theorem dX7_handlingBy_60 : decode cX7_handlingBy 60 = .ok (.iload 4, 2) := by decide +kernel
theorem dX7_handlingBy_62 : decode cX7_handlingBy 62 = .ok (.aload 6, 2) := by decide +kernel
theorem dX7_handlingBy_64 : decode cX7_handlingBy 64 = .ok (.getfield 323, 3) := by decide +kernel
theorem dX7_handlingBy_67 : decode cX7_handlingBy 67 = .ok (.aload_n 0, 1) := by decide +kernel
theorem dX7_handlingBy_68 : decode cX7_handlingBy 68 = .ok (.getfield 19, 3) := by decide +kernel
theorem dX7_handlingBy_71 : decode cX7_handlingBy 71 = .ok (.iload_n 1, 1) := by decide +kernel
theorem dX7_handlingBy_72 : decode cX7_handlingBy 72 = .ok (.aload 6, 2) := by decide +kernel
theorem dX7_handlingBy_74 : decode cX7_handlingBy 74 = .ok (.getfield 326, 3) := by decide +kernel
theorem dX7_handlingBy_77 : decode cX7_handlingBy 77 = .ok (.invokevirtual 329, 3) := by decide +kernel
theorem dX7_handlingBy_80 : decode cX7_handlingBy 80 = .ok (.imul, 1) := by decide +kernel
theorem dX7_handlingBy_81 : decode cX7_handlingBy 81 = .ok (.iadd, 1) := by decide +kernel
theorem dX7_handlingBy_82 : decode cX7_handlingBy 82 = .ok (.istore 4, 2) := by decide +kernel
theorem dX7_handlingBy_84 : decode cX7_handlingBy 84 = .ok (.iinc 5 1, 3) := by decide +kernel
theorem dX7_handlingBy_87 : decode cX7_handlingBy 87 = .ok (.goto (-81), 3) := by decide +kernel
theorem dX7_handlingBy_90 : decode cX7_handlingBy 90 = .ok (.iload 4, 2) := by decide +kernel
theorem dX7_handlingBy_92 : decode cX7_handlingBy 92 = .ok (.ireturn, 1) := by decide +kernel
set_option maxRecDepth 20000 in
theorem ggX7_unitDays_Jx4a65c_size_8abf5 : GoodIn wsX7_unitDays wsJx4a65c_size_8abf5 := goodIn_r _ [7, 8, 61, 62, 63] (by decide +kernel) (by decide +kernel)
set_option maxRecDepth 20000 in
theorem gX7_unitDays_Jx4a65c_size_8abf5 : GoodIn wsX7_unitDays (wsV RX7 95 RJx4a65c yJx4a65c_size_8abf5 wsJx4a65c_size_8abf5) := goodIn_app (goodIn_of _ (by decide +kernel)) ggX7_unitDays_Jx4a65c_size_8abf5
set_option maxRecDepth 20000 in
theorem ggX7_unitDays_Jx4a65c_get_915e3 : GoodIn wsX7_unitDays wsJx4a65c_get_915e3 := goodIn_r _ [12, 8, 13, 14, 15, 16, 17, 18, 19, 20, 21, 22, 23, 6, 24, 25, 61, 62, 63] (by decide +kernel) (by decide +kernel)
set_option maxRecDepth 20000 in
theorem gX7_unitDays_Jx4a65c_get_915e3 : GoodIn wsX7_unitDays (wsV RX7 111 RJx4a65c yJx4a65c_get_915e3 wsJx4a65c_get_915e3) := goodIn_app (goodIn_of _ (by decide +kernel)) ggX7_unitDays_Jx4a65c_get_915e3
set_option maxRecDepth 20000 in
theorem ggX7_unitDays_X7_firstDayOf : GoodIn wsX7_unitDays wsX7_firstDayOf := goodIn_r _ [29] (by decide +kernel) (by decide +kernel)
set_option maxRecDepth 20000 in
theorem gX7_unitDays_X7_firstDayOf : GoodIn wsX7_unitDays (va_wsS RX7 299 yX7_firstDayOf wsX7_firstDayOf) := goodIn_app (goodIn_of _ (by decide +kernel)) ggX7_unitDays_X7_firstDayOf
set_option maxRecDepth 20000 in
theorem ggX7_unitDays_X7_lastDayOf : GoodIn wsX7_unitDays wsX7_lastDayOf := goodIn_r _ [32] (by decide +kernel) (by decide +kernel)
set_option maxRecDepth 20000 in
theorem gX7_unitDays_X7_lastDayOf : GoodIn wsX7_unitDays (va_wsS RX7 305 yX7_lastDayOf wsX7_lastDayOf) := goodIn_app (goodIn_of _ (by decide +kernel)) ggX7_unitDays_X7_lastDayOf
set_option maxRecDepth 20000 in
theorem ggX7_unitDays_X6_daysThere : GoodIn wsX7_unitDays wsX6_daysThere := goodIn_r _ [37, 38, 39, 40, 41, 42, 43, 44, 45, 46, 54, 55, 56, 57, 58, 59, 60] (by decide +kernel) (by decide +kernel)
set_option maxRecDepth 20000 in
theorem gX7_unitDays_X6_daysThere : GoodIn wsX7_unitDays (wsV RX7 132 RX6 yX6_daysThere wsX6_daysThere) := goodIn_app (goodIn_of _ (by decide +kernel)) ggX7_unitDays_X6_daysThere
theorem dX7_unitDays_0 : decode cX7_unitDays 0 = .ok (.iconst 0, 1) := by decide +kernel
theorem dX7_unitDays_1 : decode cX7_unitDays 1 = .ok (.istore_n 3, 1) := by decide +kernel
theorem dX7_unitDays_2 : decode cX7_unitDays 2 = .ok (.iconst 0, 1) := by decide +kernel
theorem dX7_unitDays_3 : decode cX7_unitDays 3 = .ok (.istore 4, 2) := by decide +kernel
theorem dX7_unitDays_5 : decode cX7_unitDays 5 = .ok (.iload 4, 2) := by decide +kernel
theorem dX7_unitDays_7 : decode cX7_unitDays 7 = .ok (.aload_n 0, 1) := by decide +kernel
theorem dX7_unitDays_8 : decode cX7_unitDays 8 = .ok (.getfield 29, 3) := by decide +kernel
theorem dX7_unitDays_11 : decode cX7_unitDays 11 = .ok (.invokevirtual 95, 3) := by decide +kernel
theorem dX7_unitDays_14 : decode cX7_unitDays 14 = .ok (.if_icmp .ge 48, 3) := by decide +kernel
theorem dX7_unitDays_17 : decode cX7_unitDays 17 = .ok (.aload_n 0, 1) := by decide +kernel
theorem dX7_unitDays_18 : decode cX7_unitDays 18 = .ok (.getfield 29, 3) := by decide +kernel
theorem dX7_unitDays_21 : decode cX7_unitDays 21 = .ok (.iload 4, 2) := by decide +kernel
theorem dX7_unitDays_23 : decode cX7_unitDays 23 = .ok (.invokevirtual 111, 3) := by decide +kernel
theorem dX7_unitDays_26 : decode cX7_unitDays 26 = .ok (.checkcast 100, 3) := by decide +kernel
theorem dX7_unitDays_29 : decode cX7_unitDays 29 = .ok (.astore 5, 2) := by decide +kernel
theorem dX7_unitDays_31 : decode cX7_unitDays 31 = .ok (.aload 5, 2) := by decide +kernel
theorem dX7_unitDays_33 : decode cX7_unitDays 33 = .ok (.getfield 291, 3) := by decide +kernel
theorem dX7_unitDays_36 : decode cX7_unitDays 36 = .ok (.iload_n 1, 1) := by decide +kernel
theorem dX7_unitDays_37 : decode cX7_unitDays 37 = .ok (.if_icmp .ne 19, 3) := by decide +kernel
theorem dX7_unitDays_40 : decode cX7_unitDays 40 = .ok (.iload_n 3, 1) := by decide +kernel
theorem dX7_unitDays_41 : decode cX7_unitDays 41 = .ok (.aload 5, 2) := by decide +kernel
theorem dX7_unitDays_43 : decode cX7_unitDays 43 = .ok (.iload_n 2, 1) := by decide +kernel
theorem dX7_unitDays_44 : decode cX7_unitDays 44 = .ok (.invokestatic 299, 3) := by decide +kernel
theorem dX7_unitDays_47 : decode cX7_unitDays 47 = .ok (.iload_n 2, 1) := by decide +kernel
theorem dX7_unitDays_48 : decode cX7_unitDays 48 = .ok (.invokestatic 305, 3) := by decide +kernel
theorem dX7_unitDays_51 : decode cX7_unitDays 51 = .ok (.invokevirtual 132, 3) := by decide +kernel
theorem dX7_unitDays_54 : decode cX7_unitDays 54 = .ok (.iadd, 1) := by decide +kernel
theorem dX7_unitDays_55 : decode cX7_unitDays 55 = .ok (.istore_n 3, 1) := by decide +kernel
theorem dX7_unitDays_56 : decode cX7_unitDays 56 = .ok (.iinc 4 1, 3) := by decide +kernel
theorem dX7_unitDays_59 : decode cX7_unitDays 59 = .ok (.goto (-54), 3) := by decide +kernel
theorem dX7_unitDays_62 : decode cX7_unitDays 62 = .ok (.iload_n 3, 1) := by decide +kernel
theorem dX7_unitDays_63 : decode cX7_unitDays 63 = .ok (.ireturn, 1) := by decide +kernel
theorem dX7_firstDayOf_0 : decode cX7_firstDayOf 0 = .ok (.bipush 30, 2) := by decide +kernel
theorem dX7_firstDayOf_2 : decode cX7_firstDayOf 2 = .ok (.iload_n 0, 1) := by decide +kernel
theorem dX7_firstDayOf_3 : decode cX7_firstDayOf 3 = .ok (.imul, 1) := by decide +kernel
theorem dX7_firstDayOf_4 : decode cX7_firstDayOf 4 = .ok (.ireturn, 1) := by decide +kernel
theorem dX7_lastDayOf_0 : decode cX7_lastDayOf 0 = .ok (.bipush 30, 2) := by decide +kernel
theorem dX7_lastDayOf_2 : decode cX7_lastDayOf 2 = .ok (.iload_n 0, 1) := by decide +kernel
theorem dX7_lastDayOf_3 : decode cX7_lastDayOf 3 = .ok (.imul, 1) := by decide +kernel
theorem dX7_lastDayOf_4 : decode cX7_lastDayOf 4 = .ok (.bipush 30, 2) := by decide +kernel
theorem dX7_lastDayOf_6 : decode cX7_lastDayOf 6 = .ok (.iadd, 1) := by decide +kernel
theorem dX7_lastDayOf_7 : decode cX7_lastDayOf 7 = .ok (.iconst 1, 1) := by decide +kernel
theorem dX7_lastDayOf_8 : decode cX7_lastDayOf 8 = .ok (.isub, 1) := by decide +kernel
theorem dX7_lastDayOf_9 : decode cX7_lastDayOf 9 = .ok (.ireturn, 1) := by decide +kernel
end
section
theorem dJx00060_init_a7421_0 : decode cJx00060_init_a7421 0 = .ok (.aload_n 0, 1) := by decide +kernel
theorem dJx00060_init_a7421_1 : decode cJx00060_init_a7421 1 = .ok (.aload_n 1, 1) := by decide +kernel
theorem dJx00060_init_a7421_2 : decode cJx00060_init_a7421 2 = .ok (.invokespecial 7, 3) := by decide +kernel
theorem dJx00060_init_a7421_5 : decode cJx00060_init_a7421 5 = .ok (.return_, 1) := by decide +kernel
theorem dJ9_abs_067f4_0 : decode cJ9_abs_067f4 0 = .ok (.lload_n 0, 1) := by decide +kernel
theorem dJ9_abs_067f4_1 : decode cJ9_abs_067f4 1 = .ok (.lconst 0, 1) := by decide +kernel
theorem dJ9_abs_067f4_2 : decode cJ9_abs_067f4 2 = .ok (.lcmp, 1) := by decide +kernel
theorem dJ9_abs_067f4_3 : decode cJ9_abs_067f4 3 = .ok (.ifCond .ge 8, 3) := by decide +kernel
theorem dJ9_abs_067f4_6 : decode cJ9_abs_067f4 6 = .ok (.lload_n 0, 1) := by decide +kernel
theorem dJ9_abs_067f4_7 : decode cJ9_abs_067f4 7 = .ok (.lneg, 1) := by decide +kernel
theorem dJ9_abs_067f4_8 : decode cJ9_abs_067f4 8 = .ok (.goto 4, 3) := by decide +kernel
theorem dJ9_abs_067f4_11 : decode cJ9_abs_067f4 11 = .ok (.lload_n 0, 1) := by decide +kernel
theorem dJ9_abs_067f4_12 : decode cJ9_abs_067f4 12 = .ok (.lreturn, 1) := by decide +kernel
theorem dJ9_max_7cf53_0 : decode cJ9_max_7cf53 0 = .ok (.iload_n 0, 1) := by decide +kernel
theorem dJ9_max_7cf53_1 : decode cJ9_max_7cf53 1 = .ok (.iload_n 1, 1) := by decide +kernel
theorem dJ9_max_7cf53_2 : decode cJ9_max_7cf53 2 = .ok (.if_icmp .lt 7, 3) := by decide +kernel
theorem dJ9_max_7cf53_5 : decode cJ9_max_7cf53 5 = .ok (.iload_n 0, 1) := by decide +kernel
theorem dJ9_max_7cf53_6 : decode cJ9_max_7cf53 6 = .ok (.goto 4, 3) := by decide +kernel
theorem dJ9_max_7cf53_9 : decode cJ9_max_7cf53 9 = .ok (.iload_n 1, 1) := by decide +kernel
theorem dJ9_max_7cf53_10 : decode cJ9_max_7cf53 10 = .ok (.ireturn, 1) := by decide +kernel
theorem dJ9_min_7cf53_0 : decode cJ9_min_7cf53 0 = .ok (.iload_n 0, 1) := by decide +kernel
theorem dJ9_min_7cf53_1 : decode cJ9_min_7cf53 1 = .ok (.iload_n 1, 1) := by decide +kernel
theorem dJ9_min_7cf53_2 : decode cJ9_min_7cf53 2 = .ok (.if_icmp .gt 7, 3) := by decide +kernel
theorem dJ9_min_7cf53_5 : decode cJ9_min_7cf53 5 = .ok (.iload_n 0, 1) := by decide +kernel
theorem dJ9_min_7cf53_6 : decode cJ9_min_7cf53 6 = .ok (.goto 4, 3) := by decide +kernel
theorem dJ9_min_7cf53_9 : decode cJ9_min_7cf53 9 = .ok (.iload_n 1, 1) := by decide +kernel
theorem dJ9_min_7cf53_10 : decode cJ9_min_7cf53 10 = .ok (.ireturn, 1) := by decide +kernel
theorem dJxa1e45_init_da8c8_0 : decode cJxa1e45_init_da8c8 0 = .ok (.aload_n 0, 1) := by decide +kernel
theorem dJxa1e45_init_da8c8_1 : decode cJxa1e45_init_da8c8 1 = .ok (.invokespecial 1, 3) := by decide +kernel
theorem dJxa1e45_init_da8c8_4 : decode cJxa1e45_init_da8c8 4 = .ok (.return_, 1) := by decide +kernel
set_option maxRecDepth 20000 in
theorem ggJxc12de_init_da8c8_Jxa1e45_init_da8c8 : GoodIn wsJxc12de_init_da8c8 wsJxa1e45_init_da8c8 := goodIn_r _ [5, 6, 7, 8] (by decide +kernel) (by decide +kernel)
set_option maxRecDepth 20000 in
theorem gJxc12de_init_da8c8_Jxa1e45_init_da8c8 : GoodIn wsJxc12de_init_da8c8 (wsJxa1e45_init_da8c8) := ggJxc12de_init_da8c8_Jxa1e45_init_da8c8
theorem dJxc12de_init_da8c8_0 : decode cJxc12de_init_da8c8 0 = .ok (.aload_n 0, 1) := by decide +kernel
theorem dJxc12de_init_da8c8_1 : decode cJxc12de_init_da8c8 1 = .ok (.invokespecial 1, 3) := by decide +kernel
theorem dJxc12de_init_da8c8_4 : decode cJxc12de_init_da8c8 4 = .ok (.aload_n 0, 1) := by decide +kernel
theorem dJxc12de_init_da8c8_5 : decode cJxc12de_init_da8c8 5 = .ok (.iconst 0, 1) := by decide +kernel
theorem dJxc12de_init_da8c8_6 : decode cJxc12de_init_da8c8 6 = .ok (.putfield 7, 3) := by decide +kernel
theorem dJxc12de_init_da8c8_9 : decode cJxc12de_init_da8c8 9 = .ok (.return_, 1) := by decide +kernel
set_option maxRecDepth 20000 in
theorem ggJx4a65c_init_da8c8_Jxc12de_init_da8c8 : GoodIn wsJx4a65c_init_da8c8 wsJxc12de_init_da8c8 := goodIn_r _ [6, 7, 8, 9, 10, 11, 12, 13, 14, 15, 16, 17] (by decide +kernel) (by decide +kernel)
set_option maxRecDepth 20000 in
theorem gJx4a65c_init_da8c8_Jxc12de_init_da8c8 : GoodIn wsJx4a65c_init_da8c8 (wsJxc12de_init_da8c8) := ggJx4a65c_init_da8c8_Jxc12de_init_da8c8
theorem dJx4a65c_init_da8c8_0 : decode cJx4a65c_init_da8c8 0 = .ok (.aload_n 0, 1) := by decide +kernel
theorem dJx4a65c_init_da8c8_1 : decode cJx4a65c_init_da8c8 1 = .ok (.invokespecial 1, 3) := by decide +kernel
theorem dJx4a65c_init_da8c8_4 : decode cJx4a65c_init_da8c8 4 = .ok (.aload_n 0, 1) := by decide +kernel
theorem dJx4a65c_init_da8c8_5 : decode cJx4a65c_init_da8c8 5 = .ok (.getstatic 39, 3) := by decide +kernel
theorem dJx4a65c_init_da8c8_8 : decode cJx4a65c_init_da8c8 8 = .ok (.putfield 9, 3) := by decide +kernel
theorem dJx4a65c_init_da8c8_11 : decode cJx4a65c_init_da8c8 11 = .ok (.return_, 1) := by decide +kernel
set_option maxRecDepth 20000 in
theorem ggJx4a65c_grow_92f84_J8_newLength_cabcc : GoodIn wsJx4a65c_grow_92f84 wsJ8_newLength_cabcc := goodIn_r _ [11, 12, 4, 5, 6, 13, 14, 15, 10, 16] (by decide +kernel) (by decide +kernel)
set_option maxRecDepth 20000 in
theorem gJx4a65c_grow_92f84_J8_newLength_cabcc : GoodIn wsJx4a65c_grow_92f84 (va_wsS RJx4a65c 73 yJ8_newLength_cabcc wsJ8_newLength_cabcc) := goodIn_app (goodIn_of _ (by decide +kernel)) ggJx4a65c_grow_92f84_J8_newLength_cabcc
set_option maxRecDepth 20000 in
theorem ggJx4a65c_grow_92f84_J7_copyOf_1904c : GoodIn wsJx4a65c_grow_92f84 wsJ7_copyOf_1904c := goodIn_r _ [20, 21, 22, 23, 24, 25, 26, 19, 27, 28, 29, 30, 31, 5, 32, 33, 34, 35, 36] (by decide +kernel) (by decide +kernel)
set_option maxRecDepth 20000 in
theorem gJx4a65c_grow_92f84_J7_copyOf_1904c : GoodIn wsJx4a65c_grow_92f84 (va_wsS RJx4a65c 66 yJ7_copyOf_1904c wsJ7_copyOf_1904c) := goodIn_app (goodIn_of _ (by decide +kernel)) ggJx4a65c_grow_92f84_J7_copyOf_1904c
theorem dJx4a65c_grow_92f84_0 : decode cJx4a65c_grow_92f84 0 = .ok (.aload_n 0, 1) := by decide +kernel
theorem dJx4a65c_grow_92f84_1 : decode cJx4a65c_grow_92f84 1 = .ok (.getfield 9, 3) := by decide +kernel
theorem dJx4a65c_grow_92f84_4 : decode cJx4a65c_grow_92f84 4 = .ok (.arraylength, 1) := by decide +kernel
theorem dJx4a65c_grow_92f84_5 : decode cJx4a65c_grow_92f84 5 = .ok (.istore_n 2, 1) := by decide +kernel
theorem dJx4a65c_grow_92f84_6 : decode cJx4a65c_grow_92f84 6 = .ok (.iload_n 2, 1) := by decide +kernel
theorem dJx4a65c_grow_92f84_7 : decode cJx4a65c_grow_92f84 7 = .ok (.ifCond .gt 13, 3) := by decide +kernel
theorem dJx4a65c_grow_92f84_10 : decode cJx4a65c_grow_92f84 10 = .ok (.aload_n 0, 1) := by decide +kernel
theorem dJx4a65c_grow_92f84_11 : decode cJx4a65c_grow_92f84 11 = .ok (.getfield 9, 3) := by decide +kernel
theorem dJx4a65c_grow_92f84_14 : decode cJx4a65c_grow_92f84 14 = .ok (.getstatic 39, 3) := by decide +kernel
theorem dJx4a65c_grow_92f84_17 : decode cJx4a65c_grow_92f84 17 = .ok (.if_acmp .eq 28, 3) := by decide +kernel
theorem dJx4a65c_grow_92f84_20 : decode cJx4a65c_grow_92f84 20 = .ok (.iload_n 2, 1) := by decide +kernel
theorem dJx4a65c_grow_92f84_21 : decode cJx4a65c_grow_92f84 21 = .ok (.iload_n 1, 1) := by decide +kernel
theorem dJx4a65c_grow_92f84_22 : decode cJx4a65c_grow_92f84 22 = .ok (.iload_n 2, 1) := by decide +kernel
theorem dJx4a65c_grow_92f84_23 : decode cJx4a65c_grow_92f84 23 = .ok (.isub, 1) := by decide +kernel
theorem dJx4a65c_grow_92f84_24 : decode cJx4a65c_grow_92f84 24 = .ok (.iload_n 2, 1) := by decide +kernel
theorem dJx4a65c_grow_92f84_25 : decode cJx4a65c_grow_92f84 25 = .ok (.iconst 1, 1) := by decide +kernel
theorem dJx4a65c_grow_92f84_26 : decode cJx4a65c_grow_92f84 26 = .ok (.ishr, 1) := by decide +kernel
theorem dJx4a65c_grow_92f84_27 : decode cJx4a65c_grow_92f84 27 = .ok (.invokestatic 73, 3) := by decide +kernel
theorem dJx4a65c_grow_92f84_30 : decode cJx4a65c_grow_92f84 30 = .ok (.istore_n 3, 1) := by decide +kernel
theorem dJx4a65c_grow_92f84_31 : decode cJx4a65c_grow_92f84 31 = .ok (.aload_n 0, 1) := by decide +kernel
theorem dJx4a65c_grow_92f84_32 : decode cJx4a65c_grow_92f84 32 = .ok (.aload_n 0, 1) := by decide +kernel
theorem dJx4a65c_grow_92f84_33 : decode cJx4a65c_grow_92f84 33 = .ok (.getfield 9, 3) := by decide +kernel
theorem dJx4a65c_grow_92f84_36 : decode cJx4a65c_grow_92f84 36 = .ok (.iload_n 3, 1) := by decide +kernel
theorem dJx4a65c_grow_92f84_37 : decode cJx4a65c_grow_92f84 37 = .ok (.invokestatic 66, 3) := by decide +kernel
theorem dJx4a65c_grow_92f84_40 : decode cJx4a65c_grow_92f84 40 = .ok (.dup_x1, 1) := by decide +kernel
theorem dJx4a65c_grow_92f84_41 : decode cJx4a65c_grow_92f84 41 = .ok (.putfield 9, 3) := by decide +kernel
theorem dJx4a65c_grow_92f84_44 : decode cJx4a65c_grow_92f84 44 = .ok (.areturn, 1) := by decide +kernel
theorem dJx4a65c_grow_92f84_45 : decode cJx4a65c_grow_92f84 45 = .ok (.aload_n 0, 1) := by decide +kernel
theorem dJx4a65c_grow_92f84_46 : decode cJx4a65c_grow_92f84 46 = .ok (.bipush 10, 2) := by decide +kernel
theorem dJx4a65c_grow_92f84_48 : decode cJx4a65c_grow_92f84 48 = .ok (.iload_n 1, 1) := by decide +kernel
theorem dJx4a65c_grow_92f84_49 : decode cJx4a65c_grow_92f84 49 = .ok (.invokestatic 79, 3) := by decide +kernel
theorem dJx4a65c_grow_92f84_52 : decode cJx4a65c_grow_92f84 52 = .ok (.anewarray 7, 3) := by decide +kernel
theorem dJx4a65c_grow_92f84_55 : decode cJx4a65c_grow_92f84 55 = .ok (.dup_x1, 1) := by decide +kernel
theorem dJx4a65c_grow_92f84_56 : decode cJx4a65c_grow_92f84 56 = .ok (.putfield 9, 3) := by decide +kernel
theorem dJx4a65c_grow_92f84_59 : decode cJx4a65c_grow_92f84 59 = .ok (.areturn, 1) := by decide +kernel
set_option maxRecDepth 20000 in
theorem ggJx4a65c_grow_d5877_Jx4a65c_grow_92f84 : GoodIn wsJx4a65c_grow_d5877 wsJx4a65c_grow_92f84 := goodIn_r _ [6, 7, 8, 9, 10, 11, 12, 13, 14, 15, 16, 17, 18, 19, 20, 21, 22, 23, 24, 25, 26, 27, 28, 29, 30, 31, 32, 33, 34, 35, 36, 37, 38, 39, 40, 41, 42, 43, 44, 45] (by decide +kernel) (by decide +kernel)
set_option maxRecDepth 20000 in
theorem gJx4a65c_grow_d5877_Jx4a65c_grow_92f84 : GoodIn wsJx4a65c_grow_d5877 (wsV RJx4a65c 69 RJx4a65c yJx4a65c_grow_92f84 wsJx4a65c_grow_92f84) := goodIn_app (goodIn_of _ (by decide +kernel)) ggJx4a65c_grow_d5877_Jx4a65c_grow_92f84
theorem dJx4a65c_grow_d5877_0 : decode cJx4a65c_grow_d5877 0 = .ok (.aload_n 0, 1) := by decide +kernel
theorem dJx4a65c_grow_d5877_1 : decode cJx4a65c_grow_d5877 1 = .ok (.aload_n 0, 1) := by decide +kernel
theorem dJx4a65c_grow_d5877_2 : decode cJx4a65c_grow_d5877 2 = .ok (.getfield 48, 3) := by decide +kernel
theorem dJx4a65c_grow_d5877_5 : decode cJx4a65c_grow_d5877 5 = .ok (.iconst 1, 1) := by decide +kernel
theorem dJx4a65c_grow_d5877_6 : decode cJx4a65c_grow_d5877 6 = .ok (.iadd, 1) := by decide +kernel
theorem dJx4a65c_grow_d5877_7 : decode cJx4a65c_grow_d5877 7 = .ok (.invokevirtual 69, 3) := by decide +kernel
theorem dJx4a65c_grow_d5877_10 : decode cJx4a65c_grow_d5877 10 = .ok (.areturn, 1) := by decide +kernel
theorem dJx4a65c_size_8abf5_0 : decode cJx4a65c_size_8abf5 0 = .ok (.aload_n 0, 1) := by decide +kernel
theorem dJx4a65c_size_8abf5_1 : decode cJx4a65c_size_8abf5 1 = .ok (.getfield 48, 3) := by decide +kernel
theorem dJx4a65c_size_8abf5_4 : decode cJx4a65c_size_8abf5 4 = .ok (.ireturn, 1) := by decide +kernel
theorem dJx4a65c_elementData_915e3_0 : decode cJx4a65c_elementData_915e3 0 = .ok (.aload_n 0, 1) := by decide +kernel
theorem dJx4a65c_elementData_915e3_1 : decode cJx4a65c_elementData_915e3 1 = .ok (.getfield 9, 3) := by decide +kernel
theorem dJx4a65c_elementData_915e3_4 : decode cJx4a65c_elementData_915e3 4 = .ok (.iload_n 1, 1) := by decide +kernel
theorem dJx4a65c_elementData_915e3_5 : decode cJx4a65c_elementData_915e3 5 = .ok (.aaload, 1) := by decide +kernel
theorem dJx4a65c_elementData_915e3_6 : decode cJx4a65c_elementData_915e3 6 = .ok (.areturn, 1) := by decide +kernel
set_option maxRecDepth 20000 in
theorem ggJx4a65c_get_915e3_J15_checkIndex_7cf53 : GoodIn wsJx4a65c_get_915e3 wsJ15_checkIndex_7cf53 := goodIn_r _ [5, 6, 7, 8, 9] (by decide +kernel) (by decide +kernel)
set_option maxRecDepth 20000 in
theorem gJx4a65c_get_915e3_J15_checkIndex_7cf53 : GoodIn wsJx4a65c_get_915e3 (va_wsS RJx4a65c 118 yJ15_checkIndex_7cf53 wsJ15_checkIndex_7cf53) := goodIn_app (goodIn_of _ (by decide +kernel)) ggJx4a65c_get_915e3_J15_checkIndex_7cf53
set_option maxRecDepth 20000 in
theorem ggJx4a65c_get_915e3_Jx4a65c_elementData_915e3 : GoodIn wsJx4a65c_get_915e3 wsJx4a65c_elementData_915e3 := goodIn_r _ [14, 15, 16, 17, 18] (by decide +kernel) (by decide +kernel)
set_option maxRecDepth 20000 in
theorem gJx4a65c_get_915e3_Jx4a65c_elementData_915e3 : GoodIn wsJx4a65c_get_915e3 (wsV RJx4a65c 123 RJx4a65c yJx4a65c_elementData_915e3 wsJx4a65c_elementData_915e3) := goodIn_app (goodIn_of _ (by decide +kernel)) ggJx4a65c_get_915e3_Jx4a65c_elementData_915e3
theorem dJx4a65c_get_915e3_0 : decode cJx4a65c_get_915e3 0 = .ok (.iload_n 1, 1) := by decide +kernel
theorem dJx4a65c_get_915e3_1 : decode cJx4a65c_get_915e3 1 = .ok (.aload_n 0, 1) := by decide +kernel
theorem dJx4a65c_get_915e3_2 : decode cJx4a65c_get_915e3 2 = .ok (.getfield 48, 3) := by decide +kernel
theorem dJx4a65c_get_915e3_5 : decode cJx4a65c_get_915e3 5 = .ok (.invokestatic 118, 3) := by decide +kernel
theorem dJx4a65c_get_915e3_8 : decode cJx4a65c_get_915e3 8 = .ok (.pop, 1) := by decide +kernel
theorem dJx4a65c_get_915e3_9 : decode cJx4a65c_get_915e3 9 = .ok (.aload_n 0, 1) := by decide +kernel
theorem dJx4a65c_get_915e3_10 : decode cJx4a65c_get_915e3 10 = .ok (.iload_n 1, 1) := by decide +kernel
theorem dJx4a65c_get_915e3_11 : decode cJx4a65c_get_915e3 11 = .ok (.invokevirtual 123, 3) := by decide +kernel
theorem dJx4a65c_get_915e3_14 : decode cJx4a65c_get_915e3 14 = .ok (.areturn, 1) := by decide +kernel
set_option maxRecDepth 20000 in
theorem ggJx4a65c_add_72be8_Jx4a65c_grow_d5877 : GoodIn wsJx4a65c_add_72be8 wsJx4a65c_grow_d5877 := goodIn_r _ [6, 1, 7, 8, 9, 5, 10, 11, 12, 13, 14, 15, 16, 17, 18, 19, 20, 21, 22, 23, 24, 25, 26, 27, 28, 29, 30, 31, 32, 33, 34, 35, 36, 37, 38, 39, 40, 41, 42, 43, 44, 45, 46, 47, 48, 49] (by decide +kernel) (by decide +kernel)
set_option maxRecDepth 20000 in
theorem gJx4a65c_add_72be8_Jx4a65c_grow_d5877 : GoodIn wsJx4a65c_add_72be8 (wsV RJx4a65c 129 RJx4a65c yJx4a65c_grow_d5877 wsJx4a65c_grow_d5877) := goodIn_app (goodIn_of _ (by decide +kernel)) ggJx4a65c_add_72be8_Jx4a65c_grow_d5877
theorem dJx4a65c_add_72be8_0 : decode cJx4a65c_add_72be8 0 = .ok (.iload_n 3, 1) := by decide +kernel
theorem dJx4a65c_add_72be8_1 : decode cJx4a65c_add_72be8 1 = .ok (.aload_n 2, 1) := by decide +kernel
theorem dJx4a65c_add_72be8_2 : decode cJx4a65c_add_72be8 2 = .ok (.arraylength, 1) := by decide +kernel
theorem dJx4a65c_add_72be8_3 : decode cJx4a65c_add_72be8 3 = .ok (.if_icmp .ne 8, 3) := by decide +kernel
theorem dJx4a65c_add_72be8_6 : decode cJx4a65c_add_72be8 6 = .ok (.aload_n 0, 1) := by decide +kernel
theorem dJx4a65c_add_72be8_7 : decode cJx4a65c_add_72be8 7 = .ok (.invokevirtual 129, 3) := by decide +kernel
theorem dJx4a65c_add_72be8_10 : decode cJx4a65c_add_72be8 10 = .ok (.astore_n 2, 1) := by decide +kernel
theorem dJx4a65c_add_72be8_11 : decode cJx4a65c_add_72be8 11 = .ok (.aload_n 2, 1) := by decide +kernel
theorem dJx4a65c_add_72be8_12 : decode cJx4a65c_add_72be8 12 = .ok (.iload_n 3, 1) := by decide +kernel
theorem dJx4a65c_add_72be8_13 : decode cJx4a65c_add_72be8 13 = .ok (.aload_n 1, 1) := by decide +kernel
theorem dJx4a65c_add_72be8_14 : decode cJx4a65c_add_72be8 14 = .ok (.aastore, 1) := by decide +kernel
theorem dJx4a65c_add_72be8_15 : decode cJx4a65c_add_72be8 15 = .ok (.aload_n 0, 1) := by decide +kernel
theorem dJx4a65c_add_72be8_16 : decode cJx4a65c_add_72be8 16 = .ok (.iload_n 3, 1) := by decide +kernel
theorem dJx4a65c_add_72be8_17 : decode cJx4a65c_add_72be8 17 = .ok (.iconst 1, 1) := by decide +kernel
theorem dJx4a65c_add_72be8_18 : decode cJx4a65c_add_72be8 18 = .ok (.iadd, 1) := by decide +kernel
theorem dJx4a65c_add_72be8_19 : decode cJx4a65c_add_72be8 19 = .ok (.putfield 48, 3) := by decide +kernel
theorem dJx4a65c_add_72be8_22 : decode cJx4a65c_add_72be8 22 = .ok (.return_, 1) := by decide +kernel
set_option maxRecDepth 20000 in
theorem ggJx4a65c_add_9ea2d_Jx4a65c_add_72be8 : GoodIn wsJx4a65c_add_9ea2d wsJx4a65c_add_72be8 := goodIn_r _ [9, 4, 10, 11, 12, 8, 13, 14, 15, 16, 17, 3, 18, 19, 20, 21, 22, 23, 24, 25, 26, 27, 28, 29, 30, 31, 32, 33, 34, 35, 36, 37, 38, 39, 40, 41, 42, 43, 44, 45, 46, 47, 48, 49, 50, 51, 52, 53, 54, 55] (by decide +kernel) (by decide +kernel)
set_option maxRecDepth 20000 in
theorem gJx4a65c_add_9ea2d_Jx4a65c_add_72be8 : GoodIn wsJx4a65c_add_9ea2d (wsV RJx4a65c 131 RJx4a65c yJx4a65c_add_72be8 wsJx4a65c_add_72be8) := goodIn_app (goodIn_of _ (by decide +kernel)) ggJx4a65c_add_9ea2d_Jx4a65c_add_72be8
theorem dJx4a65c_add_9ea2d_0 : decode cJx4a65c_add_9ea2d 0 = .ok (.aload_n 0, 1) := by decide +kernel
theorem dJx4a65c_add_9ea2d_1 : decode cJx4a65c_add_9ea2d 1 = .ok (.dup, 1) := by decide +kernel
theorem dJx4a65c_add_9ea2d_2 : decode cJx4a65c_add_9ea2d 2 = .ok (.getfield 63, 3) := by decide +kernel
theorem dJx4a65c_add_9ea2d_5 : decode cJx4a65c_add_9ea2d 5 = .ok (.iconst 1, 1) := by decide +kernel
theorem dJx4a65c_add_9ea2d_6 : decode cJx4a65c_add_9ea2d 6 = .ok (.iadd, 1) := by decide +kernel
theorem dJx4a65c_add_9ea2d_7 : decode cJx4a65c_add_9ea2d 7 = .ok (.putfield 63, 3) := by decide +kernel
theorem dJx4a65c_add_9ea2d_10 : decode cJx4a65c_add_9ea2d 10 = .ok (.aload_n 0, 1) := by decide +kernel
theorem dJx4a65c_add_9ea2d_11 : decode cJx4a65c_add_9ea2d 11 = .ok (.aload_n 1, 1) := by decide +kernel
theorem dJx4a65c_add_9ea2d_12 : decode cJx4a65c_add_9ea2d 12 = .ok (.aload_n 0, 1) := by decide +kernel
theorem dJx4a65c_add_9ea2d_13 : decode cJx4a65c_add_9ea2d 13 = .ok (.getfield 9, 3) := by decide +kernel
theorem dJx4a65c_add_9ea2d_16 : decode cJx4a65c_add_9ea2d 16 = .ok (.aload_n 0, 1) := by decide +kernel
theorem dJx4a65c_add_9ea2d_17 : decode cJx4a65c_add_9ea2d 17 = .ok (.getfield 48, 3) := by decide +kernel
theorem dJx4a65c_add_9ea2d_20 : decode cJx4a65c_add_9ea2d 20 = .ok (.invokevirtual 131, 3) := by decide +kernel
theorem dJx4a65c_add_9ea2d_23 : decode cJx4a65c_add_9ea2d 23 = .ok (.iconst 1, 1) := by decide +kernel
theorem dJx4a65c_add_9ea2d_24 : decode cJx4a65c_add_9ea2d 24 = .ok (.ireturn, 1) := by decide +kernel
theorem dJ7_fill_53178_0 : decode cJ7_fill_53178 0 = .ok (.iconst 0, 1) := by decide +kernel
theorem dJ7_fill_53178_1 : decode cJ7_fill_53178 1 = .ok (.istore_n 2, 1) := by decide +kernel
theorem dJ7_fill_53178_2 : decode cJ7_fill_53178 2 = .ok (.aload_n 0, 1) := by decide +kernel
theorem dJ7_fill_53178_3 : decode cJ7_fill_53178 3 = .ok (.arraylength, 1) := by decide +kernel
theorem dJ7_fill_53178_4 : decode cJ7_fill_53178 4 = .ok (.istore_n 3, 1) := by decide +kernel
theorem dJ7_fill_53178_5 : decode cJ7_fill_53178 5 = .ok (.iload_n 2, 1) := by decide +kernel
theorem dJ7_fill_53178_6 : decode cJ7_fill_53178 6 = .ok (.iload_n 3, 1) := by decide +kernel
theorem dJ7_fill_53178_7 : decode cJ7_fill_53178 7 = .ok (.if_icmp .ge 13, 3) := by decide +kernel
theorem dJ7_fill_53178_10 : decode cJ7_fill_53178 10 = .ok (.aload_n 0, 1) := by decide +kernel
theorem dJ7_fill_53178_11 : decode cJ7_fill_53178 11 = .ok (.iload_n 2, 1) := by decide +kernel
theorem dJ7_fill_53178_12 : decode cJ7_fill_53178 12 = .ok (.iload_n 1, 1) := by decide +kernel
theorem dJ7_fill_53178_13 : decode cJ7_fill_53178 13 = .ok (.iastore, 1) := by decide +kernel
theorem dJ7_fill_53178_14 : decode cJ7_fill_53178 14 = .ok (.iinc 2 1, 3) := by decide +kernel
theorem dJ7_fill_53178_17 : decode cJ7_fill_53178 17 = .ok (.goto (-12), 3) := by decide +kernel
theorem dJ7_fill_53178_20 : decode cJ7_fill_53178 20 = .ok (.return_, 1) := by decide +kernel
set_option maxRecDepth 20000 in
theorem ggJ7_copyOf_1904c_J7_copyOf_6403c : GoodIn wsJ7_copyOf_1904c wsJ7_copyOf_6403c := goodIn_r _ [8, 9, 10, 11, 12, 13, 14, 15, 16, 17, 18] (by decide +kernel) (by decide +kernel)
set_option maxRecDepth 20000 in
theorem gJ7_copyOf_1904c_J7_copyOf_6403c : GoodIn wsJ7_copyOf_1904c (va_wsS RJ7 300 yJ7_copyOf_6403c wsJ7_copyOf_6403c) := goodIn_app (goodIn_of _ (by decide +kernel)) ggJ7_copyOf_1904c_J7_copyOf_6403c
theorem dJ7_copyOf_1904c_0 : decode cJ7_copyOf_1904c 0 = .ok (.aload_n 0, 1) := by decide +kernel
theorem dJ7_copyOf_1904c_1 : decode cJ7_copyOf_1904c 1 = .ok (.iload_n 1, 1) := by decide +kernel
theorem dJ7_copyOf_1904c_2 : decode cJ7_copyOf_1904c 2 = .ok (.aload_n 0, 1) := by decide +kernel
theorem dJ7_copyOf_1904c_3 : decode cJ7_copyOf_1904c 3 = .ok (.invokevirtual 86, 3) := by decide +kernel
theorem dJ7_copyOf_1904c_6 : decode cJ7_copyOf_1904c 6 = .ok (.invokestatic 300, 3) := by decide +kernel
theorem dJ7_copyOf_1904c_9 : decode cJ7_copyOf_1904c 9 = .ok (.areturn, 1) := by decide +kernel
theorem dJ7_copyOf_6403c_0 : decode cJ7_copyOf_6403c 0 = .ok (.aload_n 2, 1) := by decide +kernel
theorem dJ7_copyOf_6403c_1 : decode cJ7_copyOf_6403c 1 = .ok (.ldc 110, 2) := by decide +kernel
theorem dJ7_copyOf_6403c_3 : decode cJ7_copyOf_6403c 3 = .ok (.if_acmp .ne 10, 3) := by decide +kernel
theorem dJ7_copyOf_6403c_6 : decode cJ7_copyOf_6403c 6 = .ok (.iload_n 1, 1) := by decide +kernel
theorem dJ7_copyOf_6403c_7 : decode cJ7_copyOf_6403c 7 = .ok (.anewarray 2, 3) := by decide +kernel
theorem dJ7_copyOf_6403c_10 : decode cJ7_copyOf_6403c 10 = .ok (.goto 14, 3) := by decide +kernel
theorem dJ7_copyOf_6403c_13 : decode cJ7_copyOf_6403c 13 = .ok (.aload_n 2, 1) := by decide +kernel
theorem dJ7_copyOf_6403c_14 : decode cJ7_copyOf_6403c 14 = .ok (.invokevirtual 90, 3) := by decide +kernel
theorem dJ7_copyOf_6403c_17 : decode cJ7_copyOf_6403c 17 = .ok (.iload_n 1, 1) := by decide +kernel
theorem dJ7_copyOf_6403c_18 : decode cJ7_copyOf_6403c 18 = .ok (.invokestatic 95, 3) := by decide +kernel
theorem dJ7_copyOf_6403c_21 : decode cJ7_copyOf_6403c 21 = .ok (.checkcast 110, 3) := by decide +kernel
theorem dJ7_copyOf_6403c_24 : decode cJ7_copyOf_6403c 24 = .ok (.astore_n 3, 1) := by decide +kernel
theorem dJ7_copyOf_6403c_25 : decode cJ7_copyOf_6403c 25 = .ok (.aload_n 0, 1) := by decide +kernel
theorem dJ7_copyOf_6403c_26 : decode cJ7_copyOf_6403c 26 = .ok (.iconst 0, 1) := by decide +kernel
theorem dJ7_copyOf_6403c_27 : decode cJ7_copyOf_6403c 27 = .ok (.aload_n 3, 1) := by decide +kernel
theorem dJ7_copyOf_6403c_28 : decode cJ7_copyOf_6403c 28 = .ok (.iconst 0, 1) := by decide +kernel
theorem dJ7_copyOf_6403c_29 : decode cJ7_copyOf_6403c 29 = .ok (.aload_n 0, 1) := by decide +kernel
theorem dJ7_copyOf_6403c_30 : decode cJ7_copyOf_6403c 30 = .ok (.arraylength, 1) := by decide +kernel
theorem dJ7_copyOf_6403c_31 : decode cJ7_copyOf_6403c 31 = .ok (.iload_n 1, 1) := by decide +kernel
theorem dJ7_copyOf_6403c_32 : decode cJ7_copyOf_6403c 32 = .ok (.invokestatic 304, 3) := by decide +kernel
theorem dJ7_copyOf_6403c_35 : decode cJ7_copyOf_6403c 35 = .ok (.invokestatic 150, 3) := by decide +kernel
theorem dJ7_copyOf_6403c_38 : decode cJ7_copyOf_6403c 38 = .ok (.aload_n 3, 1) := by decide +kernel
theorem dJ7_copyOf_6403c_39 : decode cJ7_copyOf_6403c 39 = .ok (.areturn, 1) := by decide +kernel
set_option maxRecDepth 20000 in
theorem ggJ15_checkIndex_7cf53_J3_checkIndex_8e157 : GoodIn wsJ15_checkIndex_7cf53 wsJ3_checkIndex_8e157 := goodIn_r _ [4] (by decide +kernel) (by decide +kernel)
set_option maxRecDepth 20000 in
theorem gJ15_checkIndex_7cf53_J3_checkIndex_8e157 : GoodIn wsJ15_checkIndex_7cf53 (va_wsS RJ15 105 yJ3_checkIndex_8e157 wsJ3_checkIndex_8e157) := goodIn_app (goodIn_of _ (by decide +kernel)) ggJ15_checkIndex_7cf53_J3_checkIndex_8e157
theorem dJ15_checkIndex_7cf53_0 : decode cJ15_checkIndex_7cf53 0 = .ok (.iload_n 0, 1) := by decide +kernel
theorem dJ15_checkIndex_7cf53_1 : decode cJ15_checkIndex_7cf53 1 = .ok (.iload_n 1, 1) := by decide +kernel
theorem dJ15_checkIndex_7cf53_2 : decode cJ15_checkIndex_7cf53 2 = .ok (.aconst_null, 1) := by decide +kernel
theorem dJ15_checkIndex_7cf53_3 : decode cJ15_checkIndex_7cf53 3 = .ok (.invokestatic 105, 3) := by decide +kernel
theorem dJ15_checkIndex_7cf53_6 : decode cJ15_checkIndex_7cf53 6 = .ok (.ireturn, 1) := by decide +kernel
set_option maxRecDepth 20000 in
theorem ggJ8_newLength_cabcc_J8_hugeLength_7cf53 : GoodIn wsJ8_newLength_cabcc wsJ8_hugeLength_7cf53 := goodIn_r _ [9, 5] (by decide +kernel) (by decide +kernel)
set_option maxRecDepth 20000 in
theorem gJ8_newLength_cabcc_J8_hugeLength_7cf53 : GoodIn wsJ8_newLength_cabcc (va_wsS RJ8 201 yJ8_hugeLength_7cf53 wsJ8_hugeLength_7cf53) := goodIn_app (goodIn_of _ (by decide +kernel)) ggJ8_newLength_cabcc_J8_hugeLength_7cf53
theorem dJ8_newLength_cabcc_0 : decode cJ8_newLength_cabcc 0 = .ok (.iload_n 0, 1) := by decide +kernel
theorem dJ8_newLength_cabcc_1 : decode cJ8_newLength_cabcc 1 = .ok (.iload_n 1, 1) := by decide +kernel
theorem dJ8_newLength_cabcc_2 : decode cJ8_newLength_cabcc 2 = .ok (.iload_n 2, 1) := by decide +kernel
theorem dJ8_newLength_cabcc_3 : decode cJ8_newLength_cabcc 3 = .ok (.invokestatic 194, 3) := by decide +kernel
theorem dJ8_newLength_cabcc_6 : decode cJ8_newLength_cabcc 6 = .ok (.iadd, 1) := by decide +kernel
theorem dJ8_newLength_cabcc_7 : decode cJ8_newLength_cabcc 7 = .ok (.istore_n 3, 1) := by decide +kernel
theorem dJ8_newLength_cabcc_8 : decode cJ8_newLength_cabcc 8 = .ok (.iconst 0, 1) := by decide +kernel
theorem dJ8_newLength_cabcc_9 : decode cJ8_newLength_cabcc 9 = .ok (.iload_n 3, 1) := by decide +kernel
theorem dJ8_newLength_cabcc_10 : decode cJ8_newLength_cabcc 10 = .ok (.if_icmp .ge 11, 3) := by decide +kernel
theorem dJ8_newLength_cabcc_13 : decode cJ8_newLength_cabcc 13 = .ok (.iload_n 3, 1) := by decide +kernel
theorem dJ8_newLength_cabcc_14 : decode cJ8_newLength_cabcc 14 = .ok (.ldc 200, 2) := by decide +kernel
theorem dJ8_newLength_cabcc_16 : decode cJ8_newLength_cabcc 16 = .ok (.if_icmp .gt 5, 3) := by decide +kernel
theorem dJ8_newLength_cabcc_19 : decode cJ8_newLength_cabcc 19 = .ok (.iload_n 3, 1) := by decide +kernel
theorem dJ8_newLength_cabcc_20 : decode cJ8_newLength_cabcc 20 = .ok (.ireturn, 1) := by decide +kernel
theorem dJ8_newLength_cabcc_21 : decode cJ8_newLength_cabcc 21 = .ok (.iload_n 0, 1) := by decide +kernel
theorem dJ8_newLength_cabcc_22 : decode cJ8_newLength_cabcc 22 = .ok (.iload_n 1, 1) := by decide +kernel
theorem dJ8_newLength_cabcc_23 : decode cJ8_newLength_cabcc 23 = .ok (.invokestatic 201, 3) := by decide +kernel
theorem dJ8_newLength_cabcc_26 : decode cJ8_newLength_cabcc 26 = .ok (.ireturn, 1) := by decide +kernel
theorem dJ8_hugeLength_7cf53_0 : decode cJ8_hugeLength_7cf53 0 = .ok (.iload_n 0, 1) := by decide +kernel
theorem dJ8_hugeLength_7cf53_1 : decode cJ8_hugeLength_7cf53 1 = .ok (.iload_n 1, 1) := by decide +kernel
theorem dJ8_hugeLength_7cf53_2 : decode cJ8_hugeLength_7cf53 2 = .ok (.iadd, 1) := by decide +kernel
theorem dJ8_hugeLength_7cf53_3 : decode cJ8_hugeLength_7cf53 3 = .ok (.istore_n 2, 1) := by decide +kernel
theorem dJ8_hugeLength_7cf53_4 : decode cJ8_hugeLength_7cf53 4 = .ok (.iload_n 2, 1) := by decide +kernel
theorem dJ8_hugeLength_7cf53_5 : decode cJ8_hugeLength_7cf53 5 = .ok (.ifCond .ge 44, 3) := by decide +kernel
theorem dJ8_hugeLength_7cf53_8 : decode cJ8_hugeLength_7cf53 8 = .ok (.new 204, 3) := by decide +kernel
theorem dJ8_hugeLength_7cf53_11 : decode cJ8_hugeLength_7cf53 11 = .ok (.dup, 1) := by decide +kernel
theorem dJ8_hugeLength_7cf53_12 : decode cJ8_hugeLength_7cf53 12 = .ok (.new 89, 3) := by decide +kernel
theorem dJ8_hugeLength_7cf53_15 : decode cJ8_hugeLength_7cf53 15 = .ok (.dup, 1) := by decide +kernel
theorem dJ8_hugeLength_7cf53_16 : decode cJ8_hugeLength_7cf53 16 = .ok (.invokespecial 91, 3) := by decide +kernel
theorem dJ8_hugeLength_7cf53_19 : decode cJ8_hugeLength_7cf53 19 = .ok (.ldc 206, 2) := by decide +kernel
theorem dJ8_hugeLength_7cf53_21 : decode cJ8_hugeLength_7cf53 21 = .ok (.invokevirtual 94, 3) := by decide +kernel
theorem dJ8_hugeLength_7cf53_24 : decode cJ8_hugeLength_7cf53 24 = .ok (.iload_n 0, 1) := by decide +kernel
theorem dJ8_hugeLength_7cf53_25 : decode cJ8_hugeLength_7cf53 25 = .ok (.invokevirtual 98, 3) := by decide +kernel
theorem dJ8_hugeLength_7cf53_28 : decode cJ8_hugeLength_7cf53 28 = .ok (.ldc 208, 2) := by decide +kernel
theorem dJ8_hugeLength_7cf53_30 : decode cJ8_hugeLength_7cf53 30 = .ok (.invokevirtual 94, 3) := by decide +kernel
theorem dJ8_hugeLength_7cf53_33 : decode cJ8_hugeLength_7cf53 33 = .ok (.iload_n 1, 1) := by decide +kernel
theorem dJ8_hugeLength_7cf53_34 : decode cJ8_hugeLength_7cf53 34 = .ok (.invokevirtual 98, 3) := by decide +kernel
theorem dJ8_hugeLength_7cf53_37 : decode cJ8_hugeLength_7cf53 37 = .ok (.ldc 210, 2) := by decide +kernel
theorem dJ8_hugeLength_7cf53_39 : decode cJ8_hugeLength_7cf53 39 = .ok (.invokevirtual 94, 3) := by decide +kernel
theorem dJ8_hugeLength_7cf53_42 : decode cJ8_hugeLength_7cf53 42 = .ok (.invokevirtual 101, 3) := by decide +kernel
theorem dJ8_hugeLength_7cf53_45 : decode cJ8_hugeLength_7cf53 45 = .ok (.invokespecial 212, 3) := by decide +kernel
theorem dJ8_hugeLength_7cf53_48 : decode cJ8_hugeLength_7cf53 48 = .ok (.athrow, 1) := by decide +kernel
theorem dJ8_hugeLength_7cf53_49 : decode cJ8_hugeLength_7cf53 49 = .ok (.iload_n 2, 1) := by decide +kernel
theorem dJ8_hugeLength_7cf53_50 : decode cJ8_hugeLength_7cf53 50 = .ok (.ldc 200, 2) := by decide +kernel
theorem dJ8_hugeLength_7cf53_52 : decode cJ8_hugeLength_7cf53 52 = .ok (.if_icmp .gt 6, 3) := by decide +kernel
theorem dJ8_hugeLength_7cf53_55 : decode cJ8_hugeLength_7cf53 55 = .ok (.ldc 200, 2) := by decide +kernel
theorem dJ8_hugeLength_7cf53_57 : decode cJ8_hugeLength_7cf53 57 = .ok (.ireturn, 1) := by decide +kernel
theorem dJ8_hugeLength_7cf53_58 : decode cJ8_hugeLength_7cf53 58 = .ok (.iload_n 2, 1) := by decide +kernel
theorem dJ8_hugeLength_7cf53_59 : decode cJ8_hugeLength_7cf53 59 = .ok (.ireturn, 1) := by decide +kernel
theorem dJ3_checkIndex_8e157_0 : decode cJ3_checkIndex_8e157 0 = .ok (.iload_n 0, 1) := by decide +kernel
theorem dJ3_checkIndex_8e157_1 : decode cJ3_checkIndex_8e157 1 = .ok (.ifCond .lt 8, 3) := by decide +kernel
theorem dJ3_checkIndex_8e157_4 : decode cJ3_checkIndex_8e157 4 = .ok (.iload_n 0, 1) := by decide +kernel
theorem dJ3_checkIndex_8e157_5 : decode cJ3_checkIndex_8e157 5 = .ok (.iload_n 1, 1) := by decide +kernel
theorem dJ3_checkIndex_8e157_6 : decode cJ3_checkIndex_8e157 6 = .ok (.if_icmp .lt 10, 3) := by decide +kernel
theorem dJ3_checkIndex_8e157_9 : decode cJ3_checkIndex_8e157 9 = .ok (.aload_n 2, 1) := by decide +kernel
theorem dJ3_checkIndex_8e157_10 : decode cJ3_checkIndex_8e157 10 = .ok (.iload_n 0, 1) := by decide +kernel
theorem dJ3_checkIndex_8e157_11 : decode cJ3_checkIndex_8e157 11 = .ok (.iload_n 1, 1) := by decide +kernel
theorem dJ3_checkIndex_8e157_12 : decode cJ3_checkIndex_8e157 12 = .ok (.invokestatic 95, 3) := by decide +kernel
theorem dJ3_checkIndex_8e157_15 : decode cJ3_checkIndex_8e157 15 = .ok (.athrow, 1) := by decide +kernel
theorem dJ3_checkIndex_8e157_16 : decode cJ3_checkIndex_8e157 16 = .ok (.iload_n 0, 1) := by decide +kernel
theorem dJ3_checkIndex_8e157_17 : decode cJ3_checkIndex_8e157 17 = .ok (.ireturn, 1) := by decide +kernel
end
section
/-! the world by labels: Ls the labels in use, ad where each lies, G what each holds -/
def wl (Ls : List Nat) (ad : Nat → Nat) (G : Nat → va_E) : va_W := Ls.map (fun j => (ad j, G j))
theorem wl_get {Ls : List Nat} {ad : Nat → Nat} {G : Nat → va_E} {j : Nat} (h : j ∈ Ls) : ∃ k : Nat, Ls[k]? = some j ∧ (wl Ls ad G)[k]? = some (ad j, G j) := by
  obtain ⟨k, hk⟩ := List.getElem?_of_mem h
  exact ⟨k, hk, by rw [wl, List.getElem?_map, hk]; rfl⟩
theorem wl_lab {Ls : List Nat} {ad : Nat → Nat} {G : Nat → va_E} {k : Nat} {q : Nat × va_E} (h : (wl Ls ad G)[k]? = some q) : ∃ j : Nat, Ls[k]? = some j ∧ q = (ad j, G j) := by
  rw [wl, List.getElem?_map] at h
  cases hj : Ls[k]? with
  | none => rw [hj] at h; cases h
  | some j => rw [hj] at h; exact ⟨j, rfl, (Option.some.inj h).symm⟩
theorem wl_inj {A : Nat → Prop} {Ls : List Nat} {ad : Nat → Nat} {G : Nat → va_E} (hD : va_D A (wl Ls ad G)) {i j : Nat} (hi : i ∈ Ls) (hj : j ∈ Ls) (h : ad i = ad j) : i = j := by
  obtain ⟨a, ha, ga⟩ := wl_get (ad := ad) (G := G) hi
  obtain ⟨b, hb, gb⟩ := wl_get (ad := ad) (G := G) hj
  have e := hD.1 a b _ _ ga gb h
  subst e
  rw [ha] at hb
  exact Option.some.inj hb
theorem wl_set {A : Nat → Prop} {Ls : List Nat} {ad : Nat → Nat} {G : Nat → va_E} {j k : Nat} {e : va_E} (hD : va_D A (wl Ls ad G)) (hk : Ls[k]? = some j) : (wl Ls ad G).set k (ad j, e) = wl Ls ad (va_up G j e) := by
  have hl : k < Ls.length := (List.getElem?_eq_some_iff.mp hk).1
  have hl2 : k < (wl Ls ad G).length := by rw [wl, List.length_map]; exact hl
  refine List.ext_getElem? fun i => ?_
  by_cases hik : i = k
  · subst hik
    rw [List.getElem?_set_self hl2, wl, List.getElem?_map, hk]
    simp [va_up]
  · rw [List.getElem?_set_ne (Ne.symm hik)]
    cases hi : Ls[i]? with
    | none => rw [wl, wl, List.getElem?_map, List.getElem?_map, hi]; rfl
    | some x =>
      have hx : x ≠ j := by
        intro h
        subst h
        have g1 : (wl Ls ad G)[i]? = some (ad x, G x) := by rw [wl, List.getElem?_map, hi]; rfl
        have g2 : (wl Ls ad G)[k]? = some (ad x, G x) := by rw [wl, List.getElem?_map, hk]; rfl
        exact hik (hD.1 i k _ _ g1 g2 rfl)
      rw [wl, wl, List.getElem?_map, List.getElem?_map, hi]
      simp [va_up, hx]
theorem wl_push {Ls : List Nat} {ad : Nat → Nat} {G : Nat → va_E} {j q : Nat} {e : va_E} (hj : j ∉ Ls) : wl Ls ad G ++ [(q, e)] = wl (Ls ++ [j]) (va_up ad j q) (va_up G j e) := by
  rw [wl, wl, List.map_append, List.map_singleton, va_up_self, va_up_self]
  refine congrArg (fun z => z ++ [(q, e)]) (List.map_congr_left fun a ha => ?_)
  have hn : a ≠ j := fun h => hj (h ▸ ha)
  rw [va_up_ne _ _ hn, va_up_ne _ _ hn]
/-- the array types of the world: their classes are y 0 .. y 4 -/
abbrev TY (y : Nat → ClassId) : List (ClassId × FieldType) := [(y 0, .int), (y 1, .char), (y 2, .boolean), (y 3, .object "java/lang/Object"), (y 4, .long)]
/-- the words among nest mates -/
def nestW : List Cond := [.methodLinkNest "StorageCharge" 9 ⟨"StorageCharge$Text", "<init>", "()V"⟩ "StorageCharge", .fieldLinkNest "StorageCharge" 74 "StorageCharge$Text" "length" "I" "StorageCharge", .fieldLinkNest "StorageCharge" 264 "StorageCharge$Text" "place" "I" "StorageCharge", .fieldLinkNest "StorageCharge" 233 "StorageCharge$Charges" "lines" "I" "StorageCharge", .fieldLinkNest "StorageCharge" 238 "StorageCharge$Charges" "owners" "I" "StorageCharge", .methodLinkNest "StorageCharge" 38 ⟨"StorageCharge$Bills", "<init>", "()V"⟩ "StorageCharge", .fieldLinkNest "StorageCharge" 214 "StorageCharge$Bills" "lines" "Ljava/util/ArrayList;" "StorageCharge", .methodLinkNest "StorageCharge" 45 ⟨"StorageCharge$Paper", "<init>", "()V"⟩ "StorageCharge", .fieldLinkNest "StorageCharge" 229 "StorageCharge$Paper" "signs" "[C" "StorageCharge", .fieldLinkNest "StorageCharge" 223 "StorageCharge$Paper" "length" "I" "StorageCharge", .methodLinkNest "StorageCharge" 78 ⟨"StorageCharge$Charges", "clear", "()V"⟩ "StorageCharge", .methodLinkNest "StorageCharge$Text" 26 ⟨"StorageCharge", "isWithin", "(III)Z"⟩ "StorageCharge", .methodLinkNest "StorageCharge$Charges" 49 ⟨"StorageCharge", "isWithin", "(III)Z"⟩ "StorageCharge", .fieldLinkNest "StorageCharge" 291 "StorageCharge$Unit" "owner" "I" "StorageCharge", .fieldLinkNest "StorageCharge" 302 "StorageCharge$Unit" "firstDay" "I" "StorageCharge", .fieldLinkNest "StorageCharge" 308 "StorageCharge$Unit" "lastDay" "I" "StorageCharge", .fieldLinkNest "StorageCharge" 251 "StorageCharge$Unit" "isGone" "Z" "StorageCharge", .fieldLinkNest "StorageCharge" 279 "StorageCharge$Move" "owner" "I" "StorageCharge", .fieldLinkNest "StorageCharge" 326 "StorageCharge$Move" "kind" "I" "StorageCharge", .fieldLinkNest "StorageCharge" 320 "StorageCharge$Move" "day" "I" "StorageCharge", .fieldLinkNest "StorageCharge" 323 "StorageCharge$Move" "pieces" "I" "StorageCharge", .fieldLinkNest "StorageCharge$Bills" 32 "StorageCharge$BillLine" "owner" "I" "StorageCharge", .fieldLinkNest "StorageCharge" 217 "StorageCharge$BillLine" "owner" "I" "StorageCharge", .fieldLinkNest "StorageCharge$Paper" 29 "StorageCharge$BillLine" "month" "I" "StorageCharge", .fieldLinkNest "StorageCharge$Bills" 36 "StorageCharge$BillLine" "month" "I" "StorageCharge", .fieldLinkNest "StorageCharge" 198 "StorageCharge$BillLine" "month" "I" "StorageCharge", .fieldLinkNest "StorageCharge$Paper" 35 "StorageCharge$BillLine" "cents" "I" "StorageCharge", .fieldLinkNest "StorageCharge$Bills" 39 "StorageCharge$BillLine" "cents" "I" "StorageCharge", .fieldLinkNest "StorageCharge" 201 "StorageCharge$BillLine" "cents" "I" "StorageCharge", .fieldLinkNest "StorageCharge$Paper" 19 "StorageCharge$BillLine" "isCorrection" "Z" "StorageCharge", .fieldLinkNest "StorageCharge" 204 "StorageCharge$BillLine" "isCorrection" "Z" "StorageCharge"]
theorem nestW_warm {s U : State} (hW : s.WarmedH U.vm) (h : ∀ w ∈ nestW, va_Nw w s) : ∀ w ∈ nestW, va_Nw w U := by
  intro w hw
  have hs := h w hw
  simp only [nestW, List.mem_cons, List.not_mem_nil, or_false] at hw
  rcases hw with rfl | rfl | rfl | rfl | rfl | rfl | rfl | rfl | rfl | rfl | rfl | rfl | rfl | rfl | rfl | rfl | rfl | rfl | rfl | rfl | rfl | rfl | rfl | rfl | rfl | rfl | rfl | rfl | rfl | rfl | rfl <;> first | exact va_Nw.warmF hW hs | exact va_Nw.warmM hW hs
theorem nestW_same {u U : State} (hv : u.vm = U.vm) (h : ∀ w ∈ nestW, va_Nw w u) : ∀ w ∈ nestW, va_Nw w U := by
  intro w hw
  have hs := h w hw
  have ht : w.onTables = true := (by decide +kernel : ∀ w ∈ nestW, w.onTables = true) w hw
  exact va_Nw.same ht hv hs
/-- what a method that only reads is told: the world, the tables, the nest words -/
def Wd (D : va_G) (y : Nat → ClassId) (ws : va_W) (U : State) : Prop := va_P D vwCl ws U.heap ∧ va_K D vwCl (TY y) U ∧ ∀ w ∈ nestW, va_Nw w U
theorem Wd_blind {D : va_G} {y : Nat → ClassId} {ws : va_W} {av : List Value} : FrameBlind (va_Pc av (Wd D y ws)) := fun a U g mk q => ⟨q.1, q.2.1, va_K.moved (u := U) (U := U.calling g mk a) (Vm.Alike.refl U.vm) q.2.2.1, nestW_same (u := U) (U := U.calling g mk a) rfl q.2.2.2⟩
theorem Wd_at {D : va_G} {y : Nat → ClassId} {ws : va_W} {s : State} {H : Heap} {av : List Value} (hP : va_P D vwCl ws H) (hK : va_K D vwCl (TY y) s) (hN : ∀ w ∈ nestW, va_Nw w s) : ∀ U : State, U.heap = H → s.WarmedH U.vm → va_Pc av (Wd D y ws) av.toArray U := fun U hU hW => ⟨rfl, by rw [hU]; exact hP, va_K.moved hW.alike hK, nestW_warm hW hN⟩
theorem Wd_recv {s : State} {H : Heap} {D : va_G} {ci : Nat} {q : vw_C} {fs : List Value} {Ls : List Nat} {ad : Nat → Nat} {G : Nat → va_E} {j : Nat} {tys : List (ClassId × FieldType)} (hK : va_K D vwCl tys s) (hP : va_P D vwCl (wl Ls ad G) H) (hc : vwCl[ci]? = some q) (hj : j ∈ Ls) (he : G j = .inr (ci, fs)) : ∃ cell : Cell, H[ad j]? = some cell ∧ cell.vm.isStatics = false ∧ s.vm.findClass q.1 = some cell.cls := by
  obtain ⟨k, -, hk⟩ := wl_get (ad := ad) (G := G) hj
  exact va_recv hK hP hc (by rw [hk, he])
section PV
variable {p : Program} {l : Launch} {e : Env} {R : Room} {s : State} {m : MethodId} {args : Array Value} {below : List Frame} {meth : Method} {c : Code} {H : Heap} {locs : List Loc} {cells slots : Nat} {Q : State → Prop}
variable {cc : ByteArray} {pc : Nat} {ls : Array Slot} {rest : List Value} {D : va_G} {cl : List vw_C} {A : Nat → Prop} {tys : List (ClassId × FieldType)} {Ls : List Nat} {ad : Nat → Nat} {G : Nat → va_E} {H0 : Heap} {j : Nat}
theorem pv_get (hexec : p.tables.exec = Jvm.exec) (hb : c.code = cc) {own ref C : String} {T : u_T} {N ci index : Nat} {Ts : List Cond} (hts : ∀ w ∈ Ts, w.before args s = true) (hin : ∀ w ∈ u_ws C T N, w ∈ Ts) (hown : s.vm.findClass own = some m.cls) (hK : va_K D cl tys s) (hP : va_P D cl (wl Ls ad G) H) (hj : j ∈ Ls) {fs : List Value} (he : G j = .inr (ci, fs)) (hc : cl[ci]? = some (C, T, N)) (k : Nat) (hk : k < N) (hlink : (Cond.fieldLink own index ref (T k).2.1 (T k).2.2.1).before args s = true) (hsame : ∀ x, s.fieldFound? (T k).1 (T k).2.1 (T k).2.2.1 = some x → s.fieldFound? ref (T k).2.1 (T k).2.2.1 = some x) {v : Value} (hv : fs[k]? = some v) (hdg : decode cc pc = .ok (.getfield index, 3))
    (kk : W p l e R s m args below meth c H locs cells slots Q (F0 m (pc + 3) ls (v :: rest))) : W p l e R s m args below meth c H locs cells slots Q (F0 m pc ls (.ref (ad j) :: rest)) := by
  obtain ⟨q0, -, hq⟩ := wl_get (ad := ad) (G := G) hj
  exact va_get hexec hb hts hin hown hK hP q0 (by rw [hq, he]) hc k hk hlink hsame hv hdg kk
theorem pv_getN (hexec : p.tables.exec = Jvm.exec) (hb : c.code = cc) {own ref C host : String} {T : u_T} {N ci index : Nat} {Ts : List Cond} (hts : ∀ w ∈ Ts, w.before args s = true) (hin : ∀ w ∈ u_ws C T N, w ∈ Ts) (hown : s.vm.findClass own = some m.cls) (hK : va_K D cl tys s) (hP : va_P D cl (wl Ls ad G) H) (hj : j ∈ Ls) {fs : List Value} (he : G j = .inr (ci, fs)) (hc : cl[ci]? = some (C, T, N)) (k : Nat) (hk : k < N) (hN : ∀ w ∈ nestW, va_Nw w s) (hlink : Cond.fieldLinkNest own index ref (T k).2.1 (T k).2.2.1 host ∈ nestW) (hsame : ∀ x, s.fieldFound? (T k).1 (T k).2.1 (T k).2.2.1 = some x → s.fieldFound? ref (T k).2.1 (T k).2.2.1 = some x) {v : Value} (hv : fs[k]? = some v) (hdg : decode cc pc = .ok (.getfield index, 3))
    (kk : W p l e R s m args below meth c H locs cells slots Q (F0 m (pc + 3) ls (v :: rest))) : W p l e R s m args below meth c H locs cells slots Q (F0 m pc ls (.ref (ad j) :: rest)) := by
  obtain ⟨q0, -, hq⟩ := wl_get (ad := ad) (G := G) hj
  exact va_getN hexec hb hts hin hown hK hP q0 (by rw [hq, he]) hc k hk (va_Nw.use rfl (hN _ hlink)) hsame hv hdg kk
theorem pv_iald (hexec : p.tables.exec = Jvm.exec) (hb : c.code = cc) (hK : va_K D cl tys s) (hP : va_P D cl (wl Ls ad G) H) (hj : j ∈ Ls) (t0 : Nat) {cA : ClassId} {n : Nat} {f : Nat → Int32} (ha : G j = .inl (cA, n, .inl f)) (ht : tys[t0]? = some (cA, .int)) {i : Int32} {k : Nat} (hi : i = nI k) (hk : k < n) (hn : n < 2 ^ 31) (hdg : decode cc pc = .ok (.iaload, 1))
    (kk : W p l e R s m args below meth c H locs cells slots Q (F0 m (pc + 1) ls (.int (f k) :: rest))) : W p l e R s m args below meth c H locs cells slots Q (F0 m pc ls (.int i :: .ref (ad j) :: rest)) := by
  obtain ⟨q0, -, hq⟩ := wl_get (ad := ad) (G := G) hj
  subst hi
  exact va_iald hexec hb hK hP q0 t0 (by rw [hq, ha]) ht (vp_in_nI hk hn) hdg (by rw [nI_clamp (by omega)]; exact kk)
theorem pv_cald (hexec : p.tables.exec = Jvm.exec) (hb : c.code = cc) (hK : va_K D cl tys s) (hP : va_P D cl (wl Ls ad G) H) (hj : j ∈ Ls) (t0 : Nat) {cA : ClassId} {n : Nat} {f : Nat → Int32} (ha : G j = .inl (cA, n, .inl f)) (ht : tys[t0]? = some (cA, .char)) {i : Int32} {k : Nat} (hi : i = nI k) (hk : k < n) (hn : n < 2 ^ 31) (hdg : decode cc pc = .ok (.caload, 1))
    (kk : W p l e R s m args below meth c H locs cells slots Q (F0 m (pc + 1) ls (.int (f k) :: rest))) : W p l e R s m args below meth c H locs cells slots Q (F0 m pc ls (.int i :: .ref (ad j) :: rest)) := by
  obtain ⟨q0, -, hq⟩ := wl_get (ad := ad) (G := G) hj
  subst hi
  exact va_cald hexec hb hK hP q0 t0 (by rw [hq, ha]) ht (vp_in_nI hk hn) hdg (by rw [nI_clamp (by omega)]; exact kk)
theorem pv_zald (hexec : p.tables.exec = Jvm.exec) (hb : c.code = cc) (hK : va_K D cl tys s) (hP : va_P D cl (wl Ls ad G) H) (hj : j ∈ Ls) (t0 : Nat) {cA : ClassId} {n : Nat} {f : Nat → Int32} (ha : G j = .inl (cA, n, .inl f)) (ht : tys[t0]? = some (cA, .boolean)) {i : Int32} {k : Nat} (hi : i = nI k) (hk : k < n) (hn : n < 2 ^ 31) (hdg : decode cc pc = .ok (.baload, 1))
    (kk : W p l e R s m args below meth c H locs cells slots Q (F0 m (pc + 1) ls (.int (f k) :: rest))) : W p l e R s m args below meth c H locs cells slots Q (F0 m pc ls (.int i :: .ref (ad j) :: rest)) := by
  obtain ⟨q0, -, hq⟩ := wl_get (ad := ad) (G := G) hj
  subst hi
  exact va_zald hexec hb hK hP q0 t0 (by rw [hq, ha]) ht (vp_in_nI hk hn) hdg (by rw [nI_clamp (by omega)]; exact kk)
theorem pv_aald (hexec : p.tables.exec = Jvm.exec) (hb : c.code = cc) (hK : va_K D cl tys s) (hP : va_P D cl (wl Ls ad G) H) (hj : j ∈ Ls) (t0 : Nat) {cA : ClassId} {C : String} {n : Nat} {f : Nat → Option Nat} (ha : G j = .inl (cA, n, .inr (.inr (.inr (.inr f))))) (ht : tys[t0]? = some (cA, .object C)) {i : Int32} {k : Nat} (hi : i = nI k) (hk : k < n) (hn : n < 2 ^ 31) (hdg : decode cc pc = .ok (.aaload, 1)) {a : Nat} (hf : f k = some a)
    (kk : W p l e R s m args below meth c H locs cells slots Q (F0 m (pc + 1) ls (.ref a :: rest))) : W p l e R s m args below meth c H locs cells slots Q (F0 m pc ls (.int i :: .ref (ad j) :: rest)) := by
  obtain ⟨q0, -, hq⟩ := wl_get (ad := ad) (G := G) hj
  subst hi
  exact va_aldq hexec hb hK hP q0 t0 (by rw [hq, ha]) ht (vp_in_nI hk hn) hdg (by rw [nI_clamp (by omega), hf]; exact kk)
theorem pv_alen (hexec : p.tables.exec = Jvm.exec) (hb : c.code = cc) (hK : va_K D cl tys s) (hP : va_P D cl (wl Ls ad G) H) (hj : j ∈ Ls) (t0 : Nat) {cA : ClassId} {x : vp_A} (ha : G j = .inl (cA, x)) {ty : FieldType} (ht : tys[t0]? = some (cA, ty)) {n : Nat} (hn : x.1 = n) (hdg : decode cc pc = .ok (.arraylength, 1))
    (kk : W p l e R s m args below meth c H locs cells slots Q (F0 m (pc + 1) ls (.int (nI n) :: rest))) : W p l e R s m args below meth c H locs cells slots Q (F0 m pc ls (.ref (ad j) :: rest)) := by
  obtain ⟨q0, -, hq⟩ := wl_get (ad := ad) (G := G) hj
  subst hn
  exact va_alen hexec hb hK hP q0 t0 (by rw [hq, ha]) ht rfl hdg kk
theorem pv_put (hexec : p.tables.exec = Jvm.exec) (hb : c.code = cc) {own ref C : String} {T : u_T} {N ci index : Nat} {Ts : List Cond} (hts : ∀ w ∈ Ts, w.before args s = true) (hin : ∀ w ∈ u_ws C T N, w ∈ Ts) (ty0 : Nat → FieldType) (hty : ∀ k, k < N → parseFieldDescriptor (T k).2.2.1 = some (ty0 k)) (hnm : ∀ a, a < N → ∀ b, b < N → a ≠ b → (T a).2.1 ≠ (T b).2.1) (hown : s.vm.findClass own = some m.cls) (hK : va_K D cl tys s) (hP : va_P D cl (wl Ls ad G) H) (hD : va_D A (wl Ls ad G)) (hS0 : va_S A H0 H locs) (hj : j ∈ Ls) {fs : List Value} (he : G j = .inr (ci, fs)) (hc : cl[ci]? = some (C, T, N)) (k : Nat) (hk : k < N) (hlink : (Cond.fieldLink own index ref (T k).2.1 (T k).2.2.1).before args s = true) (hsame : ∀ x, s.fieldFound? (T k).1 (T k).2.1 (T k).2.2.1 = some x → s.fieldFound? ref (T k).2.1 (T k).2.2.1 = some x) (hfin : (T k).2.2.2 = false) {ty : FieldType} {v : Value} (hd : parseFieldDescriptor (T k).2.2.1 = some ty) (hn : narrow ty v = v) (hfit : fits ty v = true) (hl : k < fs.length)
    (hdg : decode cc pc = .ok (.putfield index, 3)) (kk : ∀ (H1 : Heap) (locs1 : List Loc), va_P D cl (wl Ls ad (va_up G j (.inr (ci, fs.set k v)))) H1 → va_D A (wl Ls ad (va_up G j (.inr (ci, fs.set k v)))) → va_S A H0 H1 locs1 → W p l e R s m args below meth c H1 locs1 cells slots Q (F0 m (pc + 3) ls rest)) : W p l e R s m args below meth c H locs cells slots Q (F0 m pc ls (v :: .ref (ad j) :: rest)) := by
  obtain ⟨q0, hq0, hq⟩ := wl_get (ad := ad) (G := G) hj
  refine va_put hexec hb hts hin ty0 hty hnm hown hK hP hD hS0 q0 (by rw [hq, he]) hc k hk hlink hsame hfin hd hn hfit hl hdg fun H1 locs1 h1 h2 h3 => ?_
  rw [wl_set hD hq0] at h1 h2
  exact kk H1 locs1 h1 h2 h3
theorem pv_putF (hexec : p.tables.exec = Jvm.exec) (hb : c.code = cc) {own ref C : String} {T : u_T} {N ci index : Nat} {Ts : List Cond} (hts : ∀ w ∈ Ts, w.before args s = true) (hin : ∀ w ∈ u_ws C T N, w ∈ Ts) (ty0 : Nat → FieldType) (hty : ∀ k, k < N → parseFieldDescriptor (T k).2.2.1 = some (ty0 k)) (hnm : ∀ a, a < N → ∀ b, b < N → a ≠ b → (T a).2.1 ≠ (T b).2.1) (hown : s.vm.findClass own = some m.cls) (hK : va_K D cl tys s) (hP : va_P D cl (wl Ls ad G) H) (hD : va_D A (wl Ls ad G)) (hS0 : va_S A H0 H locs) (hj : j ∈ Ls) {fs : List Value} (he : G j = .inr (ci, fs)) (hc : cl[ci]? = some (C, T, N)) (k : Nat) (hk : k < N) (hlink : (Cond.fieldLink own index ref (T k).2.1 (T k).2.2.1).before args s = true) (hsame : ∀ x, s.fieldFound? (T k).1 (T k).2.1 (T k).2.2.1 = some x → s.fieldFound? ref (T k).2.1 (T k).2.2.1 = some x) (hfin : (T k).2.2.2 = true) (hin2 : meth.name = "<init>") (hdecl : (T k).1 = own) {ty : FieldType} {v : Value} (hd : parseFieldDescriptor (T k).2.2.1 = some ty) (hn : narrow ty v = v) (hfit : fits ty v = true) (hl : k < fs.length)
    (hdg : decode cc pc = .ok (.putfield index, 3)) (kk : ∀ (H1 : Heap) (locs1 : List Loc), va_P D cl (wl Ls ad (va_up G j (.inr (ci, fs.set k v)))) H1 → va_D A (wl Ls ad (va_up G j (.inr (ci, fs.set k v)))) → va_S A H0 H1 locs1 → W p l e R s m args below meth c H1 locs1 cells slots Q (F0 m (pc + 3) ls rest)) : W p l e R s m args below meth c H locs cells slots Q (F0 m pc ls (v :: .ref (ad j) :: rest)) := by
  obtain ⟨q0, hq0, hq⟩ := wl_get (ad := ad) (G := G) hj
  refine va_putF hexec hb hts hin ty0 hty hnm hown hK hP hD hS0 q0 (by rw [hq, he]) hc k hk hlink hsame hfin hin2 hdecl hd hn hfit hl hdg fun H1 locs1 h1 h2 h3 => ?_
  rw [wl_set hD hq0] at h1 h2
  exact kk H1 locs1 h1 h2 h3
theorem pv_iast (hexec : p.tables.exec = Jvm.exec) (hb : c.code = cc) (hK : va_K D cl tys s) (hP : va_P D cl (wl Ls ad G) H) (hD : va_D A (wl Ls ad G)) (hS : va_S A H0 H locs) (hj : j ∈ Ls) (t0 : Nat) {cA : ClassId} {n : Nat} {f : Nat → Int32} (ha : G j = .inl (cA, n, .inl f)) (ht : tys[t0]? = some (cA, .int)) {i x : Int32} {k : Nat} (hi : i = nI k) (hk : k < n) (hn : n < 2 ^ 31) (hdg : decode cc pc = .ok (.iastore, 1))
    (kk : ∀ (H1 : Heap) (locs1 : List Loc), va_P D cl (wl Ls ad (va_up G j (.inl (cA, n, .inl (upd f k x))))) H1 → va_D A (wl Ls ad (va_up G j (.inl (cA, n, .inl (upd f k x))))) → va_S A H0 H1 locs1 → W p l e R s m args below meth c H1 locs1 cells slots Q (F0 m (pc + 1) ls rest)) : W p l e R s m args below meth c H locs cells slots Q (F0 m pc ls (.int x :: .int i :: .ref (ad j) :: rest)) := by
  obtain ⟨q0, hq0, hq⟩ := wl_get (ad := ad) (G := G) hj
  subst hi
  refine va_iast hexec hb hK hP hD hS q0 t0 (by rw [hq, ha]) ht (vp_in_nI hk hn) hdg fun H1 locs1 h1 h2 h3 => ?_
  rw [wl_set hD hq0, nI_clamp (by omega)] at h1 h2
  exact kk H1 locs1 h1 h2 h3
theorem pv_cast (hexec : p.tables.exec = Jvm.exec) (hb : c.code = cc) (hK : va_K D cl tys s) (hP : va_P D cl (wl Ls ad G) H) (hD : va_D A (wl Ls ad G)) (hS : va_S A H0 H locs) (hj : j ∈ Ls) (t0 : Nat) {cA : ClassId} {n : Nat} {f : Nat → Int32} (ha : G j = .inl (cA, n, .inl f)) (ht : tys[t0]? = some (cA, .char)) {i x : Int32} {k : Nat} (hi : i = nI k) (hk : k < n) (hn : n < 2 ^ 31) (hdg : decode cc pc = .ok (.castore, 1))
    (kk : ∀ (H1 : Heap) (locs1 : List Loc), va_P D cl (wl Ls ad (va_up G j (.inl (cA, n, .inl (upd f k (vp_nar .char x)))))) H1 → va_D A (wl Ls ad (va_up G j (.inl (cA, n, .inl (upd f k (vp_nar .char x)))))) → va_S A H0 H1 locs1 → W p l e R s m args below meth c H1 locs1 cells slots Q (F0 m (pc + 1) ls rest)) : W p l e R s m args below meth c H locs cells slots Q (F0 m pc ls (.int x :: .int i :: .ref (ad j) :: rest)) := by
  obtain ⟨q0, hq0, hq⟩ := wl_get (ad := ad) (G := G) hj
  subst hi
  refine va_cast hexec hb hK hP hD hS q0 t0 (by rw [hq, ha]) ht (vp_in_nI hk hn) hdg fun H1 locs1 h1 h2 h3 => ?_
  rw [wl_set hD hq0, nI_clamp (by omega)] at h1 h2
  exact kk H1 locs1 h1 h2 h3
theorem pv_zast (hexec : p.tables.exec = Jvm.exec) (hb : c.code = cc) (hK : va_K D cl tys s) (hP : va_P D cl (wl Ls ad G) H) (hD : va_D A (wl Ls ad G)) (hS : va_S A H0 H locs) (hj : j ∈ Ls) (t0 : Nat) {cA : ClassId} {n : Nat} {f : Nat → Int32} (ha : G j = .inl (cA, n, .inl f)) (ht : tys[t0]? = some (cA, .boolean)) {i x : Int32} {k : Nat} (hi : i = nI k) (hk : k < n) (hn : n < 2 ^ 31) (hdg : decode cc pc = .ok (.bastore, 1))
    (kk : ∀ (H1 : Heap) (locs1 : List Loc), va_P D cl (wl Ls ad (va_up G j (.inl (cA, n, .inl (upd f k (vp_nar .boolean x)))))) H1 → va_D A (wl Ls ad (va_up G j (.inl (cA, n, .inl (upd f k (vp_nar .boolean x)))))) → va_S A H0 H1 locs1 → W p l e R s m args below meth c H1 locs1 cells slots Q (F0 m (pc + 1) ls rest)) : W p l e R s m args below meth c H locs cells slots Q (F0 m pc ls (.int x :: .int i :: .ref (ad j) :: rest)) := by
  obtain ⟨q0, hq0, hq⟩ := wl_get (ad := ad) (G := G) hj
  subst hi
  refine va_zast hexec hb hK hP hD hS q0 t0 (by rw [hq, ha]) ht (vp_in_nI hk hn) hdg fun H1 locs1 h1 h2 h3 => ?_
  rw [wl_set hD hq0, nI_clamp (by omega)] at h1 h2
  exact kk H1 locs1 h1 h2 h3
end PV
end
section
/-! leaves: StorageCharge.isWithin, firstDayOf, lastDayOf; StorageCharge$Unit's reads -/
def wI (a b c : Int32) : Int32 := if b ≤ a ∧ a ≤ c then 1 else 0
theorem wI_1 {a b c : Int32} (h : b ≤ a ∧ a ≤ c) : wI a b c = 1 := if_pos h
theorem wI_0 {a b c : Int32} (h : ¬ (b ≤ a ∧ a ≤ c)) : wI a b c = 0 := if_neg h
theorem wI_eq0 {a b c : Int32} : wI a b c = 0 ↔ ¬ (b ≤ a ∧ a ≤ c) := by
  by_cases h : b ≤ a ∧ a ≤ c
  · rw [wI_1 h]; simp [h]
  · rw [wI_0 h]; simp [h]
def mxI (x y : Int32) : Int32 := if x < y then y else x
def mnI (x y : Int32) : Int32 := if y < x then y else x
theorem nI_p1 {n : Nat} (h : 1 ≤ n) : nI n - 1 = nI (n - 1) := by
  obtain ⟨k, rfl⟩ : ∃ k, n = k + 1 := ⟨n - 1, by omega⟩
  exact nI_pred k
/-- a unit at the label u, its two arrays at u + 1 and u + 2 -/
def UnitAt (y : Nat → ClassId) (Ls : List Nat) (ad : Nat → Nat) (G : Nat → va_E) (u : Nat) (ow fd ld ig : Int32) (told : Nat) (kf df : Nat → Int32) : Prop :=
  u ∈ Ls ∧ u + 1 ∈ Ls ∧ u + 2 ∈ Ls ∧ G u = .inr (8, [.int ow, .int fd, .int ld, .int ig, .ref (ad (u + 1)), .ref (ad (u + 2)), .int (nI told)]) ∧ G (u + 1) = .inl (y 0, 9, .inl kf) ∧ G (u + 2) = .inl (y 0, 9, .inl df) ∧ 1 ≤ told ∧ told ≤ 9
/-- the class on a day, of the first i + 1 tellings -/
def kOn (kf df : Nat → Int32) (day : Int32) : Nat → Int32
  | 0 => kf 0
  | i + 1 => if df (i + 1) < day then kf (i + 1) else if df (i + 1) = day then mxI (kOn kf df day i) (kf (i + 1)) else kOn kf df day i

set_option maxHeartbeats 4000000 in
set_option maxRecDepth 100000 in
/-- isWithin -/
theorem c_X7_isWithin (l : Launch) (a b c0 : Int32) : Met l yX7_isWithin wsX7_isWithin ({ frames := 0, cells := 0, slots := 0, locals := 0 }) (va_Pc [.int a, .int b, .int c0] (fun _ => True)) (vp_Si (fun r => r = wI a b c0)) 0 0 (fun _ => False) := by
  refine Met.ofW (cc := cX7_isWithin) (maxL := 3) (ret := (some .boolean)) (by decide) rfl ?_
  intro p e s m args below meth c s₁ B hml hv
  obtain ⟨rfl, -⟩ := hv
  have hx := B.exec
  have hb := B.bytes
  have hr := B.returns
  have hts := atoms_spec (ws := wsX7_isWithin) B.pre
  have hown : s.vm.findClass RX7 = some m.cls := findClass_of_methodNamed B.named
  have hlocks := B.notSynchronized
  have hl := lv_entry ([.int a, .int b, .int c0]) (n := 3) (Nat.le_of_ble_eq_true rfl)
  rw [lg_entry_eq]
  generalize (lg_sl ([.int a, .int b, .int c0]) ++ List.replicate (3 - (lg_sl ([.int a, .int b, .int c0])).length) Slot.unset).toArray = ls at hl ⊢
  have hl : lv_has ls 3 [(0, .int a), (1, .int b), (2, .int c0)] := hl
  refine lv_iload_n hx hb dX7_isWithin_0 rfl (lv_at hl 0 rfl) ?_
  refine lv_iload_n hx hb dX7_isWithin_1 rfl (lv_at hl 1 rfl) ?_
  refine lv_icmp_lt (tgt := 14) hx hb dX7_isWithin_2 (by decide) (fun c_2 => ?_) (fun c_2 => ?_)
  · refine lv_iconst (v := 0) hx hb dX7_isWithin_14 (by decide) ?_
    exact W.zret (v := 0) hx hb hr (by first | rfl | decide | (simp [narrow]; done) | assumption) (fun t ht hW => ⟨0, rfl, (by rw [wI, if_neg]; rintro ⟨h1, h2⟩; first | exact absurd c_2 (Int32.not_lt.mpr h1) | exact absurd c_7 (Int32.not_lt.mpr h2)), ht⟩) (fun q h => by cases h) dX7_isWithin_15
  · refine lv_iload_n hx hb dX7_isWithin_5 rfl (lv_at hl 0 rfl) ?_
    refine lv_iload_n hx hb dX7_isWithin_6 rfl (lv_at hl 2 rfl) ?_
    refine lv_icmp_gt (tgt := 14) hx hb dX7_isWithin_7 (by decide) (fun c_7 => ?_) (fun c_7 => ?_)
    · refine lv_iconst (v := 0) hx hb dX7_isWithin_14 (by decide) ?_
      exact W.zret (v := 0) hx hb hr (by first | rfl | decide | (simp [narrow]; done) | assumption) (fun t ht hW => ⟨0, rfl, (by rw [wI, if_neg]; rintro ⟨h1, h2⟩; first | exact absurd c_2 (Int32.not_lt.mpr h1) | exact absurd c_7 (Int32.not_lt.mpr h2)), ht⟩) (fun q h => by cases h) dX7_isWithin_15
    · refine lv_iconst (v := 1) hx hb dX7_isWithin_10 (by decide) ?_
      refine lv_goto (tgt := 15) hx hb dX7_isWithin_11 (by decide) ?_
      exact W.zret (v := 1) hx hb hr (by first | rfl | decide | (simp [narrow]; done) | assumption) (fun t ht hW => ⟨1, rfl, (by rw [wI, if_pos ⟨Int32.not_lt.mp c_2, Int32.not_lt.mp c_7⟩]), ht⟩) (fun q h => by cases h) dX7_isWithin_15

set_option maxHeartbeats 4000000 in
set_option maxRecDepth 100000 in
/-- firstDayOf -/
theorem c_X7_firstDayOf (l : Launch) (mo : Int32) : Met l yX7_firstDayOf wsX7_firstDayOf ({ frames := 0, cells := 0, slots := 0, locals := 0 }) (va_Pc [.int mo] (fun _ => True)) (vp_Si (fun r => r = 30 * mo)) 0 0 (fun _ => False) := by
  refine Met.ofW (cc := cX7_firstDayOf) (maxL := 1) (ret := (some .int)) (by decide) rfl ?_
  intro p e s m args below meth c s₁ B hml hv
  obtain ⟨rfl, -⟩ := hv
  have hx := B.exec
  have hb := B.bytes
  have hr := B.returns
  have hts := atoms_spec (ws := wsX7_firstDayOf) B.pre
  have hown : s.vm.findClass RX7 = some m.cls := findClass_of_methodNamed B.named
  have hlocks := B.notSynchronized
  have hl := lv_entry ([.int mo]) (n := 1) (Nat.le_of_ble_eq_true rfl)
  rw [lg_entry_eq]
  generalize (lg_sl ([.int mo]) ++ List.replicate (1 - (lg_sl ([.int mo])).length) Slot.unset).toArray = ls at hl ⊢
  have hl : lv_has ls 1 [(0, .int mo)] := hl
  refine lv_bipush (v := 30) hx hb dX7_firstDayOf_0 (by decide) ?_
  refine lv_iload_n hx hb dX7_firstDayOf_2 rfl (lv_at hl 0 rfl) ?_
  refine lv_imul hx hb dX7_firstDayOf_3 ?_
  exact W.iret (v := (30 * mo)) hx hb hr (fun t ht hW => ⟨(30 * mo), rfl, rfl, ht⟩) (fun q h => by cases h) dX7_firstDayOf_4

set_option maxHeartbeats 4000000 in
set_option maxRecDepth 100000 in
/-- lastDayOf -/
theorem c_X7_lastDayOf (l : Launch) (mo : Int32) : Met l yX7_lastDayOf wsX7_lastDayOf ({ frames := 0, cells := 0, slots := 0, locals := 0 }) (va_Pc [.int mo] (fun _ => True)) (vp_Si (fun r => r = 30 * mo + 30 - 1)) 0 0 (fun _ => False) := by
  refine Met.ofW (cc := cX7_lastDayOf) (maxL := 1) (ret := (some .int)) (by decide) rfl ?_
  intro p e s m args below meth c s₁ B hml hv
  obtain ⟨rfl, -⟩ := hv
  have hx := B.exec
  have hb := B.bytes
  have hr := B.returns
  have hts := atoms_spec (ws := wsX7_lastDayOf) B.pre
  have hown : s.vm.findClass RX7 = some m.cls := findClass_of_methodNamed B.named
  have hlocks := B.notSynchronized
  have hl := lv_entry ([.int mo]) (n := 1) (Nat.le_of_ble_eq_true rfl)
  rw [lg_entry_eq]
  generalize (lg_sl ([.int mo]) ++ List.replicate (1 - (lg_sl ([.int mo])).length) Slot.unset).toArray = ls at hl ⊢
  have hl : lv_has ls 1 [(0, .int mo)] := hl
  refine lv_bipush (v := 30) hx hb dX7_lastDayOf_0 (by decide) ?_
  refine lv_iload_n hx hb dX7_lastDayOf_2 rfl (lv_at hl 0 rfl) ?_
  refine lv_imul hx hb dX7_lastDayOf_3 ?_
  refine lv_bipush (v := 30) hx hb dX7_lastDayOf_4 (by decide) ?_
  refine lv_iadd hx hb dX7_lastDayOf_6 ?_
  refine lv_iconst (v := 1) hx hb dX7_lastDayOf_7 (by decide) ?_
  refine lv_isub hx hb dX7_lastDayOf_8 ?_
  exact W.iret (v := (((30 * mo) + 30) - 1)) hx hb hr (fun t ht hW => ⟨(((30 * mo) + 30) - 1), rfl, rfl, ht⟩) (fun q h => by cases h) dX7_lastDayOf_9

set_option maxHeartbeats 4000000 in
set_option maxRecDepth 100000 in
/-- Unit.isFull -/
theorem c_X6_isFull (l : Launch) (D : va_G) (y : Nat → ClassId) (Ls : List Nat) (ad : Nat → Nat) (G : Nat → va_E) (u : Nat) (ow fd ld ig : Int32) (told : Nat) (kf df : Nat → Int32) (hU : UnitAt y Ls ad G u ow fd ld ig told kf df) : Met l yX6_isFull wsX6_isFull ({ frames := 0, cells := 0, slots := 0, locals := 0 }) (va_Pc [.ref (ad u)] (Wd D y (wl Ls ad G))) (vp_Si (fun r => r = if 9 ≤ told then 1 else 0)) 0 0 (fun _ => False) := by
  refine Met.ofW (cc := cX6_isFull) (maxL := 1) (ret := (some .boolean)) (by decide) rfl ?_
  intro p e s m args below meth c s₁ B hml hv
  obtain ⟨rfl, hP, hK, hN⟩ := hv
  have hx := B.exec
  have hb := B.bytes
  have hr := B.returns
  have hts := atoms_spec (ws := wsX6_isFull) B.pre
  have hown : s.vm.findClass RX6 = some m.cls := findClass_of_methodNamed B.named
  have hlocks := B.notSynchronized
  have hinX6 : ∀ w ∈ wsX60, w ∈ wsX6_isFull := by decide +kernel
  obtain ⟨hu, huk, hud, eu, euk, eud, h1, h9⟩ := hU
  have hl := lv_entry ([.ref (ad u)]) (n := 1) (Nat.le_of_ble_eq_true rfl)
  rw [lg_entry_eq]
  generalize (lg_sl ([.ref (ad u)]) ++ List.replicate (1 - (lg_sl ([.ref (ad u)])).length) Slot.unset).toArray = ls at hl ⊢
  have hl : lv_has ls 1 [(0, .ref (ad u))] := hl
  refine lv_aload_n hx hb dX6_isFull_0 rfl (lv_at hl 0 rfl) ?_
  refine pv_get (ci := 8) (C := RX6) (T := TX6) (N := 7) hx hb hts hinX6 hown hK hP hu eu rfl 6 (by decide) (hts (.fieldLink RX6 26 "StorageCharge$Unit" "told" "I") (by decide +kernel)) (fun _ h9 => h9) rfl dX6_isFull_1 ?_
  refine lv_aload_n hx hb dX6_isFull_4 rfl (lv_at hl 0 rfl) ?_
  refine pv_get (ci := 8) (C := RX6) (T := TX6) (N := 7) hx hb hts hinX6 hown hK hP hu eu rfl 4 (by decide) (hts (.fieldLink RX6 19 "StorageCharge$Unit" "toldKinds" "[I") (by decide +kernel)) (fun _ h9 => h9) rfl dX6_isFull_5 ?_
  refine pv_alen (n := 9) hx hb hK hP huk 0 euk rfl rfl dX6_isFull_8 ?_
  refine lv_icmp_lt (tgt := 16) hx hb dX6_isFull_9 (by decide) (fun c_9 => ?_) (fun c_9 => ?_)
  · refine lv_iconst (v := 0) hx hb dX6_isFull_16 (by decide) ?_
    exact W.zret (v := 0) hx hb hr (by first | rfl | decide | (simp [narrow]; done) | assumption) (fun t ht hW => ⟨0, rfl, (by rw [if_neg]; intro h; exact absurd c_9 (nI_nlt h (by omega))), ht⟩) (fun q h => by cases h) dX6_isFull_17
  · refine lv_iconst (v := 1) hx hb dX6_isFull_12 (by decide) ?_
    refine lv_goto (tgt := 17) hx hb dX6_isFull_13 (by decide) ?_
    exact W.zret (v := 1) hx hb hr (by first | rfl | decide | (simp [narrow]; done) | assumption) (fun t ht hW => ⟨1, rfl, (by rw [if_pos]; exact Nat.le_of_not_lt (fun h => c_9 (nI_lt h (by decide)))), ht⟩) (fun q h => by cases h) dX6_isFull_17

set_option maxHeartbeats 4000000 in
set_option maxRecDepth 100000 in
/-- Unit.kindToldLast -/
theorem c_X6_kindToldLast (l : Launch) (D : va_G) (y : Nat → ClassId) (Ls : List Nat) (ad : Nat → Nat) (G : Nat → va_E) (u : Nat) (ow fd ld ig : Int32) (told : Nat) (kf df : Nat → Int32) (hU : UnitAt y Ls ad G u ow fd ld ig told kf df) : Met l yX6_kindToldLast wsX6_kindToldLast ({ frames := 0, cells := 0, slots := 0, locals := 0 }) (va_Pc [.ref (ad u)] (Wd D y (wl Ls ad G))) (vp_Si (fun r => r = kf (told - 1))) 0 0 (fun _ => False) := by
  refine Met.ofW (cc := cX6_kindToldLast) (maxL := 1) (ret := (some .int)) (by decide) rfl ?_
  intro p e s m args below meth c s₁ B hml hv
  obtain ⟨rfl, hP, hK, hN⟩ := hv
  have hx := B.exec
  have hb := B.bytes
  have hr := B.returns
  have hts := atoms_spec (ws := wsX6_kindToldLast) B.pre
  have hown : s.vm.findClass RX6 = some m.cls := findClass_of_methodNamed B.named
  have hlocks := B.notSynchronized
  have hinX6 : ∀ w ∈ wsX60, w ∈ wsX6_kindToldLast := by decide +kernel
  obtain ⟨hu, huk, hud, eu, euk, eud, h1, h9⟩ := hU
  have hl := lv_entry ([.ref (ad u)]) (n := 1) (Nat.le_of_ble_eq_true rfl)
  rw [lg_entry_eq]
  generalize (lg_sl ([.ref (ad u)]) ++ List.replicate (1 - (lg_sl ([.ref (ad u)])).length) Slot.unset).toArray = ls at hl ⊢
  have hl : lv_has ls 1 [(0, .ref (ad u))] := hl
  refine lv_aload_n hx hb dX6_kindToldLast_0 rfl (lv_at hl 0 rfl) ?_
  refine pv_get (ci := 8) (C := RX6) (T := TX6) (N := 7) hx hb hts hinX6 hown hK hP hu eu rfl 4 (by decide) (hts (.fieldLink RX6 19 "StorageCharge$Unit" "toldKinds" "[I") (by decide +kernel)) (fun _ h9 => h9) rfl dX6_kindToldLast_1 ?_
  refine lv_aload_n hx hb dX6_kindToldLast_4 rfl (lv_at hl 0 rfl) ?_
  refine pv_get (ci := 8) (C := RX6) (T := TX6) (N := 7) hx hb hts hinX6 hown hK hP hu eu rfl 6 (by decide) (hts (.fieldLink RX6 26 "StorageCharge$Unit" "told" "I") (by decide +kernel)) (fun _ h9 => h9) rfl dX6_kindToldLast_5 ?_
  refine lv_iconst (v := 1) hx hb dX6_kindToldLast_8 (by decide) ?_
  refine lv_isub hx hb dX6_kindToldLast_9 ?_
  refine pv_iald hx hb hK hP huk 0 euk rfl (k := (told - 1)) (nI_p1 h1) (by omega) (by decide) dX6_kindToldLast_10 ?_
  exact W.iret (v := kf (told - 1)) hx hb hr (fun t ht hW => ⟨kf (told - 1), rfl, rfl, ht⟩) (fun q h => by cases h) dX6_kindToldLast_11

set_option maxHeartbeats 4000000 in
set_option maxRecDepth 100000 in
/-- Unit.dayToldLast -/
theorem c_X6_dayToldLast (l : Launch) (D : va_G) (y : Nat → ClassId) (Ls : List Nat) (ad : Nat → Nat) (G : Nat → va_E) (u : Nat) (ow fd ld ig : Int32) (told : Nat) (kf df : Nat → Int32) (hU : UnitAt y Ls ad G u ow fd ld ig told kf df) : Met l yX6_dayToldLast wsX6_dayToldLast ({ frames := 0, cells := 0, slots := 0, locals := 0 }) (va_Pc [.ref (ad u)] (Wd D y (wl Ls ad G))) (vp_Si (fun r => r = df (told - 1))) 0 0 (fun _ => False) := by
  refine Met.ofW (cc := cX6_dayToldLast) (maxL := 1) (ret := (some .int)) (by decide) rfl ?_
  intro p e s m args below meth c s₁ B hml hv
  obtain ⟨rfl, hP, hK, hN⟩ := hv
  have hx := B.exec
  have hb := B.bytes
  have hr := B.returns
  have hts := atoms_spec (ws := wsX6_dayToldLast) B.pre
  have hown : s.vm.findClass RX6 = some m.cls := findClass_of_methodNamed B.named
  have hlocks := B.notSynchronized
  have hinX6 : ∀ w ∈ wsX60, w ∈ wsX6_dayToldLast := by decide +kernel
  obtain ⟨hu, huk, hud, eu, euk, eud, h1, h9⟩ := hU
  have hl := lv_entry ([.ref (ad u)]) (n := 1) (Nat.le_of_ble_eq_true rfl)
  rw [lg_entry_eq]
  generalize (lg_sl ([.ref (ad u)]) ++ List.replicate (1 - (lg_sl ([.ref (ad u)])).length) Slot.unset).toArray = ls at hl ⊢
  have hl : lv_has ls 1 [(0, .ref (ad u))] := hl
  refine lv_aload_n hx hb dX6_dayToldLast_0 rfl (lv_at hl 0 rfl) ?_
  refine pv_get (ci := 8) (C := RX6) (T := TX6) (N := 7) hx hb hts hinX6 hown hK hP hu eu rfl 5 (by decide) (hts (.fieldLink RX6 23 "StorageCharge$Unit" "toldDays" "[I") (by decide +kernel)) (fun _ h9 => h9) rfl dX6_dayToldLast_1 ?_
  refine lv_aload_n hx hb dX6_dayToldLast_4 rfl (lv_at hl 0 rfl) ?_
  refine pv_get (ci := 8) (C := RX6) (T := TX6) (N := 7) hx hb hts hinX6 hown hK hP hu eu rfl 6 (by decide) (hts (.fieldLink RX6 26 "StorageCharge$Unit" "told" "I") (by decide +kernel)) (fun _ h9 => h9) rfl dX6_dayToldLast_5 ?_
  refine lv_iconst (v := 1) hx hb dX6_dayToldLast_8 (by decide) ?_
  refine lv_isub hx hb dX6_dayToldLast_9 ?_
  refine pv_iald hx hb hK hP hud 0 eud rfl (k := (told - 1)) (nI_p1 h1) (by omega) (by decide) dX6_dayToldLast_10 ?_
  exact W.iret (v := df (told - 1)) hx hb hr (fun t ht hW => ⟨df (told - 1), rfl, rfl, ht⟩) (fun q h => by cases h) dX6_dayToldLast_11

set_option maxHeartbeats 4000000 in
set_option maxRecDepth 100000 in
/-- Unit.daysThere -/
theorem c_X6_daysThere (l : Launch) (D : va_G) (y : Nat → ClassId) (Ls : List Nat) (ad : Nat → Nat) (G : Nat → va_E) (u : Nat) (ow fd ld ig : Int32) (told : Nat) (kf df : Nat → Int32) (hU : UnitAt y Ls ad G u ow fd ld ig told kf df) (fr to : Int32) : Met l yX6_daysThere wsX6_daysThere ({ frames := 1, cells := 0, slots := 0, locals := 15 }) (va_Pc [.ref (ad u), .int fr, .int to] (Wd D y (wl Ls ad G))) (vp_Si (fun r => r = mxI 0 (mnI to ld - mxI fr fd + 1))) 0 0 (fun _ => False) := by
  refine Met.ofW (cc := cX6_daysThere) (maxL := 3) (ret := (some .int)) (by decide) rfl ?_
  intro p e s m args below meth c s₁ B hml hv
  obtain ⟨rfl, hP, hK, hN⟩ := hv
  have hx := B.exec
  have hb := B.bytes
  have hr := B.returns
  have hts := atoms_spec (ws := wsX6_daysThere) B.pre
  have hown : s.vm.findClass RX6 = some m.cls := findClass_of_methodNamed B.named
  have hlocks := B.notSynchronized
  have hinX6 : ∀ w ∈ wsX60, w ∈ wsX6_daysThere := by decide +kernel
  obtain ⟨hu, huk, hud, eu, euk, eud, h1, h9⟩ := hU
  have hl := lv_entry ([.ref (ad u), .int fr, .int to]) (n := 3) (Nat.le_of_ble_eq_true rfl)
  rw [lg_entry_eq]
  generalize (lg_sl ([.ref (ad u), .int fr, .int to]) ++ List.replicate (3 - (lg_sl ([.ref (ad u), .int fr, .int to])).length) Slot.unset).toArray = ls at hl ⊢
  have hl : lv_has ls 3 [(0, .ref (ad u)), (1, .int fr), (2, .int to)] := hl
  refine lv_iconst (v := 0) hx hb dX6_daysThere_0 (by decide) ?_
  refine lv_iload_n hx hb dX6_daysThere_1 rfl (lv_at hl 2 rfl) ?_
  refine lv_aload_n hx hb dX6_daysThere_2 rfl (lv_at hl 0 rfl) ?_
  refine pv_get (ci := 8) (C := RX6) (T := TX6) (N := 7) hx hb hts hinX6 hown hK hP hu eu rfl 2 (by decide) (hts (.fieldLink RX6 9 "StorageCharge$Unit" "lastDay" "I") (by decide +kernel)) (fun _ h9 => h9) rfl dX6_daysThere_3 ?_
  refine va_mmin hx hb (hml.trans hl.1.symm) hown (hts (.methodLink RX6 39 Lib.Math.min.name) (by decide +kernel)) (hts (.static Lib.Math.min.name) (by decide +kernel)) (hts (.initialized "java/lang/Math") (by decide +kernel)) (hts (.code Lib.Math.min.name Lib.Math.min.code 2 (some .int)) (by decide +kernel)) (Nat.le_of_ble_eq_true rfl) (Nat.le_of_ble_eq_true rfl) (Nat.zero_le _) (Nat.zero_le _) dX6_daysThere_6 ?_
  refine lv_iload_n hx hb dX6_daysThere_9 rfl (lv_at hl 1 rfl) ?_
  refine lv_aload_n hx hb dX6_daysThere_10 rfl (lv_at hl 0 rfl) ?_
  refine pv_get (ci := 8) (C := RX6) (T := TX6) (N := 7) hx hb hts hinX6 hown hK hP hu eu rfl 1 (by decide) (hts (.fieldLink RX6 32 "StorageCharge$Unit" "firstDay" "I") (by decide +kernel)) (fun _ h9 => h9) rfl dX6_daysThere_11 ?_
  refine va_mmax hx hb (hml.trans hl.1.symm) hown (hts (.methodLink RX6 45 Lib.Math.max.name) (by decide +kernel)) (hts (.static Lib.Math.max.name) (by decide +kernel)) (hts (.initialized "java/lang/Math") (by decide +kernel)) (hts (.code Lib.Math.max.name Lib.Math.max.code 2 (some .int)) (by decide +kernel)) (Nat.le_of_ble_eq_true rfl) (Nat.le_of_ble_eq_true rfl) (Nat.zero_le _) (Nat.zero_le _) dX6_daysThere_14 ?_
  refine lv_isub hx hb dX6_daysThere_17 ?_
  refine lv_iconst (v := 1) hx hb dX6_daysThere_18 (by decide) ?_
  refine lv_iadd hx hb dX6_daysThere_19 ?_
  refine va_mmax hx hb (hml.trans hl.1.symm) hown (hts (.methodLink RX6 45 Lib.Math.max.name) (by decide +kernel)) (hts (.static Lib.Math.max.name) (by decide +kernel)) (hts (.initialized "java/lang/Math") (by decide +kernel)) (hts (.code Lib.Math.max.name Lib.Math.max.code 2 (some .int)) (by decide +kernel)) (Nat.le_of_ble_eq_true rfl) (Nat.le_of_ble_eq_true rfl) (Nat.zero_le _) (Nat.zero_le _) dX6_daysThere_20 ?_
  exact W.iret (v := (if 0 < (((if ld < to then ld else to) - (if fr < fd then fd else fr)) + 1) then (((if ld < to then ld else to) - (if fr < fd then fd else fr)) + 1) else 0)) hx hb hr (fun t ht hW => ⟨(if 0 < (((if ld < to then ld else to) - (if fr < fd then fd else fr)) + 1) then (((if ld < to then ld else to) - (if fr < fd then fd else fr)) + 1) else 0), rfl, rfl, ht⟩) (fun q h => by cases h) dX6_daysThere_23

set_option maxHeartbeats 4000000 in
set_option maxRecDepth 100000 in
/-- Unit.kindOn -/
theorem c_X6_kindOn (l : Launch) (D : va_G) (y : Nat → ClassId) (Ls : List Nat) (ad : Nat → Nat) (G : Nat → va_E) (u : Nat) (ow fd ld ig : Int32) (told : Nat) (kf df : Nat → Int32) (hU : UnitAt y Ls ad G u ow fd ld ig told kf df) (day : Int32) : Met l yX6_kindOn wsX6_kindOn ({ frames := 1, cells := 0, slots := 0, locals := 13 }) (va_Pc [.ref (ad u), .int day] (Wd D y (wl Ls ad G))) (vp_Si (fun r => r = kOn kf df day (told - 1))) 0 0 (fun _ => False) := by
  refine Met.ofW (cc := cX6_kindOn) (maxL := 4) (ret := (some .int)) (by decide) rfl ?_
  intro p e s m args below meth c s₁ B hml hv
  obtain ⟨rfl, hP, hK, hN⟩ := hv
  have hx := B.exec
  have hb := B.bytes
  have hr := B.returns
  have hts := atoms_spec (ws := wsX6_kindOn) B.pre
  have hown : s.vm.findClass RX6 = some m.cls := findClass_of_methodNamed B.named
  have hlocks := B.notSynchronized
  have hinX6 : ∀ w ∈ wsX60, w ∈ wsX6_kindOn := by decide +kernel
  obtain ⟨hu, huk, hud, eu, euk, eud, h1, h9⟩ := hU
  have loop9 : ∀ (n : Nat) (i : Nat) (k x : Int32), i + 1 ≤ told → told ≤ i + n → k = kOn kf df day i → x = nI (i + 1) → ∀ ls : Array Slot, lv_has ls 4 [(0, .ref (ad u)), (1, .int day), (2, .int k), (3, .int x)] → W p l e (headSpec wsX6_kindOn ({ frames := 1, cells := 0, slots := 0, locals := 13 })).room s m ([.ref (ad u), .int day] : List Value).toArray below meth c s.heap [] 0 0 (MQ below (vp_Si (fun r => r = kOn kf df day (told - 1))) ([.ref (ad u), .int day] : List Value).toArray s 0 0 (fun _ => False)) (F0 m 9 ls []) := by
    intro n
    induction n with
    | zero =>
      intro i k x hi hn; exact absurd hn (by omega)
    | succ n ih9 =>
      intro i k x hi hn ek ei ls hl
      refine lv_iload_n hx hb dX6_kindOn_9 rfl (lv_at hl 3 rfl) ?_
      refine lv_aload_n hx hb dX6_kindOn_10 rfl (lv_at hl 0 rfl) ?_
      refine pv_get (ci := 8) (C := RX6) (T := TX6) (N := 7) hx hb hts hinX6 hown hK hP hu eu rfl 6 (by decide) (hts (.fieldLink RX6 26 "StorageCharge$Unit" "told" "I") (by decide +kernel)) (fun _ h9 => h9) rfl dX6_kindOn_11 ?_
      refine lv_icmp_ge (tgt := 64) hx hb dX6_kindOn_14 (by decide) (fun c_14 => ?_) (fun c_14 => ?_)
      · refine lv_iload_n hx hb dX6_kindOn_64 rfl (lv_at hl 2 rfl) ?_
        exact W.iret (v := k) hx hb hr (fun t ht hW => ⟨k, rfl, (by have h8 := Nat.le_of_not_lt (fun h : i + 1 < told => absurd c_14 (by rw [ei]; exact nI_ge h (by omega))); rw [ek, show told - 1 = i from by omega]), ht⟩) (fun q h => by cases h) dX6_kindOn_65
      · have hlt : i + 1 < told := Nat.lt_of_not_le fun h => c_14 (by rw [ei]; exact nI_le h (by omega))
        refine lv_aload_n hx hb dX6_kindOn_17 rfl (lv_at hl 0 rfl) ?_
        refine pv_get (ci := 8) (C := RX6) (T := TX6) (N := 7) hx hb hts hinX6 hown hK hP hu eu rfl 5 (by decide) (hts (.fieldLink RX6 23 "StorageCharge$Unit" "toldDays" "[I") (by decide +kernel)) (fun _ h9 => h9) rfl dX6_kindOn_18 ?_
        refine lv_iload_n hx hb dX6_kindOn_21 rfl (lv_at hl 3 rfl) ?_
        refine pv_iald hx hb hK hP hud 0 eud rfl (k := (i + 1)) ei (by omega) (by decide) dX6_kindOn_22 ?_
        refine lv_iload_n hx hb dX6_kindOn_23 rfl (lv_at hl 1 rfl) ?_
        refine lv_icmp_ge (tgt := 37) hx hb dX6_kindOn_24 (by decide) (fun c_24 => ?_) (fun c_24 => ?_)
        · refine lv_aload_n hx hb dX6_kindOn_37 rfl (lv_at hl 0 rfl) ?_
          refine pv_get (ci := 8) (C := RX6) (T := TX6) (N := 7) hx hb hts hinX6 hown hK hP hu eu rfl 5 (by decide) (hts (.fieldLink RX6 23 "StorageCharge$Unit" "toldDays" "[I") (by decide +kernel)) (fun _ h9 => h9) rfl dX6_kindOn_38 ?_
          refine lv_iload_n hx hb dX6_kindOn_41 rfl (lv_at hl 3 rfl) ?_
          refine pv_iald hx hb hK hP hud 0 eud rfl (k := (i + 1)) ei (by omega) (by decide) dX6_kindOn_42 ?_
          refine lv_iload_n hx hb dX6_kindOn_43 rfl (lv_at hl 1 rfl) ?_
          refine lv_icmp_ne (tgt := 58) hx hb dX6_kindOn_44 (by decide) (fun c_44 => ?_) (fun c_44 => ?_)
          · obtain ⟨x_58, ex_58⟩ : ∃ y9 : Int32, y9 = x + 1 := ⟨_, rfl⟩
            refine lv_iinc (v := x_58) (lv' := [(3, .int x_58), (0, .ref (ad u)), (1, .int day), (2, .int k)]) hx hb dX6_kindOn_58 hl (k := 3) rfl (by rw [ex_58]; rfl) (by decide) rfl (fun ls hl => ?_)
            refine lv_goto (tgt := 9) hx hb dX6_kindOn_61 (by decide) ?_
            exact ih9 (i + 1) k x_58 (by omega) (by omega) (by rw [kOn, if_neg (Int32.not_lt.mpr c_24), if_neg c_44, ek]) (by rw [ex_58, ei]; exact nI_1 (i + 1)) ls (lv_sub hl [1, 2, 3, 0] rfl)
          · refine lv_iload_n hx hb dX6_kindOn_47 rfl (lv_at hl 2 rfl) ?_
            refine lv_aload_n hx hb dX6_kindOn_48 rfl (lv_at hl 0 rfl) ?_
            refine pv_get (ci := 8) (C := RX6) (T := TX6) (N := 7) hx hb hts hinX6 hown hK hP hu eu rfl 4 (by decide) (hts (.fieldLink RX6 19 "StorageCharge$Unit" "toldKinds" "[I") (by decide +kernel)) (fun _ h9 => h9) rfl dX6_kindOn_49 ?_
            refine lv_iload_n hx hb dX6_kindOn_52 rfl (lv_at hl 3 rfl) ?_
            refine pv_iald hx hb hK hP huk 0 euk rfl (k := (i + 1)) ei (by omega) (by decide) dX6_kindOn_53 ?_
            refine va_mmax hx hb (hml.trans hl.1.symm) hown (hts (.methodLink RX6 45 Lib.Math.max.name) (by decide +kernel)) (hts (.static Lib.Math.max.name) (by decide +kernel)) (hts (.initialized "java/lang/Math") (by decide +kernel)) (hts (.code Lib.Math.max.name Lib.Math.max.code 2 (some .int)) (by decide +kernel)) (Nat.le_of_ble_eq_true rfl) (Nat.le_of_ble_eq_true rfl) (Nat.zero_le _) (Nat.zero_le _) dX6_kindOn_54 ?_
            refine lv_topi (fun km ekm => ?_)
            refine lv_istore_n (lv' := [(2, .int km), (0, .ref (ad u)), (1, .int day), (3, .int x)]) hx hb dX6_kindOn_57 rfl hl (by decide) rfl (fun ls hl => ?_)
            obtain ⟨x_58, ex_58⟩ : ∃ y9 : Int32, y9 = x + 1 := ⟨_, rfl⟩
            refine lv_iinc (v := x_58) (lv' := [(3, .int x_58), (2, .int km), (0, .ref (ad u)), (1, .int day)]) hx hb dX6_kindOn_58 hl (k := 3) rfl (by rw [ex_58]; rfl) (by decide) rfl (fun ls hl => ?_)
            refine lv_goto (tgt := 9) hx hb dX6_kindOn_61 (by decide) ?_
            exact ih9 (i + 1) km x_58 (by omega) (by omega) (by rw [kOn, if_neg (Int32.not_lt.mpr c_24), if_pos c_44, ekm, ek]; rfl) (by rw [ex_58, ei]; exact nI_1 (i + 1)) ls (lv_sub hl [2, 3, 1, 0] rfl)
        · refine lv_aload_n hx hb dX6_kindOn_27 rfl (lv_at hl 0 rfl) ?_
          refine pv_get (ci := 8) (C := RX6) (T := TX6) (N := 7) hx hb hts hinX6 hown hK hP hu eu rfl 4 (by decide) (hts (.fieldLink RX6 19 "StorageCharge$Unit" "toldKinds" "[I") (by decide +kernel)) (fun _ h9 => h9) rfl dX6_kindOn_28 ?_
          refine lv_iload_n hx hb dX6_kindOn_31 rfl (lv_at hl 3 rfl) ?_
          refine pv_iald hx hb hK hP huk 0 euk rfl (k := (i + 1)) ei (by omega) (by decide) dX6_kindOn_32 ?_
          refine lv_topi (fun ka eka => ?_)
          refine lv_istore_n (lv' := [(2, .int ka), (0, .ref (ad u)), (1, .int day), (3, .int x)]) hx hb dX6_kindOn_33 rfl hl (by decide) rfl (fun ls hl => ?_)
          refine lv_goto (tgt := 58) hx hb dX6_kindOn_34 (by decide) ?_
          obtain ⟨x_58, ex_58⟩ : ∃ y9 : Int32, y9 = x + 1 := ⟨_, rfl⟩
          refine lv_iinc (v := x_58) (lv' := [(3, .int x_58), (2, .int ka), (0, .ref (ad u)), (1, .int day)]) hx hb dX6_kindOn_58 hl (k := 3) rfl (by rw [ex_58]; rfl) (by decide) rfl (fun ls hl => ?_)
          refine lv_goto (tgt := 9) hx hb dX6_kindOn_61 (by decide) ?_
          exact ih9 (i + 1) ka x_58 (by omega) (by omega) (by rw [kOn, if_pos (Int32.not_le.mp c_24), eka]) (by rw [ex_58, ei]; exact nI_1 (i + 1)) ls (lv_sub hl [2, 3, 1, 0] rfl)
  have hl := lv_entry ([.ref (ad u), .int day]) (n := 4) (Nat.le_of_ble_eq_true rfl)
  rw [lg_entry_eq]
  generalize (lg_sl ([.ref (ad u), .int day]) ++ List.replicate (4 - (lg_sl ([.ref (ad u), .int day])).length) Slot.unset).toArray = ls at hl ⊢
  have hl : lv_has ls 4 [(0, .ref (ad u)), (1, .int day)] := hl
  refine lv_aload_n hx hb dX6_kindOn_0 rfl (lv_at hl 0 rfl) ?_
  refine pv_get (ci := 8) (C := RX6) (T := TX6) (N := 7) hx hb hts hinX6 hown hK hP hu eu rfl 4 (by decide) (hts (.fieldLink RX6 19 "StorageCharge$Unit" "toldKinds" "[I") (by decide +kernel)) (fun _ h9 => h9) rfl dX6_kindOn_1 ?_
  refine lv_iconst (v := 0) hx hb dX6_kindOn_4 (by decide) ?_
  refine pv_iald hx hb hK hP huk 0 euk rfl (k := 0) (by decide) (by decide) (by decide) dX6_kindOn_5 ?_
  refine lv_topi (fun k0 ek0 => ?_)
  refine lv_istore_n (lv' := [(2, .int k0), (0, .ref (ad u)), (1, .int day)]) hx hb dX6_kindOn_6 rfl hl (by decide) rfl (fun ls hl => ?_)
  refine lv_iconst (v := 1) hx hb dX6_kindOn_7 (by decide) ?_
  refine lv_istore_n (lv' := [(3, .int 1), (2, .int k0), (0, .ref (ad u)), (1, .int day)]) hx hb dX6_kindOn_8 rfl hl (by decide) rfl (fun ls hl => ?_)
  exact loop9 told 0 k0 1 (by omega) (by omega) ek0 rfl ls (lv_sub hl [2, 3, 1, 0] rfl)
end
section
/-! ArrayList's reads -/
/-- a list at the label j, its row at j + 1 once something is in it; its elements lie at el 0, el 1 .. -/
def ListAt (y : Nat → ClassId) (Ls : List Nat) (ad : Nat → Nat) (G : Nat → va_E) (j n : Nat) (el : Nat → Nat) : Prop :=
  ∃ (mc : Int32) (ea : Nat), j ∈ Ls ∧ G j = .inr (1, [.int mc, .ref ea, .int (nI n)]) ∧ n < 1000 ∧ (0 < n → j + 1 ∈ Ls ∧ ea = ad (j + 1) ∧ ∃ (cap : Nat) (f : Nat → Option Nat), G (j + 1) = .inl (y 3, cap, .inr (.inr (.inr (.inr f)))) ∧ n ≤ cap ∧ cap < 2 ^ 31 ∧ ∀ i, i < n → f i = some (el i))

set_option maxHeartbeats 4000000 in
set_option maxRecDepth 100000 in
/-- ArrayList.size -/
theorem c_Jx4a65c_size_8abf5 (l : Launch) (D : va_G) (y : Nat → ClassId) (Ls : List Nat) (ad : Nat → Nat) (G : Nat → va_E) (j n : Nat) (el : Nat → Nat) (hL : ListAt y Ls ad G j n el) : Met l yJx4a65c_size_8abf5 wsJx4a65c_size_8abf5 ({ frames := 0, cells := 0, slots := 0, locals := 0 }) (va_Pc [.ref (ad j)] (Wd D y (wl Ls ad G))) (vp_Si (fun r => r = nI n)) 0 0 (fun _ => False) := by
  refine Met.ofW (cc := cJx4a65c_size_8abf5) (maxL := 1) (ret := (some .int)) (by decide) rfl ?_
  intro p e s m args below meth c s₁ B hml hv
  obtain ⟨rfl, hP, hK, hN⟩ := hv
  have hx := B.exec
  have hb := B.bytes
  have hr := B.returns
  have hts := atoms_spec (ws := wsJx4a65c_size_8abf5) B.pre
  have hown : s.vm.findClass RJx4a65c = some m.cls := findClass_of_methodNamed B.named
  have hlocks := B.notSynchronized
  have hinJx4a65c : ∀ w ∈ wsJx4a65c0, w ∈ wsJx4a65c_size_8abf5 := by decide +kernel
  obtain ⟨mc, ea, hj, ej, hn, -⟩ := hL
  have hl := lv_entry ([.ref (ad j)]) (n := 1) (Nat.le_of_ble_eq_true rfl)
  rw [lg_entry_eq]
  generalize (lg_sl ([.ref (ad j)]) ++ List.replicate (1 - (lg_sl ([.ref (ad j)])).length) Slot.unset).toArray = ls at hl ⊢
  have hl : lv_has ls 1 [(0, .ref (ad j))] := hl
  refine lv_aload_n hx hb dJx4a65c_size_8abf5_0 rfl (lv_at hl 0 rfl) ?_
  refine pv_get (ci := 1) (C := RJx4a65c) (T := TJx4a65c) (N := 3) hx hb hts hinJx4a65c hown hK hP hj ej rfl 2 (by decide) (hts (.fieldLink RJx4a65c 48 "java/util/ArrayList" "size" "I") (by decide +kernel)) (fun _ h9 => h9) rfl dJx4a65c_size_8abf5_1 ?_
  exact W.iret (v := nI n) hx hb hr (fun t ht hW => ⟨nI n, rfl, rfl, ht⟩) (fun q h => by cases h) dJx4a65c_size_8abf5_4

set_option maxHeartbeats 4000000 in
set_option maxRecDepth 100000 in
/-- Preconditions.checkIndex -/
theorem c_J3_checkIndex_8e157 (l : Launch) (i n : Nat) (hi : i < n) (hn : n < 2 ^ 31) : Met l yJ3_checkIndex_8e157 wsJ3_checkIndex_8e157 ({ frames := 0, cells := 0, slots := 0, locals := 0 }) (va_Pc [.int (nI i), .int (nI n), .null] (fun _ => True)) (vp_Si (fun r => r = nI i)) 0 0 (fun _ => False) := by
  refine Met.ofW (cc := cJ3_checkIndex_8e157) (maxL := 3) (ret := (some .int)) (by decide) rfl ?_
  intro p e s m args below meth c s₁ B hml hv
  obtain ⟨rfl, -⟩ := hv
  have hx := B.exec
  have hb := B.bytes
  have hr := B.returns
  have hts := atoms_spec (ws := wsJ3_checkIndex_8e157) B.pre
  have hown : s.vm.findClass RJ3 = some m.cls := findClass_of_methodNamed B.named
  have hlocks := B.notSynchronized
  have hl := lv_entry ([.int (nI i), .int (nI n), .null]) (n := 3) (Nat.le_of_ble_eq_true rfl)
  rw [lg_entry_eq]
  generalize (lg_sl ([.int (nI i), .int (nI n), .null]) ++ List.replicate (3 - (lg_sl ([.int (nI i), .int (nI n), .null])).length) Slot.unset).toArray = ls at hl ⊢
  have hl : lv_has ls 3 [(0, .int (nI i)), (1, .int (nI n)), (2, .null)] := hl
  refine lv_iload_n hx hb dJ3_checkIndex_8e157_0 rfl (lv_at hl 0 rfl) ?_
  refine lv_if_lt (tgt := 9) hx hb dJ3_checkIndex_8e157_1 (by decide) (fun c_1 => ?_) (fun c_1 => ?_)
  · exact absurd c_1 (nI_pos (by omega))
  · refine lv_iload_n hx hb dJ3_checkIndex_8e157_4 rfl (lv_at hl 0 rfl) ?_
    refine lv_iload_n hx hb dJ3_checkIndex_8e157_5 rfl (lv_at hl 1 rfl) ?_
    refine lv_icmp_lt (tgt := 16) hx hb dJ3_checkIndex_8e157_6 (by decide) (fun c_6 => ?_) (fun c_6 => ?_)
    · refine lv_iload_n hx hb dJ3_checkIndex_8e157_16 rfl (lv_at hl 0 rfl) ?_
      exact W.iret (v := nI i) hx hb hr (fun t ht hW => ⟨nI i, rfl, rfl, ht⟩) (fun q h => by cases h) dJ3_checkIndex_8e157_17
    · exact absurd (nI_lt hi (by omega)) c_6

set_option maxHeartbeats 4000000 in
set_option maxRecDepth 100000 in
/-- Objects.checkIndex -/
theorem c_J15_checkIndex_7cf53 (l : Launch) (i n : Nat) (hi : i < n) (hn : n < 2 ^ 31) : Met l yJ15_checkIndex_7cf53 wsJ15_checkIndex_7cf53 ({ frames := 1, cells := 0, slots := 0, locals := 22 }) (va_Pc [.int (nI i), .int (nI n)] (fun _ => True)) (vp_Si (fun r => r = nI i)) 0 0 (fun _ => False) := by
  refine Met.ofW (cc := cJ15_checkIndex_7cf53) (maxL := 2) (ret := (some .int)) (by decide) rfl ?_
  intro p e s m args below meth c s₁ B hml hv
  obtain ⟨rfl, -⟩ := hv
  have hx := B.exec
  have hb := B.bytes
  have hr := B.returns
  have hts := atoms_spec (ws := wsJ15_checkIndex_7cf53) B.pre
  have hown : s.vm.findClass RJ15 = some m.cls := findClass_of_methodNamed B.named
  have hlocks := B.notSynchronized
  have hl := lv_entry ([.int (nI i), .int (nI n)]) (n := 2) (Nat.le_of_ble_eq_true rfl)
  rw [lg_entry_eq]
  generalize (lg_sl ([.int (nI i), .int (nI n)]) ++ List.replicate (2 - (lg_sl ([.int (nI i), .int (nI n)])).length) Slot.unset).toArray = ls at hl ⊢
  have hl : lv_has ls 2 [(0, .int (nI i)), (1, .int (nI n))] := hl
  refine lv_iload_n hx hb dJ15_checkIndex_7cf53_0 rfl (lv_at hl 0 rfl) ?_
  refine lv_iload_n hx hb dJ15_checkIndex_7cf53_1 rfl (lv_at hl 1 rfl) ?_
  refine lv_null hx hb dJ15_checkIndex_7cf53_2 ?_
  refine vp_callSi (va_Run.run (va_runS (As := [.int (nI i), .int (nI n), .null]) (rest := []) ⟨hx, hb, hml, hown, hts⟩ (c_J3_checkIndex_8e157 l i n hi hn) (va_cwS 3 hts gJ15_checkIndex_7cf53_J3_checkIndex_8e157 rfl rfl rfl (by decide +kernel) ⟨Nat.le_of_ble_eq_true rfl, Nat.le_of_ble_eq_true rfl⟩) ⟨fun _ _ _ _ q => q, fun U hU hW => ⟨rfl, trivial⟩⟩ rfl rfl hl.1 rfl (lv_room (Nat.le_of_ble_eq_true rfl)) dJ15_checkIndex_7cf53_3 ⟨Nat.zero_le _, Nat.zero_le _⟩)) (fun r_3 hr_3 => ?_)
  exact W.iret (v := r_3) hx hb hr (fun t ht hW => ⟨r_3, rfl, hr_3, ht⟩) (fun q h => by cases h) dJ15_checkIndex_7cf53_6

set_option maxHeartbeats 4000000 in
set_option maxRecDepth 100000 in
/-- ArrayList.elementData -/
theorem c_Jx4a65c_elementData_915e3 (l : Launch) (D : va_G) (y : Nat → ClassId) (Ls : List Nat) (ad : Nat → Nat) (G : Nat → va_E) (j n : Nat) (el : Nat → Nat) (hL : ListAt y Ls ad G j n el) (i : Nat) (hi : i < n) : Met l yJx4a65c_elementData_915e3 wsJx4a65c_elementData_915e3 ({ frames := 0, cells := 0, slots := 0, locals := 0 }) (va_Pc [.ref (ad j), .int (nI i)] (Wd D y (wl Ls ad G))) (va_Sr (fun r => r = el i) (fun k => .ref k)) 0 0 (fun _ => False) := by
  refine Met.ofW (cc := cJx4a65c_elementData_915e3) (maxL := 2) (ret := (some (.object "java/lang/Object"))) (by decide) rfl ?_
  intro p e s m args below meth c s₁ B hml hv
  obtain ⟨rfl, hP, hK, hN⟩ := hv
  have hx := B.exec
  have hb := B.bytes
  have hr := B.returns
  have hts := atoms_spec (ws := wsJx4a65c_elementData_915e3) B.pre
  have hown : s.vm.findClass RJx4a65c = some m.cls := findClass_of_methodNamed B.named
  have hlocks := B.notSynchronized
  have hinJx4a65c : ∀ w ∈ wsJx4a65c0, w ∈ wsJx4a65c_elementData_915e3 := by decide +kernel
  obtain ⟨mc, ea, hj, ej, hn, hrow⟩ := hL
  obtain ⟨hj1, rfl, cap, f, ej1, hnc, hcap, hf⟩ := hrow (by omega)
  have hl := lv_entry ([.ref (ad j), .int (nI i)]) (n := 2) (Nat.le_of_ble_eq_true rfl)
  rw [lg_entry_eq]
  generalize (lg_sl ([.ref (ad j), .int (nI i)]) ++ List.replicate (2 - (lg_sl ([.ref (ad j), .int (nI i)])).length) Slot.unset).toArray = ls at hl ⊢
  have hl : lv_has ls 2 [(0, .ref (ad j)), (1, .int (nI i))] := hl
  refine lv_aload_n hx hb dJx4a65c_elementData_915e3_0 rfl (lv_at hl 0 rfl) ?_
  refine pv_get (ci := 1) (C := RJx4a65c) (T := TJx4a65c) (N := 3) hx hb hts hinJx4a65c hown hK hP hj ej rfl 1 (by decide) (hts (.fieldLink RJx4a65c 9 "java/util/ArrayList" "elementData" "[Ljava/lang/Object;") (by decide +kernel)) (fun _ h9 => h9) rfl dJx4a65c_elementData_915e3_1 ?_
  refine lv_iload_n hx hb dJx4a65c_elementData_915e3_4 rfl (lv_at hl 1 rfl) ?_
  refine pv_aald hx hb hK hP hj1 3 ej1 rfl (k := i) rfl (by omega) hcap dJx4a65c_elementData_915e3_5 (hf i hi) ?_
  exact W.aret (v := .ref (el i)) hx hb hr (by first | exact Or.inl ⟨_, rfl⟩ | exact Or.inr ⟨_, rfl⟩) (Or.inr ⟨_, rfl⟩) (fun t ht hW => ⟨el i, rfl, rfl, ht⟩) (fun q h => by cases h) dJx4a65c_elementData_915e3_6

set_option maxHeartbeats 4000000 in
set_option maxRecDepth 100000 in
/-- ArrayList.get -/
theorem c_Jx4a65c_get_915e3 (l : Launch) (D : va_G) (y : Nat → ClassId) (Ls : List Nat) (ad : Nat → Nat) (G : Nat → va_E) (j n : Nat) (el : Nat → Nat) (hL : ListAt y Ls ad G j n el) (i : Nat) (hi : i < n) : Met l yJx4a65c_get_915e3 wsJx4a65c_get_915e3 ({ frames := 2, cells := 0, slots := 0, locals := 43 }) (va_Pc [.ref (ad j), .int (nI i)] (Wd D y (wl Ls ad G))) (va_Sr (fun r => r = el i) (fun k => .ref k)) 0 0 (fun _ => False) := by
  refine Met.ofW (cc := cJx4a65c_get_915e3) (maxL := 2) (ret := (some (.object "java/lang/Object"))) (by decide) rfl ?_
  intro p e s m args below meth c s₁ B hml hv
  obtain ⟨rfl, hP, hK, hN⟩ := hv
  have hx := B.exec
  have hb := B.bytes
  have hr := B.returns
  have hts := atoms_spec (ws := wsJx4a65c_get_915e3) B.pre
  have hown : s.vm.findClass RJx4a65c = some m.cls := findClass_of_methodNamed B.named
  have hlocks := B.notSynchronized
  have hinJx4a65c : ∀ w ∈ wsJx4a65c0, w ∈ wsJx4a65c_get_915e3 := by decide +kernel
  obtain ⟨mc, ea, hj, ej, hn, -⟩ := id hL
  have hl := lv_entry ([.ref (ad j), .int (nI i)]) (n := 2) (Nat.le_of_ble_eq_true rfl)
  rw [lg_entry_eq]
  generalize (lg_sl ([.ref (ad j), .int (nI i)]) ++ List.replicate (2 - (lg_sl ([.ref (ad j), .int (nI i)])).length) Slot.unset).toArray = ls at hl ⊢
  have hl : lv_has ls 2 [(0, .ref (ad j)), (1, .int (nI i))] := hl
  refine lv_iload_n hx hb dJx4a65c_get_915e3_0 rfl (lv_at hl 1 rfl) ?_
  refine lv_aload_n hx hb dJx4a65c_get_915e3_1 rfl (lv_at hl 0 rfl) ?_
  refine pv_get (ci := 1) (C := RJx4a65c) (T := TJx4a65c) (N := 3) hx hb hts hinJx4a65c hown hK hP hj ej rfl 2 (by decide) (hts (.fieldLink RJx4a65c 48 "java/util/ArrayList" "size" "I") (by decide +kernel)) (fun _ h9 => h9) rfl dJx4a65c_get_915e3_2 ?_
  refine vp_callSi (va_Run.run (va_runS (As := [.int (nI i), .int (nI n)]) (rest := []) ⟨hx, hb, hml, hown, hts⟩ (c_J15_checkIndex_7cf53 l i n hi (by omega)) (va_cwS 2 hts gJx4a65c_get_915e3_J15_checkIndex_7cf53 rfl rfl rfl (by decide +kernel) ⟨Nat.le_of_ble_eq_true rfl, Nat.le_of_ble_eq_true rfl⟩) ⟨fun _ _ _ _ q => q, fun U hU hW => ⟨rfl, trivial⟩⟩ rfl rfl hl.1 rfl (lv_room (Nat.le_of_ble_eq_true rfl)) dJx4a65c_get_915e3_5 ⟨Nat.zero_le _, Nat.zero_le _⟩)) (fun r_5 hr_5 => ?_)
  refine lv_pop hx hb dJx4a65c_get_915e3_8 rfl ?_
  refine lv_aload_n hx hb dJx4a65c_get_915e3_9 rfl (lv_at hl 0 rfl) ?_
  refine lv_iload_n hx hb dJx4a65c_get_915e3_10 rfl (lv_at hl 1 rfl) ?_
  refine va_csr (va_Run.run (va_runV (As := [.int (nI i)]) (rest := []) ⟨hx, hb, hml, hown, hts⟩ (c_Jx4a65c_elementData_915e3 l D y Ls ad G j n el hL i hi) (cwV 1 hts gJx4a65c_get_915e3_Jx4a65c_elementData_915e3 rfl rfl rfl (by decide +kernel) ⟨Nat.le_of_ble_eq_true rfl, Nat.le_of_ble_eq_true rfl⟩) ⟨Wd_blind, Wd_recv hK hP (ci := 1) rfl hj ej, Wd_at hP hK hN⟩ rfl rfl hl.1 rfl (lv_room (Nat.le_of_ble_eq_true rfl)) dJx4a65c_get_915e3_11 ⟨Nat.zero_le _, Nat.zero_le _⟩)) (fun r_11 hr_11 => ?_)
  subst hr_11
  exact W.aret (v := .ref (el i)) hx hb hr (by first | exact Or.inl ⟨_, rfl⟩ | exact Or.inr ⟨_, rfl⟩) (Or.inr ⟨_, rfl⟩) (fun t ht hW => ⟨el i, rfl, rfl, ht⟩) (fun q h => by cases h) dJx4a65c_get_915e3_14
end
section
/-! Charges' reads -/
/-- charges at the label c, their six rows behind it -/
def ChargesAt (y : Nat → ClassId) (Ls : List Nat) (ad : Nat → Nat) (G : Nat → va_E) (c : Nat) (st ha mi dO dD dP : Nat → Int32) (nd : Nat) (li ow : Int32) : Prop :=
  (c ∈ Ls ∧ c + 1 ∈ Ls ∧ c + 2 ∈ Ls ∧ c + 3 ∈ Ls ∧ c + 4 ∈ Ls ∧ c + 5 ∈ Ls ∧ c + 6 ∈ Ls) ∧ G c = .inr (4, [.ref (ad (c + 1)), .ref (ad (c + 2)), .ref (ad (c + 3)), .ref (ad (c + 4)), .ref (ad (c + 5)), .ref (ad (c + 6)), .int (nI nd), .int li, .int ow]) ∧ G (c + 1) = .inl (y 0, 40, .inl st) ∧ G (c + 2) = .inl (y 0, 40, .inl ha) ∧ G (c + 3) = .inl (y 0, 8, .inl mi) ∧ G (c + 4) = .inl (y 0, 60, .inl dO) ∧ G (c + 5) = .inl (y 0, 60, .inl dD) ∧ G (c + 6) = .inl (y 0, 60, .inl dP) ∧ nd ≤ 60
/-- what a row of cents answers at a place -/
def tZ (n : Nat) (f : Nat → Int32) (pl : Int32) : Int32 := if 0 ≤ pl ∧ pl ≤ nI (n - 1) then (if f pl.toNatClampNeg = -1 then 0 else f pl.toNatClampNeg) else 0
theorem within_nI {n : Nat} {x : Int32} (h1 : 1 ≤ n) (hn : n < 2 ^ 31) (h : 0 ≤ x ∧ x ≤ nI (n - 1)) : ∃ k, k < n ∧ x = nI k := by
  obtain ⟨k, hk, e⟩ := nI_of2 (M := nI (n - 1)) (n := n - 1) (nI_toInt (by omega)) (Int32.not_lt.mpr h.1) h.2
  exact ⟨k, by omega, e⟩
def hasD (dO dD : Nat → Int32) (o d : Int32) : Nat → Prop := fun n => ∃ i, i < n ∧ dO i = o ∧ dD i = d
theorem hasD_step {dO dD : Nat → Int32} {o d : Int32} {i : Nat} (h : ¬ hasD dO dD o d i) (h2 : ¬ (dO i = o ∧ dD i = d)) : ¬ hasD dO dD o d (i + 1) := by
  rintro ⟨q, h1, h3⟩
  rcases Nat.lt_or_ge q i with g | g
  · exact h ⟨q, g, h3⟩
  · obtain rfl : q = i := by omega
    exact h2 h3
/-- the most days and the percent of the discounts looked at so far -/
def pF (dO dD dP : Nat → Int32) (o ud : Int32) : Nat → Int32 × Int32
  | 0 => (0, 0)
  | i + 1 => if dO i = o ∧ ((pF dO dD dP o ud i).1 ≤ dD i ∧ dD i ≤ ud) then (dD i, dP i) else pF dO dD dP o ud i

set_option maxHeartbeats 4000000 in
set_option maxRecDepth 100000 in
/-- Charges.place -/
theorem c_X2_place (l : Launch) (o k : Int32) : Met l yX2_place wsX2_place ({ frames := 0, cells := 0, slots := 0, locals := 0 }) (va_Pc [.int o, .int k] (fun _ => True)) (vp_Si (fun r => r = 5 * o + k)) 0 0 (fun _ => False) := by
  refine Met.ofW (cc := cX2_place) (maxL := 2) (ret := (some .int)) (by decide) rfl ?_
  intro p e s m args below meth c s₁ B hml hv
  obtain ⟨rfl, -⟩ := hv
  have hx := B.exec
  have hb := B.bytes
  have hr := B.returns
  have hts := atoms_spec (ws := wsX2_place) B.pre
  have hown : s.vm.findClass RX2 = some m.cls := findClass_of_methodNamed B.named
  have hlocks := B.notSynchronized
  have hl := lv_entry ([.int o, .int k]) (n := 2) (Nat.le_of_ble_eq_true rfl)
  rw [lg_entry_eq]
  generalize (lg_sl ([.int o, .int k]) ++ List.replicate (2 - (lg_sl ([.int o, .int k])).length) Slot.unset).toArray = ls at hl ⊢
  have hl : lv_has ls 2 [(0, .int o), (1, .int k)] := hl
  refine lv_iconst (v := 5) hx hb dX2_place_0 (by decide) ?_
  refine lv_iload_n hx hb dX2_place_1 rfl (lv_at hl 0 rfl) ?_
  refine lv_imul hx hb dX2_place_2 ?_
  refine lv_iload_n hx hb dX2_place_3 rfl (lv_at hl 1 rfl) ?_
  refine lv_iadd hx hb dX2_place_4 ?_
  exact W.iret (v := ((5 * o) + k)) hx hb hr (fun t ht hW => ⟨((5 * o) + k), rfl, rfl, ht⟩) (fun q h => by cases h) dX2_place_5

set_option maxHeartbeats 4000000 in
set_option maxRecDepth 100000 in
/-- Charges.toldOrZero -/
theorem c_X2_toldOrZero (l : Launch) (D : va_G) (y : Nat → ClassId) (Ls : List Nat) (ad : Nat → Nat) (G : Nat → va_E) (rw n : Nat) (f : Nat → Int32) (hj : rw ∈ Ls) (er : G rw = .inl (y 0, n, .inl f)) (h1 : 1 ≤ n) (hn : n < 2 ^ 31) (pl : Int32) : Met l yX2_toldOrZero wsX2_toldOrZero ({ frames := 1, cells := 0, slots := 0, locals := 22 }) (va_Pc [.ref (ad rw), .int pl] (Wd D y (wl Ls ad G))) (vp_Si (fun r => r = tZ n f pl)) 0 0 (fun _ => False) := by
  refine Met.ofW (cc := cX2_toldOrZero) (maxL := 2) (ret := (some .int)) (by decide) rfl ?_
  intro p e s m args below meth c s₁ B hml hv
  obtain ⟨rfl, hP, hK, hN⟩ := hv
  have hx := B.exec
  have hb := B.bytes
  have hr := B.returns
  have hts := atoms_spec (ws := wsX2_toldOrZero) B.pre
  have hown : s.vm.findClass RX2 = some m.cls := findClass_of_methodNamed B.named
  have hlocks := B.notSynchronized
  have hl := lv_entry ([.ref (ad rw), .int pl]) (n := 2) (Nat.le_of_ble_eq_true rfl)
  rw [lg_entry_eq]
  generalize (lg_sl ([.ref (ad rw), .int pl]) ++ List.replicate (2 - (lg_sl ([.ref (ad rw), .int pl])).length) Slot.unset).toArray = ls at hl ⊢
  have hl : lv_has ls 2 [(0, .ref (ad rw)), (1, .int pl)] := hl
  refine lv_iload_n hx hb dX2_toldOrZero_0 rfl (lv_at hl 1 rfl) ?_
  refine lv_iconst (v := 0) hx hb dX2_toldOrZero_1 (by decide) ?_
  refine lv_aload_n hx hb dX2_toldOrZero_2 rfl (lv_at hl 0 rfl) ?_
  refine pv_alen (n := n) hx hb hK hP hj 0 er rfl rfl dX2_toldOrZero_3 ?_
  refine lv_iconst (v := 1) hx hb dX2_toldOrZero_4 (by decide) ?_
  refine lv_isub hx hb dX2_toldOrZero_5 ?_
  refine vp_callSi (va_Run.run (va_runSN (As := [.int pl, .int 0, .int ((nI n) - 1)]) (rest := []) ⟨hx, hb, hml, hown, hts⟩ (c_X7_isWithin l pl 0 (nI n - 1)) ⟨va_cnB 3 hts gX2_toldOrZero_X7_isWithin_n49 rfl rfl rfl (hN (.methodLinkNest RX2 49 yX7_isWithin "StorageCharge") (by decide +kernel)) (hts (.initialized RX7) (by decide +kernel)) (by decide +kernel) ⟨Nat.le_of_ble_eq_true rfl, Nat.le_of_ble_eq_true rfl⟩, hts (.static yX7_isWithin) (by decide +kernel), trivial⟩ ⟨fun _ _ _ _ q => q, fun U hU hW => ⟨rfl, trivial⟩⟩ rfl rfl hl.1 rfl (lv_room (Nat.le_of_ble_eq_true rfl)) dX2_toldOrZero_6 ⟨Nat.zero_le _, Nat.zero_le _⟩)) (fun r_6 hr_6 => ?_)
  refine lv_if_eq (tgt := 25) hx hb dX2_toldOrZero_9 (by decide) (fun c_9 => ?_) (fun c_9 => ?_)
  · refine lv_iconst (v := 0) hx hb dX2_toldOrZero_25 (by decide) ?_
    exact W.iret (v := 0) hx hb hr (fun t ht hW => ⟨0, rfl, (by first | (rw [tZ, if_neg (by rw [← nI_p1 h1]; first | exact wI_eq0.mp (by rw [← hr_6]; exact c_9) | exact c_9)]) | (rw [tZ, if_pos hw, if_pos (by rw [ek, nI_clamp (by omega)]; exact c_16)])), ht⟩) (fun q h => by cases h) dX2_toldOrZero_26
  · have hw : 0 ≤ pl ∧ pl ≤ nI (n - 1) := by
      rw [← nI_p1 h1]
      exact Decidable.byContradiction fun h => c_9 (by rw [hr_6]; exact wI_eq0.mpr h)
    obtain ⟨k, hk, ek⟩ := within_nI h1 hn hw
    refine lv_aload_n hx hb dX2_toldOrZero_12 rfl (lv_at hl 0 rfl) ?_
    refine lv_iload_n hx hb dX2_toldOrZero_13 rfl (lv_at hl 1 rfl) ?_
    refine pv_iald hx hb hK hP hj 0 er rfl (k := k) ek hk hn dX2_toldOrZero_14 ?_
    refine lv_iconst (v := (-1)) hx hb dX2_toldOrZero_15 (by decide) ?_
    refine lv_icmp_eq (tgt := 25) hx hb dX2_toldOrZero_16 (by decide) (fun c_16 => ?_) (fun c_16 => ?_)
    · refine lv_iconst (v := 0) hx hb dX2_toldOrZero_25 (by decide) ?_
      exact W.iret (v := 0) hx hb hr (fun t ht hW => ⟨0, rfl, (by first | (rw [tZ, if_neg (by rw [← nI_p1 h1]; first | exact wI_eq0.mp (by rw [← hr_6]; exact c_9) | exact c_9)]) | (rw [tZ, if_pos hw, if_pos (by rw [ek, nI_clamp (by omega)]; exact c_16)])), ht⟩) (fun q h => by cases h) dX2_toldOrZero_26
    · refine lv_aload_n hx hb dX2_toldOrZero_19 rfl (lv_at hl 0 rfl) ?_
      refine lv_iload_n hx hb dX2_toldOrZero_20 rfl (lv_at hl 1 rfl) ?_
      refine pv_iald hx hb hK hP hj 0 er rfl (k := k) ek hk hn dX2_toldOrZero_21 ?_
      refine lv_goto (tgt := 26) hx hb dX2_toldOrZero_22 (by decide) ?_
      exact W.iret (v := f k) hx hb hr (fun t ht hW => ⟨f k, rfl, (by rw [tZ, if_pos hw, if_neg (by rw [ek, nI_clamp (by omega)]; exact c_16), ek, nI_clamp (by omega)]), ht⟩) (fun q h => by cases h) dX2_toldOrZero_26

set_option maxHeartbeats 4000000 in
set_option maxRecDepth 100000 in
/-- Charges.storageCents -/
theorem c_X2_storageCents (l : Launch) (D : va_G) (y : Nat → ClassId) (Ls : List Nat) (ad : Nat → Nat) (G : Nat → va_E) (ch : Nat) (st ha mi dO dD dP : Nat → Int32) (nd : Nat) (li ow : Int32) (hC : ChargesAt y Ls ad G ch st ha mi dO dD dP nd li ow) (o kd : Int32) : Met l yX2_storageCents wsX2_storageCents ({ frames := 2, cells := 0, slots := 0, locals := 43 }) (va_Pc [.ref (ad ch), .int o, .int kd] (Wd D y (wl Ls ad G))) (vp_Si (fun r => r = tZ 40 st (5 * o + kd))) 0 0 (fun _ => False) := by
  refine Met.ofW (cc := cX2_storageCents) (maxL := 3) (ret := (some .int)) (by decide) rfl ?_
  intro p e s m args below meth c s₁ B hml hv
  obtain ⟨rfl, hP, hK, hN⟩ := hv
  have hx := B.exec
  have hb := B.bytes
  have hr := B.returns
  have hts := atoms_spec (ws := wsX2_storageCents) B.pre
  have hown : s.vm.findClass RX2 = some m.cls := findClass_of_methodNamed B.named
  have hlocks := B.notSynchronized
  have hinX2 : ∀ w ∈ wsX20, w ∈ wsX2_storageCents := by decide +kernel
  obtain ⟨⟨hc0, hc1, hc2, hc3, hc4, hc5, hc6⟩, ec0, ec1, ec2, ec3, ec4, ec5, ec6, hnd⟩ := id hC
  have hl := lv_entry ([.ref (ad ch), .int o, .int kd]) (n := 3) (Nat.le_of_ble_eq_true rfl)
  rw [lg_entry_eq]
  generalize (lg_sl ([.ref (ad ch), .int o, .int kd]) ++ List.replicate (3 - (lg_sl ([.ref (ad ch), .int o, .int kd])).length) Slot.unset).toArray = ls at hl ⊢
  have hl : lv_has ls 3 [(0, .ref (ad ch)), (1, .int o), (2, .int kd)] := hl
  refine lv_aload_n hx hb dX2_storageCents_0 rfl (lv_at hl 0 rfl) ?_
  refine pv_get (ci := 4) (C := RX2) (T := TX2) (N := 9) hx hb hts hinX2 hown hK hP hc0 ec0 rfl 0 (by decide) (hts (.fieldLink RX2 9 "StorageCharge$Charges" "storage" "[I") (by decide +kernel)) (fun _ h9 => h9) rfl dX2_storageCents_1 ?_
  refine lv_iload_n hx hb dX2_storageCents_4 rfl (lv_at hl 1 rfl) ?_
  refine lv_iload_n hx hb dX2_storageCents_5 rfl (lv_at hl 2 rfl) ?_
  refine vp_callSi (va_Run.run (va_runS (As := [.int o, .int kd]) (rest := [.ref (ad (ch + 1))]) ⟨hx, hb, hml, hown, hts⟩ (c_X2_place l o kd) (va_cwS 2 hts gX2_storageCents_X2_place rfl rfl rfl (by decide +kernel) ⟨Nat.le_of_ble_eq_true rfl, Nat.le_of_ble_eq_true rfl⟩) ⟨fun _ _ _ _ q => q, fun U hU hW => ⟨rfl, trivial⟩⟩ rfl rfl hl.1 rfl (lv_room (Nat.le_of_ble_eq_true rfl)) dX2_storageCents_6 ⟨Nat.zero_le _, Nat.zero_le _⟩)) (fun r_6 hr_6 => ?_)
  refine vp_callSi (va_Run.run (va_runS (As := [.ref (ad (ch + 1)), .int r_6]) (rest := []) ⟨hx, hb, hml, hown, hts⟩ (c_X2_toldOrZero l D y Ls ad G (ch + 1) 40 st hc1 ec1 (by decide) (by decide) r_6) (va_cwS 2 hts gX2_storageCents_X2_toldOrZero rfl rfl rfl (by decide +kernel) ⟨Nat.le_of_ble_eq_true rfl, Nat.le_of_ble_eq_true rfl⟩) ⟨Wd_blind, Wd_at hP hK hN⟩ rfl rfl hl.1 rfl (lv_room (Nat.le_of_ble_eq_true rfl)) dX2_storageCents_9 ⟨Nat.zero_le _, Nat.zero_le _⟩)) (fun r_9 hr_9 => ?_)
  exact W.iret (v := r_9) hx hb hr (fun t ht hW => ⟨r_9, rfl, (by rw [hr_9, hr_6]), ht⟩) (fun q h => by cases h) dX2_storageCents_12

set_option maxHeartbeats 4000000 in
set_option maxRecDepth 100000 in
/-- Charges.handlingCents -/
theorem c_X2_handlingCents (l : Launch) (D : va_G) (y : Nat → ClassId) (Ls : List Nat) (ad : Nat → Nat) (G : Nat → va_E) (ch : Nat) (st ha mi dO dD dP : Nat → Int32) (nd : Nat) (li ow : Int32) (hC : ChargesAt y Ls ad G ch st ha mi dO dD dP nd li ow) (o kd : Int32) : Met l yX2_handlingCents wsX2_handlingCents ({ frames := 2, cells := 0, slots := 0, locals := 43 }) (va_Pc [.ref (ad ch), .int o, .int kd] (Wd D y (wl Ls ad G))) (vp_Si (fun r => r = tZ 40 ha (5 * o + kd))) 0 0 (fun _ => False) := by
  refine Met.ofW (cc := cX2_handlingCents) (maxL := 3) (ret := (some .int)) (by decide) rfl ?_
  intro p e s m args below meth c s₁ B hml hv
  obtain ⟨rfl, hP, hK, hN⟩ := hv
  have hx := B.exec
  have hb := B.bytes
  have hr := B.returns
  have hts := atoms_spec (ws := wsX2_handlingCents) B.pre
  have hown : s.vm.findClass RX2 = some m.cls := findClass_of_methodNamed B.named
  have hlocks := B.notSynchronized
  have hinX2 : ∀ w ∈ wsX20, w ∈ wsX2_handlingCents := by decide +kernel
  obtain ⟨⟨hc0, hc1, hc2, hc3, hc4, hc5, hc6⟩, ec0, ec1, ec2, ec3, ec4, ec5, ec6, hnd⟩ := id hC
  have hl := lv_entry ([.ref (ad ch), .int o, .int kd]) (n := 3) (Nat.le_of_ble_eq_true rfl)
  rw [lg_entry_eq]
  generalize (lg_sl ([.ref (ad ch), .int o, .int kd]) ++ List.replicate (3 - (lg_sl ([.ref (ad ch), .int o, .int kd])).length) Slot.unset).toArray = ls at hl ⊢
  have hl : lv_has ls 3 [(0, .ref (ad ch)), (1, .int o), (2, .int kd)] := hl
  refine lv_aload_n hx hb dX2_handlingCents_0 rfl (lv_at hl 0 rfl) ?_
  refine pv_get (ci := 4) (C := RX2) (T := TX2) (N := 9) hx hb hts hinX2 hown hK hP hc0 ec0 rfl 1 (by decide) (hts (.fieldLink RX2 15 "StorageCharge$Charges" "handling" "[I") (by decide +kernel)) (fun _ h9 => h9) rfl dX2_handlingCents_1 ?_
  refine lv_iload_n hx hb dX2_handlingCents_4 rfl (lv_at hl 1 rfl) ?_
  refine lv_iload_n hx hb dX2_handlingCents_5 rfl (lv_at hl 2 rfl) ?_
  refine vp_callSi (va_Run.run (va_runS (As := [.int o, .int kd]) (rest := [.ref (ad (ch + 2))]) ⟨hx, hb, hml, hown, hts⟩ (c_X2_place l o kd) (va_cwS 2 hts gX2_handlingCents_X2_place rfl rfl rfl (by decide +kernel) ⟨Nat.le_of_ble_eq_true rfl, Nat.le_of_ble_eq_true rfl⟩) ⟨fun _ _ _ _ q => q, fun U hU hW => ⟨rfl, trivial⟩⟩ rfl rfl hl.1 rfl (lv_room (Nat.le_of_ble_eq_true rfl)) dX2_handlingCents_6 ⟨Nat.zero_le _, Nat.zero_le _⟩)) (fun r_6 hr_6 => ?_)
  refine vp_callSi (va_Run.run (va_runS (As := [.ref (ad (ch + 2)), .int r_6]) (rest := []) ⟨hx, hb, hml, hown, hts⟩ (c_X2_toldOrZero l D y Ls ad G (ch + 2) 40 ha hc2 ec2 (by decide) (by decide) r_6) (va_cwS 2 hts gX2_handlingCents_X2_toldOrZero rfl rfl rfl (by decide +kernel) ⟨Nat.le_of_ble_eq_true rfl, Nat.le_of_ble_eq_true rfl⟩) ⟨Wd_blind, Wd_at hP hK hN⟩ rfl rfl hl.1 rfl (lv_room (Nat.le_of_ble_eq_true rfl)) dX2_handlingCents_9 ⟨Nat.zero_le _, Nat.zero_le _⟩)) (fun r_9 hr_9 => ?_)
  exact W.iret (v := r_9) hx hb hr (fun t ht hW => ⟨r_9, rfl, (by rw [hr_9, hr_6]), ht⟩) (fun q h => by cases h) dX2_handlingCents_12

set_option maxHeartbeats 4000000 in
set_option maxRecDepth 100000 in
/-- Charges.minimumOf -/
theorem c_X2_minimumOf (l : Launch) (D : va_G) (y : Nat → ClassId) (Ls : List Nat) (ad : Nat → Nat) (G : Nat → va_E) (ch : Nat) (st ha mi dO dD dP : Nat → Int32) (nd : Nat) (li ow : Int32) (hC : ChargesAt y Ls ad G ch st ha mi dO dD dP nd li ow) (o : Int32) : Met l yX2_minimumOf wsX2_minimumOf ({ frames := 2, cells := 0, slots := 0, locals := 43 }) (va_Pc [.ref (ad ch), .int o] (Wd D y (wl Ls ad G))) (vp_Si (fun r => r = tZ 8 mi o)) 0 0 (fun _ => False) := by
  refine Met.ofW (cc := cX2_minimumOf) (maxL := 2) (ret := (some .int)) (by decide) rfl ?_
  intro p e s m args below meth c s₁ B hml hv
  obtain ⟨rfl, hP, hK, hN⟩ := hv
  have hx := B.exec
  have hb := B.bytes
  have hr := B.returns
  have hts := atoms_spec (ws := wsX2_minimumOf) B.pre
  have hown : s.vm.findClass RX2 = some m.cls := findClass_of_methodNamed B.named
  have hlocks := B.notSynchronized
  have hinX2 : ∀ w ∈ wsX20, w ∈ wsX2_minimumOf := by decide +kernel
  obtain ⟨⟨hc0, hc1, hc2, hc3, hc4, hc5, hc6⟩, ec0, ec1, ec2, ec3, ec4, ec5, ec6, hnd⟩ := id hC
  have hl := lv_entry ([.ref (ad ch), .int o]) (n := 2) (Nat.le_of_ble_eq_true rfl)
  rw [lg_entry_eq]
  generalize (lg_sl ([.ref (ad ch), .int o]) ++ List.replicate (2 - (lg_sl ([.ref (ad ch), .int o])).length) Slot.unset).toArray = ls at hl ⊢
  have hl : lv_has ls 2 [(0, .ref (ad ch)), (1, .int o)] := hl
  refine lv_aload_n hx hb dX2_minimumOf_0 rfl (lv_at hl 0 rfl) ?_
  refine pv_get (ci := 4) (C := RX2) (T := TX2) (N := 9) hx hb hts hinX2 hown hK hP hc0 ec0 rfl 2 (by decide) (hts (.fieldLink RX2 18 "StorageCharge$Charges" "minimum" "[I") (by decide +kernel)) (fun _ h9 => h9) rfl dX2_minimumOf_1 ?_
  refine lv_iload_n hx hb dX2_minimumOf_4 rfl (lv_at hl 1 rfl) ?_
  refine vp_callSi (va_Run.run (va_runS (As := [.ref (ad (ch + 3)), .int o]) (rest := []) ⟨hx, hb, hml, hown, hts⟩ (c_X2_toldOrZero l D y Ls ad G (ch + 3) 8 mi hc3 ec3 (by decide) (by decide) o) (va_cwS 2 hts gX2_minimumOf_X2_toldOrZero rfl rfl rfl (by decide +kernel) ⟨Nat.le_of_ble_eq_true rfl, Nat.le_of_ble_eq_true rfl⟩) ⟨Wd_blind, Wd_at hP hK hN⟩ rfl rfl hl.1 rfl (lv_room (Nat.le_of_ble_eq_true rfl)) dX2_minimumOf_5 ⟨Nat.zero_le _, Nat.zero_le _⟩)) (fun r_5 hr_5 => ?_)
  exact W.iret (v := r_5) hx hb hr (fun t ht hW => ⟨r_5, rfl, hr_5, ht⟩) (fun q h => by cases h) dX2_minimumOf_8

set_option maxHeartbeats 4000000 in
set_option maxRecDepth 100000 in
/-- Charges.hasDiscount -/
theorem c_X2_hasDiscount (l : Launch) (D : va_G) (y : Nat → ClassId) (Ls : List Nat) (ad : Nat → Nat) (G : Nat → va_E) (ch : Nat) (st ha mi dO dD dP : Nat → Int32) (nd : Nat) (li ow : Int32) (hC : ChargesAt y Ls ad G ch st ha mi dO dD dP nd li ow) (o d : Int32) : Met l yX2_hasDiscount wsX2_hasDiscount ({ frames := 0, cells := 0, slots := 0, locals := 0 }) (va_Pc [.ref (ad ch), .int o, .int d] (Wd D y (wl Ls ad G))) (vp_Si (fun r => (r = 1 ∧ hasD dO dD o d nd) ∨ (r = 0 ∧ ¬ hasD dO dD o d nd))) 0 0 (fun _ => False) := by
  refine Met.ofW (cc := cX2_hasDiscount) (maxL := 4) (ret := (some .boolean)) (by decide) rfl ?_
  intro p e s m args below meth c s₁ B hml hv
  obtain ⟨rfl, hP, hK, hN⟩ := hv
  have hx := B.exec
  have hb := B.bytes
  have hr := B.returns
  have hts := atoms_spec (ws := wsX2_hasDiscount) B.pre
  have hown : s.vm.findClass RX2 = some m.cls := findClass_of_methodNamed B.named
  have hlocks := B.notSynchronized
  have hinX2 : ∀ w ∈ wsX20, w ∈ wsX2_hasDiscount := by decide +kernel
  obtain ⟨⟨hc0, hc1, hc2, hc3, hc4, hc5, hc6⟩, ec0, ec1, ec2, ec3, ec4, ec5, ec6, hnd⟩ := id hC
  have loop2 : ∀ (n : Nat) (i : Nat) (x : Int32), i ≤ nd → nd < i + n → ¬ hasD dO dD o d i → x = nI i → ∀ ls : Array Slot, lv_has ls 4 [(0, .ref (ad ch)), (1, .int o), (2, .int d), (3, .int x)] → W p l e (headSpec wsX2_hasDiscount ({ frames := 0, cells := 0, slots := 0, locals := 0 })).room s m ([.ref (ad ch), .int o, .int d] : List Value).toArray below meth c s.heap [] 0 0 (MQ below (vp_Si (fun r => (r = 1 ∧ hasD dO dD o d nd) ∨ (r = 0 ∧ ¬ hasD dO dD o d nd))) ([.ref (ad ch), .int o, .int d] : List Value).toArray s 0 0 (fun _ => False)) (F0 m 2 ls []) := by
    intro n
    induction n with
    | zero =>
      intro i x hi hn; exact absurd hn (by omega)
    | succ n ih2 =>
      intro i x hi hn hno ei ls hl
      refine lv_iload_n hx hb dX2_hasDiscount_2 rfl (lv_at hl 3 rfl) ?_
      refine lv_aload_n hx hb dX2_hasDiscount_3 rfl (lv_at hl 0 rfl) ?_
      refine pv_get (ci := 4) (C := RX2) (T := TX2) (N := 9) hx hb hts hinX2 hown hK hP hc0 ec0 rfl 6 (by decide) (hts (.fieldLink RX2 30 "StorageCharge$Charges" "discounts" "I") (by decide +kernel)) (fun _ h9 => h9) rfl dX2_hasDiscount_4 ?_
      refine lv_icmp_ge (tgt := 38) hx hb dX2_hasDiscount_7 (by decide) (fun c_7 => ?_) (fun c_7 => ?_)
      · refine lv_iconst (v := 0) hx hb dX2_hasDiscount_38 (by decide) ?_
        exact W.zret (v := 0) hx hb hr (by first | rfl | decide | (simp [narrow]; done) | assumption) (fun t ht hW => ⟨0, rfl, Or.inr ⟨rfl, by have h8 := Nat.le_of_not_lt (fun h : i < nd => absurd c_7 (by rw [ei]; exact nI_ge h (by omega))); rwa [show nd = i by omega]⟩, ht⟩) (fun q h => by cases h) dX2_hasDiscount_39
      · have hlt : i < nd := Nat.lt_of_not_le fun h => c_7 (by rw [ei]; exact nI_le h (by omega))
        refine lv_aload_n hx hb dX2_hasDiscount_10 rfl (lv_at hl 0 rfl) ?_
        refine pv_get (ci := 4) (C := RX2) (T := TX2) (N := 9) hx hb hts hinX2 hown hK hP hc0 ec0 rfl 3 (by decide) (hts (.fieldLink RX2 21 "StorageCharge$Charges" "discountOwners" "[I") (by decide +kernel)) (fun _ h9 => h9) rfl dX2_hasDiscount_11 ?_
        refine lv_iload_n hx hb dX2_hasDiscount_14 rfl (lv_at hl 3 rfl) ?_
        refine pv_iald hx hb hK hP hc4 0 ec4 rfl (k := i) ei (by omega) (by decide) dX2_hasDiscount_15 ?_
        refine lv_iload_n hx hb dX2_hasDiscount_16 rfl (lv_at hl 1 rfl) ?_
        refine lv_icmp_ne (tgt := 32) hx hb dX2_hasDiscount_17 (by decide) (fun c_17 => ?_) (fun c_17 => ?_)
        · obtain ⟨x_32, ex_32⟩ : ∃ y9 : Int32, y9 = x + 1 := ⟨_, rfl⟩
          refine lv_iinc (v := x_32) (lv' := [(3, .int x_32), (0, .ref (ad ch)), (1, .int o), (2, .int d)]) hx hb dX2_hasDiscount_32 hl (k := 3) rfl (by rw [ex_32]; rfl) (by decide) rfl (fun ls hl => ?_)
          refine lv_goto (tgt := 2) hx hb dX2_hasDiscount_35 (by decide) ?_
          exact ih2 (i + 1) x_32 (by omega) (by omega) (hasD_step hno (fun h => by first | exact c_17 h.1 | exact c_27 h.2)) (by rw [ex_32, ei]; exact nI_1 i) ls (lv_sub hl [1, 2, 3, 0] rfl)
        · refine lv_aload_n hx hb dX2_hasDiscount_20 rfl (lv_at hl 0 rfl) ?_
          refine pv_get (ci := 4) (C := RX2) (T := TX2) (N := 9) hx hb hts hinX2 hown hK hP hc0 ec0 rfl 4 (by decide) (hts (.fieldLink RX2 24 "StorageCharge$Charges" "discountDays" "[I") (by decide +kernel)) (fun _ h9 => h9) rfl dX2_hasDiscount_21 ?_
          refine lv_iload_n hx hb dX2_hasDiscount_24 rfl (lv_at hl 3 rfl) ?_
          refine pv_iald hx hb hK hP hc5 0 ec5 rfl (k := i) ei (by omega) (by decide) dX2_hasDiscount_25 ?_
          refine lv_iload_n hx hb dX2_hasDiscount_26 rfl (lv_at hl 2 rfl) ?_
          refine lv_icmp_ne (tgt := 32) hx hb dX2_hasDiscount_27 (by decide) (fun c_27 => ?_) (fun c_27 => ?_)
          · obtain ⟨x_32, ex_32⟩ : ∃ y9 : Int32, y9 = x + 1 := ⟨_, rfl⟩
            refine lv_iinc (v := x_32) (lv' := [(3, .int x_32), (0, .ref (ad ch)), (1, .int o), (2, .int d)]) hx hb dX2_hasDiscount_32 hl (k := 3) rfl (by rw [ex_32]; rfl) (by decide) rfl (fun ls hl => ?_)
            refine lv_goto (tgt := 2) hx hb dX2_hasDiscount_35 (by decide) ?_
            exact ih2 (i + 1) x_32 (by omega) (by omega) (hasD_step hno (fun h => by first | exact c_17 h.1 | exact c_27 h.2)) (by rw [ex_32, ei]; exact nI_1 i) ls (lv_sub hl [1, 2, 3, 0] rfl)
          · refine lv_iconst (v := 1) hx hb dX2_hasDiscount_30 (by decide) ?_
            exact W.zret (v := 1) hx hb hr (by first | rfl | decide | (simp [narrow]; done) | assumption) (fun t ht hW => ⟨1, rfl, Or.inl ⟨rfl, i, hlt, c_17, c_27⟩, ht⟩) (fun q h => by cases h) dX2_hasDiscount_31
  have hl := lv_entry ([.ref (ad ch), .int o, .int d]) (n := 4) (Nat.le_of_ble_eq_true rfl)
  rw [lg_entry_eq]
  generalize (lg_sl ([.ref (ad ch), .int o, .int d]) ++ List.replicate (4 - (lg_sl ([.ref (ad ch), .int o, .int d])).length) Slot.unset).toArray = ls at hl ⊢
  have hl : lv_has ls 4 [(0, .ref (ad ch)), (1, .int o), (2, .int d)] := hl
  refine lv_iconst (v := 0) hx hb dX2_hasDiscount_0 (by decide) ?_
  refine lv_istore_n (lv' := [(3, .int 0), (0, .ref (ad ch)), (1, .int o), (2, .int d)]) hx hb dX2_hasDiscount_1 rfl hl (by decide) rfl (fun ls hl => ?_)
  exact loop2 61 0 0 (by omega) (by omega) (fun h => by obtain ⟨i, h1, -⟩ := h; omega) rfl ls (lv_sub hl [1, 2, 3, 0] rfl)

set_option maxHeartbeats 4000000 in
set_option maxRecDepth 100000 in
/-- Charges.percentFor -/
theorem c_X2_percentFor (l : Launch) (D : va_G) (y : Nat → ClassId) (Ls : List Nat) (ad : Nat → Nat) (G : Nat → va_E) (ch : Nat) (st ha mi dO dD dP : Nat → Int32) (nd : Nat) (li ow : Int32) (hC : ChargesAt y Ls ad G ch st ha mi dO dD dP nd li ow) (o ud : Int32) : Met l yX2_percentFor wsX2_percentFor ({ frames := 1, cells := 0, slots := 0, locals := 22 }) (va_Pc [.ref (ad ch), .int o, .int ud] (Wd D y (wl Ls ad G))) (vp_Si (fun r => r = (pF dO dD dP o ud nd).2)) 0 0 (fun _ => False) := by
  refine Met.ofW (cc := cX2_percentFor) (maxL := 6) (ret := (some .int)) (by decide) rfl ?_
  intro p e s m args below meth c s₁ B hml hv
  obtain ⟨rfl, hP, hK, hN⟩ := hv
  have hx := B.exec
  have hb := B.bytes
  have hr := B.returns
  have hts := atoms_spec (ws := wsX2_percentFor) B.pre
  have hown : s.vm.findClass RX2 = some m.cls := findClass_of_methodNamed B.named
  have hlocks := B.notSynchronized
  have hinX2 : ∀ w ∈ wsX20, w ∈ wsX2_percentFor := by decide +kernel
  obtain ⟨⟨hc0, hc1, hc2, hc3, hc4, hc5, hc6⟩, ec0, ec1, ec2, ec3, ec4, ec5, ec6, hnd⟩ := id hC
  have loop8 : ∀ (n : Nat) (i : Nat) (a b x : Int32), i ≤ nd → nd < i + n → (a, b) = pF dO dD dP o ud i → x = nI i → ∀ ls : Array Slot, lv_has ls 6 [(0, .ref (ad ch)), (1, .int o), (2, .int ud), (3, .int a), (4, .int b), (5, .int x)] → W p l e (headSpec wsX2_percentFor ({ frames := 1, cells := 0, slots := 0, locals := 22 })).room s m ([.ref (ad ch), .int o, .int ud] : List Value).toArray below meth c s.heap [] 0 0 (MQ below (vp_Si (fun r => r = (pF dO dD dP o ud nd).2)) ([.ref (ad ch), .int o, .int ud] : List Value).toArray s 0 0 (fun _ => False)) (F0 m 8 ls []) := by
    intro n
    induction n with
    | zero =>
      intro i a b x hi hn; exact absurd hn (by omega)
    | succ n ih8 =>
      intro i a b x hi hn eab ei ls hl
      refine lv_iload hx hb dX2_percentFor_8 (lv_at hl 5 rfl) ?_
      refine lv_aload_n hx hb dX2_percentFor_10 rfl (lv_at hl 0 rfl) ?_
      refine pv_get (ci := 4) (C := RX2) (T := TX2) (N := 9) hx hb hts hinX2 hown hK hP hc0 ec0 rfl 6 (by decide) (hts (.fieldLink RX2 30 "StorageCharge$Charges" "discounts" "I") (by decide +kernel)) (fun _ h9 => h9) rfl dX2_percentFor_11 ?_
      refine lv_icmp_ge (tgt := 66) hx hb dX2_percentFor_14 (by decide) (fun c_14 => ?_) (fun c_14 => ?_)
      · refine lv_iload hx hb dX2_percentFor_66 (lv_at hl 4 rfl) ?_
        exact W.iret (v := b) hx hb hr (fun t ht hW => ⟨b, rfl, (by have h8 := Nat.le_of_not_lt (fun h : i < nd => absurd c_14 (by rw [ei]; exact nI_ge h (by omega))); rw [show nd = i by omega, ← eab]), ht⟩) (fun q h => by cases h) dX2_percentFor_68
      · have hlt : i < nd := Nat.lt_of_not_le fun h => c_14 (by rw [ei]; exact nI_le h (by omega))
        refine lv_aload_n hx hb dX2_percentFor_17 rfl (lv_at hl 0 rfl) ?_
        refine pv_get (ci := 4) (C := RX2) (T := TX2) (N := 9) hx hb hts hinX2 hown hK hP hc0 ec0 rfl 3 (by decide) (hts (.fieldLink RX2 21 "StorageCharge$Charges" "discountOwners" "[I") (by decide +kernel)) (fun _ h9 => h9) rfl dX2_percentFor_18 ?_
        refine lv_iload hx hb dX2_percentFor_21 (lv_at hl 5 rfl) ?_
        refine pv_iald hx hb hK hP hc4 0 ec4 rfl (k := i) ei (by omega) (by decide) dX2_percentFor_23 ?_
        refine lv_iload_n hx hb dX2_percentFor_24 rfl (lv_at hl 1 rfl) ?_
        refine lv_icmp_ne (tgt := 60) hx hb dX2_percentFor_25 (by decide) (fun c_25 => ?_) (fun c_25 => ?_)
        · obtain ⟨x_60, ex_60⟩ : ∃ y9 : Int32, y9 = x + 1 := ⟨_, rfl⟩
          refine lv_iinc (v := x_60) (lv' := [(5, .int x_60), (0, .ref (ad ch)), (1, .int o), (2, .int ud), (3, .int a), (4, .int b)]) hx hb dX2_percentFor_60 hl (k := 5) rfl (by rw [ex_60]; rfl) (by decide) rfl (fun ls hl => ?_)
          refine lv_goto (tgt := 8) hx hb dX2_percentFor_63 (by decide) ?_
          exact ih8 (i + 1) a b x_60 (by omega) (by omega) (by rw [pF, if_neg (by first | exact fun h => c_25 h.1 | exact fun h => hw h.2), eab]) (by rw [ex_60, ei]; exact nI_1 i) ls (lv_sub hl [1, 2, 3, 4, 5, 0] rfl)
        · refine lv_aload_n hx hb dX2_percentFor_28 rfl (lv_at hl 0 rfl) ?_
          refine pv_get (ci := 4) (C := RX2) (T := TX2) (N := 9) hx hb hts hinX2 hown hK hP hc0 ec0 rfl 4 (by decide) (hts (.fieldLink RX2 24 "StorageCharge$Charges" "discountDays" "[I") (by decide +kernel)) (fun _ h9 => h9) rfl dX2_percentFor_29 ?_
          refine lv_iload hx hb dX2_percentFor_32 (lv_at hl 5 rfl) ?_
          refine pv_iald hx hb hK hP hc5 0 ec5 rfl (k := i) ei (by omega) (by decide) dX2_percentFor_34 ?_
          refine lv_iload_n hx hb dX2_percentFor_35 rfl (lv_at hl 3 rfl) ?_
          refine lv_iload_n hx hb dX2_percentFor_36 rfl (lv_at hl 2 rfl) ?_
          refine vp_callSi (va_Run.run (va_runSN (As := [.int (dD i), .int a, .int ud]) (rest := []) ⟨hx, hb, hml, hown, hts⟩ (c_X7_isWithin l (dD i) a ud) ⟨va_cnB 3 hts gX2_percentFor_X7_isWithin_n49 rfl rfl rfl (hN (.methodLinkNest RX2 49 yX7_isWithin "StorageCharge") (by decide +kernel)) (hts (.initialized RX7) (by decide +kernel)) (by decide +kernel) ⟨Nat.le_of_ble_eq_true rfl, Nat.le_of_ble_eq_true rfl⟩, hts (.static yX7_isWithin) (by decide +kernel), trivial⟩ ⟨fun _ _ _ _ q => q, fun U hU hW => ⟨rfl, trivial⟩⟩ rfl rfl hl.1 rfl (lv_room (Nat.le_of_ble_eq_true rfl)) dX2_percentFor_37 ⟨Nat.zero_le _, Nat.zero_le _⟩)) (fun r_37 hr_37 => ?_)
          refine lv_if_eq (tgt := 60) hx hb dX2_percentFor_40 (by decide) (fun c_40 => ?_) (fun c_40 => ?_)
          · have hw : ¬ ((pF dO dD dP o ud i).1 ≤ dD i ∧ dD i ≤ ud) := by
              rw [← eab]; exact wI_eq0.mp (by rw [← hr_37]; exact c_40)
            obtain ⟨x_60, ex_60⟩ : ∃ y9 : Int32, y9 = x + 1 := ⟨_, rfl⟩
            refine lv_iinc (v := x_60) (lv' := [(5, .int x_60), (0, .ref (ad ch)), (1, .int o), (2, .int ud), (3, .int a), (4, .int b)]) hx hb dX2_percentFor_60 hl (k := 5) rfl (by rw [ex_60]; rfl) (by decide) rfl (fun ls hl => ?_)
            refine lv_goto (tgt := 8) hx hb dX2_percentFor_63 (by decide) ?_
            exact ih8 (i + 1) a b x_60 (by omega) (by omega) (by rw [pF, if_neg (by first | exact fun h => c_25 h.1 | exact fun h => hw h.2), eab]) (by rw [ex_60, ei]; exact nI_1 i) ls (lv_sub hl [1, 2, 3, 4, 5, 0] rfl)
          · have hw : (pF dO dD dP o ud i).1 ≤ dD i ∧ dD i ≤ ud := by
              rw [← eab]; exact Decidable.byContradiction fun h => c_40 (by rw [hr_37]; exact wI_eq0.mpr h)
            refine lv_aload_n hx hb dX2_percentFor_43 rfl (lv_at hl 0 rfl) ?_
            refine pv_get (ci := 4) (C := RX2) (T := TX2) (N := 9) hx hb hts hinX2 hown hK hP hc0 ec0 rfl 4 (by decide) (hts (.fieldLink RX2 24 "StorageCharge$Charges" "discountDays" "[I") (by decide +kernel)) (fun _ h9 => h9) rfl dX2_percentFor_44 ?_
            refine lv_iload hx hb dX2_percentFor_47 (lv_at hl 5 rfl) ?_
            refine pv_iald hx hb hK hP hc5 0 ec5 rfl (k := i) ei (by omega) (by decide) dX2_percentFor_49 ?_
            refine lv_topi (fun a1 ea1 => ?_)
            refine lv_istore_n (lv' := [(3, .int a1), (0, .ref (ad ch)), (1, .int o), (2, .int ud), (4, .int b), (5, .int x)]) hx hb dX2_percentFor_50 rfl hl (by decide) rfl (fun ls hl => ?_)
            refine lv_aload_n hx hb dX2_percentFor_51 rfl (lv_at hl 1 rfl) ?_
            refine pv_get (ci := 4) (C := RX2) (T := TX2) (N := 9) hx hb hts hinX2 hown hK hP hc0 ec0 rfl 5 (by decide) (hts (.fieldLink RX2 27 "StorageCharge$Charges" "discountPercents" "[I") (by decide +kernel)) (fun _ h9 => h9) rfl dX2_percentFor_52 ?_
            refine lv_iload hx hb dX2_percentFor_55 (lv_at hl 5 rfl) ?_
            refine pv_iald hx hb hK hP hc6 0 ec6 rfl (k := i) ei (by omega) (by decide) dX2_percentFor_57 ?_
            refine lv_topi (fun p1 ep1 => ?_)
            refine lv_istore (lv' := [(4, .int p1), (3, .int a1), (0, .ref (ad ch)), (1, .int o), (2, .int ud), (5, .int x)]) hx hb dX2_percentFor_58 hl (by decide) rfl (fun ls hl => ?_)
            obtain ⟨x_60, ex_60⟩ : ∃ y9 : Int32, y9 = x + 1 := ⟨_, rfl⟩
            refine lv_iinc (v := x_60) (lv' := [(5, .int x_60), (4, .int p1), (3, .int a1), (0, .ref (ad ch)), (1, .int o), (2, .int ud)]) hx hb dX2_percentFor_60 hl (k := 5) rfl (by rw [ex_60]; rfl) (by decide) rfl (fun ls hl => ?_)
            refine lv_goto (tgt := 8) hx hb dX2_percentFor_63 (by decide) ?_
            exact ih8 (i + 1) a1 p1 x_60 (by omega) (by omega) (by rw [pF, if_pos ⟨c_25, hw⟩, ea1, ep1]) (by rw [ex_60, ei]; exact nI_1 i) ls (lv_sub hl [3, 4, 5, 2, 1, 0] rfl)
  have hl := lv_entry ([.ref (ad ch), .int o, .int ud]) (n := 6) (Nat.le_of_ble_eq_true rfl)
  rw [lg_entry_eq]
  generalize (lg_sl ([.ref (ad ch), .int o, .int ud]) ++ List.replicate (6 - (lg_sl ([.ref (ad ch), .int o, .int ud])).length) Slot.unset).toArray = ls at hl ⊢
  have hl : lv_has ls 6 [(0, .ref (ad ch)), (1, .int o), (2, .int ud)] := hl
  refine lv_iconst (v := 0) hx hb dX2_percentFor_0 (by decide) ?_
  refine lv_istore_n (lv' := [(3, .int 0), (0, .ref (ad ch)), (1, .int o), (2, .int ud)]) hx hb dX2_percentFor_1 rfl hl (by decide) rfl (fun ls hl => ?_)
  refine lv_iconst (v := 0) hx hb dX2_percentFor_2 (by decide) ?_
  refine lv_istore (lv' := [(4, .int 0), (3, .int 0), (0, .ref (ad ch)), (1, .int o), (2, .int ud)]) hx hb dX2_percentFor_3 hl (by decide) rfl (fun ls hl => ?_)
  refine lv_iconst (v := 0) hx hb dX2_percentFor_5 (by decide) ?_
  refine lv_istore (lv' := [(5, .int 0), (4, .int 0), (3, .int 0), (0, .ref (ad ch)), (1, .int o), (2, .int ud)]) hx hb dX2_percentFor_6 hl (by decide) rfl (fun ls hl => ?_)
  exact loop8 (nd + 1) 0 0 0 0 (by omega) (by omega) rfl rfl ls (lv_sub hl [3, 4, 5, 2, 1, 0] rfl)
end
section
/-! the class's reads over units, moves and lines -/
/-- the whole object, at the label 0: its charges at ch, its draft at dr -/
def XAt (Ls : List Nat) (ad : Nat → Nat) (G : Nat → va_E) (ch dr : Nat) : Prop := 0 ∈ Ls ∧ G 0 = .inr (9, [.ref (ad 1), .ref (ad ch), .ref (ad dr), .ref (ad 3), .ref (ad 5), .ref (ad 7), .ref (ad 30)])
def UnitsAt (y : Nat → ClassId) (Ls : List Nat) (ad : Nat → Nat) (G : Nat → va_E) (nu : Nat) (uo : Nat → Int32) (uf ul : Nat → Nat) (ug : Nat → Int32) (ut : Nat → Nat) (uk ud : Nat → Nat → Int32) : Prop :=
  ListAt y Ls ad G 3 nu (fun i => ad (1000 + 3 * i)) ∧ ∀ i, i < nu → UnitAt y Ls ad G (1000 + 3 * i) (uo i) (nI (uf i)) (nI (ul i)) (ug i) (ut i) (uk i) (ud i) ∧ uf i < 3600 ∧ ul i < 3600
def MovesAt (y : Nat → ClassId) (Ls : List Nat) (ad : Nat → Nat) (G : Nat → va_E) (nm : Nat) (mo mk md mp : Nat → Int32) : Prop :=
  ListAt y Ls ad G 5 nm (fun i => ad (2000 + i)) ∧ ∀ i, i < nm → 2000 + i ∈ Ls ∧ G (2000 + i) = .inr (5, [.int (mo i), .int (mk i), .int (md i), .int (mp i)])
def BillsAt (y : Nat → ClassId) (Ls : List Nat) (ad : Nat → Nat) (G : Nat → va_E) (nl : Nat) (bo bm bc bi : Nat → Int32) : Prop :=
  (7 ∈ Ls ∧ G 7 = .inr (3, [.ref (ad 8)])) ∧ ListAt y Ls ad G 8 nl (fun i => ad (3000 + i)) ∧ ∀ i, i < nl → 3000 + i ∈ Ls ∧ G (3000 + i) = .inr (2, [.int (bo i), .int (bm i), .int (bc i), .int (bi i)])
def cnt (f : Nat → Int32) (o : Int32) : Nat → Nat
  | 0 => 0
  | i + 1 => if f i = o then cnt f o i + 1 else cnt f o i
theorem cnt_le (f : Nat → Int32) (o : Int32) : ∀ n, cnt f o n ≤ n
  | 0 => Nat.le_refl 0
  | n + 1 => by
    have := cnt_le f o n
    rw [cnt]; split <;> omega
/-- a unit's days of a month -/
def dTh (mo : Int32) (f g : Nat) : Int32 := mxI 0 (mnI (30 * mo + 30 - 1) (nI g) - mxI (30 * mo) (nI f) + 1)
/-- the sum of v over those of the first n that are o's -/
def sumO (uo : Nat → Int32) (o : Int32) (v : Nat → Int32) : Nat → Int32
  | 0 => 0
  | i + 1 => if uo i = o then sumO uo o v i + v i else sumO uo o v i
/-- the sum of v over k days from s on -/
def sumD (v : Nat → Int32) (s : Nat) : Nat → Int32
  | 0 => 0
  | k + 1 => sumD v s k + v (s + k)
def stoU (st : Nat → Int32) (by0 : Int32) (m f g told : Nat) (kf df : Nat → Int32) : Int32 := sumD (fun d => tZ 40 st (5 * by0 + kOn kf df (nI d) (told - 1))) (max (30 * m) f) (min (30 * m + 29) g + 1 - max (30 * m) f)
def hanM (ha : Nat → Int32) (by0 : Int32) (m : Int32) (k d p : Int32) : Int32 := if 30 * m ≤ d ∧ d ≤ 30 * m + 30 - 1 then p * tZ 40 ha (5 * by0 + k) else 0
theorem mx_nI {a b : Nat} (ha : a < 2 ^ 31) (hb : b < 2 ^ 31) : (if nI a < nI b then nI b else nI a) = nI (max a b) := by
  by_cases h : a < b
  · rw [if_pos (nI_lt h hb), Nat.max_eq_right (Nat.le_of_lt h)]
  · rw [if_neg (nI_nlt (Nat.le_of_not_lt h) ha), Nat.max_eq_left (Nat.le_of_not_lt h)]
theorem mn_nI {a b : Nat} (ha : a < 2 ^ 31) (hb : b < 2 ^ 31) : (if nI b < nI a then nI b else nI a) = nI (min a b) := by
  by_cases h : b < a
  · rw [if_pos (nI_lt h ha), Nat.min_eq_right (Nat.le_of_lt h)]
  · rw [if_neg (nI_nlt (Nat.le_of_not_lt h) hb), Nat.min_eq_left (Nat.le_of_not_lt h)]
theorem day1 (m : Nat) : (30 : Int32) * nI m = nI (30 * m) := pk_mul 30 m
theorem day2 (m : Nat) : (30 : Int32) * nI m + 30 - 1 = nI (30 * m + 29) := by
  rw [day1, show (30 : Int32) = nI 30 from rfl, nI_add, show 30 * m + 30 = (30 * m + 29) + 1 from rfl, nI_pred]

set_option maxHeartbeats 4000000 in
set_option maxRecDepth 100000 in
/-- movesOf -/
theorem c_X7_movesOf (l : Launch) (D : va_G) (y : Nat → ClassId) (Ls : List Nat) (ad : Nat → Nat) (G : Nat → va_E) (ch dr : Nat) (hX : XAt Ls ad G ch dr) (nm : Nat) (mo mk md mp : Nat → Int32) (hMs : MovesAt y Ls ad G nm mo mk md mp) (o : Int32) : Met l yX7_movesOf wsX7_movesOf ({ frames := 3, cells := 0, slots := 0, locals := 64 }) (va_Pc [.ref (ad 0), .int o] (Wd D y (wl Ls ad G))) (vp_Si (fun r => r = nI (cnt mo o nm))) 0 0 (fun _ => False) := by
  refine Met.ofW (cc := cX7_movesOf) (maxL := 4) (ret := (some .int)) (by decide) rfl ?_
  intro p e s m args below meth c s₁ B hml hv
  obtain ⟨rfl, hP, hK, hN⟩ := hv
  have hx := B.exec
  have hb := B.bytes
  have hr := B.returns
  have hts := atoms_spec (ws := wsX7_movesOf) B.pre
  have hown : s.vm.findClass RX7 = some m.cls := findClass_of_methodNamed B.named
  have hlocks := B.notSynchronized
  have hinX3 : ∀ w ∈ wsX30, w ∈ wsX7_movesOf := by decide +kernel
  have hinX7 : ∀ w ∈ wsX70, w ∈ wsX7_movesOf := by decide +kernel
  obtain ⟨mc5, ea5, hj5, ej5, hn5, -⟩ := id hMs.1
  have loop4 : ∀ (n : Nat) (i : Nat) (k : Int32), i ≤ nm → nm < i + n → k = nI (cnt mo o i) → ∀ ls : Array Slot, lv_has ls 4 [(0, .ref (ad 0)), (1, .int o), (2, .int k), (3, .int (nI i))] → W p l e (headSpec wsX7_movesOf ({ frames := 3, cells := 0, slots := 0, locals := 64 })).room s m ([.ref (ad 0), .int o] : List Value).toArray below meth c s.heap [] 0 0 (MQ below (vp_Si (fun r => r = nI (cnt mo o nm))) ([.ref (ad 0), .int o] : List Value).toArray s 0 0 (fun _ => False)) (F0 m 4 ls []) := by
    intro n
    induction n with
    | zero =>
      intro i k hi hn; exact absurd hn (by omega)
    | succ n ih4 =>
      intro i k hi hn ek ls hl
      refine lv_iload_n hx hb dX7_movesOf_4 rfl (lv_at hl 3 rfl) ?_
      refine lv_aload_n hx hb dX7_movesOf_5 rfl (lv_at hl 0 rfl) ?_
      refine pv_get (ci := 9) (C := RX7) (T := TX7) (N := 7) hx hb hts hinX7 hown hK hP hX.1 hX.2 rfl 4 (by decide) (hts (.fieldLink RX7 33 "StorageCharge" "moves" "Ljava/util/ArrayList;") (by decide +kernel)) (fun _ h9 => h9) rfl dX7_movesOf_6 ?_
      refine vp_callSi (va_Run.run (va_runV (As := []) (rest := [.int (nI i)]) ⟨hx, hb, hml, hown, hts⟩ (c_Jx4a65c_size_8abf5 l D y Ls ad G 5 nm (fun i => ad (2000 + i)) hMs.1) (cwV 0 hts gX7_movesOf_Jx4a65c_size_8abf5 rfl rfl rfl (by decide +kernel) ⟨Nat.le_of_ble_eq_true rfl, Nat.le_of_ble_eq_true rfl⟩) ⟨Wd_blind, Wd_recv hK hP (ci := 1) rfl hj5 ej5, Wd_at hP hK hN⟩ rfl rfl hl.1 rfl (lv_room (Nat.le_of_ble_eq_true rfl)) dX7_movesOf_9 ⟨Nat.zero_le _, Nat.zero_le _⟩)) (fun r_9 hr_9 => ?_)
      refine lv_icmp_ge (tgt := 42) hx hb dX7_movesOf_12 (by decide) (fun c_12 => ?_) (fun c_12 => ?_)
      · have hge : nm = i := by
          have h8 := Nat.le_of_not_lt (fun h : i < nm => absurd (by rw [← hr_9]; exact c_12) (nI_ge h (by omega)))
          omega
        refine lv_iload_n hx hb dX7_movesOf_42 rfl (lv_at hl 2 rfl) ?_
        exact W.iret (v := k) hx hb hr (fun t ht hW => ⟨k, rfl, (by rw [ek, hge]), ht⟩) (fun q h => by cases h) dX7_movesOf_43
      · have hlt : i < nm := Nat.lt_of_not_le fun h => c_12 (by rw [hr_9]; exact nI_le h (by omega))
        refine lv_aload_n hx hb dX7_movesOf_15 rfl (lv_at hl 0 rfl) ?_
        refine pv_get (ci := 9) (C := RX7) (T := TX7) (N := 7) hx hb hts hinX7 hown hK hP hX.1 hX.2 rfl 4 (by decide) (hts (.fieldLink RX7 33 "StorageCharge" "moves" "Ljava/util/ArrayList;") (by decide +kernel)) (fun _ h9 => h9) rfl dX7_movesOf_16 ?_
        refine lv_iload_n hx hb dX7_movesOf_19 rfl (lv_at hl 3 rfl) ?_
        refine va_csr (va_Run.run (va_runV (As := [.int (nI i)]) (rest := []) ⟨hx, hb, hml, hown, hts⟩ (c_Jx4a65c_get_915e3 l D y Ls ad G 5 nm (fun i => ad (2000 + i)) hMs.1 i hlt) (cwV 1 hts gX7_movesOf_Jx4a65c_get_915e3 rfl rfl rfl (by decide +kernel) ⟨Nat.le_of_ble_eq_true rfl, Nat.le_of_ble_eq_true rfl⟩) ⟨Wd_blind, Wd_recv hK hP (ci := 1) rfl hj5 ej5, Wd_at hP hK hN⟩ rfl rfl hl.1 rfl (lv_room (Nat.le_of_ble_eq_true rfl)) dX7_movesOf_20 ⟨Nat.zero_le _, Nat.zero_le _⟩)) (fun r_20 hr_20 => ?_)
        subst hr_20
        refine va_castS hx hb hown (hts (.classLink RX7 140 "StorageCharge$Move") (by decide +kernel)) (hK.1 5 _ rfl).2 (Wd_recv hK hP (ci := 5) rfl (hMs.2 i hlt).1 (hMs.2 i hlt).2) dX7_movesOf_23 ?_
        refine pv_getN (ci := 5) (C := RX3) (T := TX3) (N := 4) hx hb hts hinX3 hown hK hP (hMs.2 i hlt).1 (hMs.2 i hlt).2 rfl 0 (by decide) hN (by decide +kernel : Cond.fieldLinkNest RX7 279 "StorageCharge$Move" "owner" "I" "StorageCharge" ∈ nestW) (fun _ h9 => h9) rfl dX7_movesOf_26 ?_
        refine lv_iload_n hx hb dX7_movesOf_29 rfl (lv_at hl 1 rfl) ?_
        refine lv_icmp_ne (tgt := 36) hx hb dX7_movesOf_30 (by decide) (fun c_30 => ?_) (fun c_30 => ?_)
        · refine lv_iinc (v := nI (i + 1)) (lv' := [(3, .int (nI (i + 1))), (0, .ref (ad 0)), (1, .int o), (2, .int k)]) hx hb dX7_movesOf_36 hl (k := 3) rfl (nI_1 i) (by decide) rfl (fun ls hl => ?_)
          refine lv_goto (tgt := 4) hx hb dX7_movesOf_39 (by decide) ?_
          exact ih4 (i + 1) k (by omega) (by omega) (by rw [cnt, if_neg c_30, ek]) ls (lv_sub hl [1, 2, 3, 0] rfl)
        · obtain ⟨x_33, ex_33⟩ : ∃ y9 : Int32, y9 = k + 1 := ⟨_, rfl⟩
          refine lv_iinc (v := x_33) (lv' := [(2, .int x_33), (0, .ref (ad 0)), (1, .int o), (3, .int (nI i))]) hx hb dX7_movesOf_33 hl (k := 2) rfl (by rw [ex_33]; rfl) (by decide) rfl (fun ls hl => ?_)
          refine lv_iinc (v := nI (i + 1)) (lv' := [(3, .int (nI (i + 1))), (2, .int x_33), (0, .ref (ad 0)), (1, .int o)]) hx hb dX7_movesOf_36 hl (k := 3) rfl (nI_1 i) (by decide) rfl (fun ls hl => ?_)
          refine lv_goto (tgt := 4) hx hb dX7_movesOf_39 (by decide) ?_
          exact ih4 (i + 1) x_33 (by omega) (by omega) (by rw [cnt, if_pos c_30, ex_33, ek]; exact nI_1 _) ls (lv_sub hl [2, 3, 1, 0] rfl)
  have hl := lv_entry ([.ref (ad 0), .int o]) (n := 4) (Nat.le_of_ble_eq_true rfl)
  rw [lg_entry_eq]
  generalize (lg_sl ([.ref (ad 0), .int o]) ++ List.replicate (4 - (lg_sl ([.ref (ad 0), .int o])).length) Slot.unset).toArray = ls at hl ⊢
  have hl : lv_has ls 4 [(0, .ref (ad 0)), (1, .int o)] := hl
  refine lv_iconst (v := 0) hx hb dX7_movesOf_0 (by decide) ?_
  refine lv_istore_n (lv' := [(2, .int 0), (0, .ref (ad 0)), (1, .int o)]) hx hb dX7_movesOf_1 rfl hl (by decide) rfl (fun ls hl => ?_)
  refine lv_iconst (v := 0) hx hb dX7_movesOf_2 (by decide) ?_
  refine lv_istore_n (lv' := [(3, .int 0), (2, .int 0), (0, .ref (ad 0)), (1, .int o)]) hx hb dX7_movesOf_3 rfl hl (by decide) rfl (fun ls hl => ?_)
  exact loop4 (nm + 1) 0 0 (by omega) (by omega) rfl ls (lv_sub hl [2, 3, 1, 0] rfl)

set_option maxHeartbeats 4000000 in
set_option maxRecDepth 100000 in
/-- unitsStillThere -/
theorem c_X7_unitsStillThere (l : Launch) (D : va_G) (y : Nat → ClassId) (Ls : List Nat) (ad : Nat → Nat) (G : Nat → va_E) (ch dr : Nat) (hX : XAt Ls ad G ch dr) (nu : Nat) (uo : Nat → Int32) (uf ul : Nat → Nat) (ug : Nat → Int32) (ut : Nat → Nat) (uk ud : Nat → Nat → Int32) (hUs : UnitsAt y Ls ad G nu uo uf ul ug ut uk ud) : Met l yX7_unitsStillThere wsX7_unitsStillThere ({ frames := 3, cells := 0, slots := 0, locals := 64 }) (va_Pc [.ref (ad 0)] (Wd D y (wl Ls ad G))) (vp_Si (fun r => r = nI (cnt ug 0 nu))) 0 0 (fun _ => False) := by
  refine Met.ofW (cc := cX7_unitsStillThere) (maxL := 3) (ret := (some .int)) (by decide) rfl ?_
  intro p e s m args below meth c s₁ B hml hv
  obtain ⟨rfl, hP, hK, hN⟩ := hv
  have hx := B.exec
  have hb := B.bytes
  have hr := B.returns
  have hts := atoms_spec (ws := wsX7_unitsStillThere) B.pre
  have hown : s.vm.findClass RX7 = some m.cls := findClass_of_methodNamed B.named
  have hlocks := B.notSynchronized
  have hinX6 : ∀ w ∈ wsX60, w ∈ wsX7_unitsStillThere := by decide +kernel
  have hinX7 : ∀ w ∈ wsX70, w ∈ wsX7_unitsStillThere := by decide +kernel
  obtain ⟨mc3, ea3, hj3, ej3, hn3, -⟩ := id hUs.1
  have loop4 : ∀ (n : Nat) (i : Nat) (k : Int32), i ≤ nu → nu < i + n → k = nI (cnt ug 0 i) → ∀ ls : Array Slot, lv_has ls 3 [(0, .ref (ad 0)), (1, .int k), (2, .int (nI i))] → W p l e (headSpec wsX7_unitsStillThere ({ frames := 3, cells := 0, slots := 0, locals := 64 })).room s m ([.ref (ad 0)] : List Value).toArray below meth c s.heap [] 0 0 (MQ below (vp_Si (fun r => r = nI (cnt ug 0 nu))) ([.ref (ad 0)] : List Value).toArray s 0 0 (fun _ => False)) (F0 m 4 ls []) := by
    intro n
    induction n with
    | zero =>
      intro i k hi hn; exact absurd hn (by omega)
    | succ n ih4 =>
      intro i k hi hn ek ls hl
      refine lv_iload_n hx hb dX7_unitsStillThere_4 rfl (lv_at hl 2 rfl) ?_
      refine lv_aload_n hx hb dX7_unitsStillThere_5 rfl (lv_at hl 0 rfl) ?_
      refine pv_get (ci := 9) (C := RX7) (T := TX7) (N := 7) hx hb hts hinX7 hown hK hP hX.1 hX.2 rfl 3 (by decide) (hts (.fieldLink RX7 29 "StorageCharge" "units" "Ljava/util/ArrayList;") (by decide +kernel)) (fun _ h9 => h9) rfl dX7_unitsStillThere_6 ?_
      refine vp_callSi (va_Run.run (va_runV (As := []) (rest := [.int (nI i)]) ⟨hx, hb, hml, hown, hts⟩ (c_Jx4a65c_size_8abf5 l D y Ls ad G 3 nu (fun i => ad (1000 + 3 * i)) hUs.1) (cwV 0 hts gX7_unitsStillThere_Jx4a65c_size_8abf5 rfl rfl rfl (by decide +kernel) ⟨Nat.le_of_ble_eq_true rfl, Nat.le_of_ble_eq_true rfl⟩) ⟨Wd_blind, Wd_recv hK hP (ci := 1) rfl hj3 ej3, Wd_at hP hK hN⟩ rfl rfl hl.1 rfl (lv_room (Nat.le_of_ble_eq_true rfl)) dX7_unitsStillThere_9 ⟨Nat.zero_le _, Nat.zero_le _⟩)) (fun r_9 hr_9 => ?_)
      refine lv_icmp_ge (tgt := 41) hx hb dX7_unitsStillThere_12 (by decide) (fun c_12 => ?_) (fun c_12 => ?_)
      · have hge : nu = i := by
          have h8 := Nat.le_of_not_lt (fun h : i < nu => absurd (by rw [← hr_9]; exact c_12) (nI_ge h (by omega)))
          omega
        refine lv_iload_n hx hb dX7_unitsStillThere_41 rfl (lv_at hl 1 rfl) ?_
        exact W.iret (v := k) hx hb hr (fun t ht hW => ⟨k, rfl, (by rw [ek, hge]), ht⟩) (fun q h => by cases h) dX7_unitsStillThere_42
      · have hlt : i < nu := Nat.lt_of_not_le fun h => c_12 (by rw [hr_9]; exact nI_le h (by omega))
        obtain ⟨hu, huk, hud, eu, euk, eud, h1, h9⟩ := (hUs.2 i hlt).1
        refine lv_aload_n hx hb dX7_unitsStillThere_15 rfl (lv_at hl 0 rfl) ?_
        refine pv_get (ci := 9) (C := RX7) (T := TX7) (N := 7) hx hb hts hinX7 hown hK hP hX.1 hX.2 rfl 3 (by decide) (hts (.fieldLink RX7 29 "StorageCharge" "units" "Ljava/util/ArrayList;") (by decide +kernel)) (fun _ h9 => h9) rfl dX7_unitsStillThere_16 ?_
        refine lv_iload_n hx hb dX7_unitsStillThere_19 rfl (lv_at hl 2 rfl) ?_
        refine va_csr (va_Run.run (va_runV (As := [.int (nI i)]) (rest := []) ⟨hx, hb, hml, hown, hts⟩ (c_Jx4a65c_get_915e3 l D y Ls ad G 3 nu (fun i => ad (1000 + 3 * i)) hUs.1 i hlt) (cwV 1 hts gX7_unitsStillThere_Jx4a65c_get_915e3 rfl rfl rfl (by decide +kernel) ⟨Nat.le_of_ble_eq_true rfl, Nat.le_of_ble_eq_true rfl⟩) ⟨Wd_blind, Wd_recv hK hP (ci := 1) rfl hj3 ej3, Wd_at hP hK hN⟩ rfl rfl hl.1 rfl (lv_room (Nat.le_of_ble_eq_true rfl)) dX7_unitsStillThere_20 ⟨Nat.zero_le _, Nat.zero_le _⟩)) (fun r_20 hr_20 => ?_)
        subst hr_20
        refine va_castS hx hb hown (hts (.classLink RX7 100 "StorageCharge$Unit") (by decide +kernel)) (hK.1 8 _ rfl).2 (Wd_recv hK hP (ci := 8) rfl hu eu) dX7_unitsStillThere_23 ?_
        refine pv_getN (ci := 8) (C := RX6) (T := TX6) (N := 7) hx hb hts hinX6 hown hK hP hu eu rfl 3 (by decide) hN (by decide +kernel : Cond.fieldLinkNest RX7 251 "StorageCharge$Unit" "isGone" "Z" "StorageCharge" ∈ nestW) (fun _ h9 => h9) rfl dX7_unitsStillThere_26 ?_
        refine lv_if_ne (tgt := 35) hx hb dX7_unitsStillThere_29 (by decide) (fun c_29 => ?_) (fun c_29 => ?_)
        · refine lv_iinc (v := nI (i + 1)) (lv' := [(2, .int (nI (i + 1))), (0, .ref (ad 0)), (1, .int k)]) hx hb dX7_unitsStillThere_35 hl (k := 2) rfl (nI_1 i) (by decide) rfl (fun ls hl => ?_)
          refine lv_goto (tgt := 4) hx hb dX7_unitsStillThere_38 (by decide) ?_
          exact ih4 (i + 1) k (by omega) (by omega) (by rw [cnt, if_neg c_29, ek]) ls (lv_sub hl [1, 2, 0] rfl)
        · obtain ⟨x_32, ex_32⟩ : ∃ y9 : Int32, y9 = k + 1 := ⟨_, rfl⟩
          refine lv_iinc (v := x_32) (lv' := [(1, .int x_32), (0, .ref (ad 0)), (2, .int (nI i))]) hx hb dX7_unitsStillThere_32 hl (k := 1) rfl (by rw [ex_32]; rfl) (by decide) rfl (fun ls hl => ?_)
          refine lv_iinc (v := nI (i + 1)) (lv' := [(2, .int (nI (i + 1))), (1, .int x_32), (0, .ref (ad 0))]) hx hb dX7_unitsStillThere_35 hl (k := 2) rfl (nI_1 i) (by decide) rfl (fun ls hl => ?_)
          refine lv_goto (tgt := 4) hx hb dX7_unitsStillThere_38 (by decide) ?_
          exact ih4 (i + 1) x_32 (by omega) (by omega) (by rw [cnt, if_pos c_29, ex_32, ek]; exact nI_1 _) ls (lv_sub hl [2, 1, 0] rfl)
  have hl := lv_entry ([.ref (ad 0)]) (n := 3) (Nat.le_of_ble_eq_true rfl)
  rw [lg_entry_eq]
  generalize (lg_sl ([.ref (ad 0)]) ++ List.replicate (3 - (lg_sl ([.ref (ad 0)])).length) Slot.unset).toArray = ls at hl ⊢
  have hl : lv_has ls 3 [(0, .ref (ad 0))] := hl
  refine lv_iconst (v := 0) hx hb dX7_unitsStillThere_0 (by decide) ?_
  refine lv_istore_n (lv' := [(1, .int 0), (0, .ref (ad 0))]) hx hb dX7_unitsStillThere_1 rfl hl (by decide) rfl (fun ls hl => ?_)
  refine lv_iconst (v := 0) hx hb dX7_unitsStillThere_2 (by decide) ?_
  refine lv_istore_n (lv' := [(2, .int 0), (1, .int 0), (0, .ref (ad 0))]) hx hb dX7_unitsStillThere_3 rfl hl (by decide) rfl (fun ls hl => ?_)
  exact loop4 (nu + 1) 0 0 (by omega) (by omega) rfl ls (lv_sub hl [2, 1, 0] rfl)

set_option maxHeartbeats 4000000 in
set_option maxRecDepth 100000 in
/-- unitDays -/
theorem c_X7_unitDays (l : Launch) (D : va_G) (y : Nat → ClassId) (Ls : List Nat) (ad : Nat → Nat) (G : Nat → va_E) (ch dr : Nat) (hX : XAt Ls ad G ch dr) (nu : Nat) (uo : Nat → Int32) (uf ul : Nat → Nat) (ug : Nat → Int32) (ut : Nat → Nat) (uk ud : Nat → Nat → Int32) (hUs : UnitsAt y Ls ad G nu uo uf ul ug ut uk ud) (o m0 : Int32) : Met l yX7_unitDays wsX7_unitDays ({ frames := 3, cells := 0, slots := 0, locals := 64 }) (va_Pc [.ref (ad 0), .int o, .int m0] (Wd D y (wl Ls ad G))) (vp_Si (fun r => r = sumO uo o (fun q => dTh m0 (uf q) (ul q)) nu)) 0 0 (fun _ => False) := by
  refine Met.ofW (cc := cX7_unitDays) (maxL := 6) (ret := (some .int)) (by decide) rfl ?_
  intro p e s m args below meth c s₁ B hml hv
  obtain ⟨rfl, hP, hK, hN⟩ := hv
  have hx := B.exec
  have hb := B.bytes
  have hr := B.returns
  have hts := atoms_spec (ws := wsX7_unitDays) B.pre
  have hown : s.vm.findClass RX7 = some m.cls := findClass_of_methodNamed B.named
  have hlocks := B.notSynchronized
  have hinX6 : ∀ w ∈ wsX60, w ∈ wsX7_unitDays := by decide +kernel
  have hinX7 : ∀ w ∈ wsX70, w ∈ wsX7_unitDays := by decide +kernel
  obtain ⟨mc3, ea3, hj3, ej3, hn3, -⟩ := id hUs.1
  have loop5 : ∀ (n : Nat) (i : Nat) (k : Int32), i ≤ nu → nu < i + n → k = sumO uo o (fun q => dTh m0 (uf q) (ul q)) i → ∀ ls : Array Slot, lv_has ls 6 [(0, .ref (ad 0)), (1, .int o), (2, .int m0), (3, .int k), (4, .int (nI i))] → W p l e (headSpec wsX7_unitDays ({ frames := 3, cells := 0, slots := 0, locals := 64 })).room s m ([.ref (ad 0), .int o, .int m0] : List Value).toArray below meth c s.heap [] 0 0 (MQ below (vp_Si (fun r => r = sumO uo o (fun q => dTh m0 (uf q) (ul q)) nu)) ([.ref (ad 0), .int o, .int m0] : List Value).toArray s 0 0 (fun _ => False)) (F0 m 5 ls []) := by
    intro n
    induction n with
    | zero =>
      intro i k hi hn; exact absurd hn (by omega)
    | succ n ih5 =>
      intro i k hi hn ek ls hl
      refine lv_iload hx hb dX7_unitDays_5 (lv_at hl 4 rfl) ?_
      refine lv_aload_n hx hb dX7_unitDays_7 rfl (lv_at hl 0 rfl) ?_
      refine pv_get (ci := 9) (C := RX7) (T := TX7) (N := 7) hx hb hts hinX7 hown hK hP hX.1 hX.2 rfl 3 (by decide) (hts (.fieldLink RX7 29 "StorageCharge" "units" "Ljava/util/ArrayList;") (by decide +kernel)) (fun _ h9 => h9) rfl dX7_unitDays_8 ?_
      refine vp_callSi (va_Run.run (va_runV (As := []) (rest := [.int (nI i)]) ⟨hx, hb, hml, hown, hts⟩ (c_Jx4a65c_size_8abf5 l D y Ls ad G 3 nu (fun i => ad (1000 + 3 * i)) hUs.1) (cwV 0 hts gX7_unitDays_Jx4a65c_size_8abf5 rfl rfl rfl (by decide +kernel) ⟨Nat.le_of_ble_eq_true rfl, Nat.le_of_ble_eq_true rfl⟩) ⟨Wd_blind, Wd_recv hK hP (ci := 1) rfl hj3 ej3, Wd_at hP hK hN⟩ rfl rfl hl.1 rfl (lv_room (Nat.le_of_ble_eq_true rfl)) dX7_unitDays_11 ⟨Nat.zero_le _, Nat.zero_le _⟩)) (fun r_11 hr_11 => ?_)
      refine lv_icmp_ge (tgt := 62) hx hb dX7_unitDays_14 (by decide) (fun c_14 => ?_) (fun c_14 => ?_)
      · have hge : nu = i := by
          have h8 := Nat.le_of_not_lt (fun h : i < nu => absurd (by rw [← hr_11]; exact c_14) (nI_ge h (by omega)))
          omega
        refine lv_iload_n hx hb dX7_unitDays_62 rfl (lv_at hl 3 rfl) ?_
        exact W.iret (v := k) hx hb hr (fun t ht hW => ⟨k, rfl, (by rw [ek, hge]), ht⟩) (fun q h => by cases h) dX7_unitDays_63
      · have hlt : i < nu := Nat.lt_of_not_le fun h => c_14 (by rw [hr_11]; exact nI_le h (by omega))
        obtain ⟨hu, huk, hud, eu, euk, eud, h1, h9⟩ := (hUs.2 i hlt).1
        refine lv_aload_n hx hb dX7_unitDays_17 rfl (lv_at hl 0 rfl) ?_
        refine pv_get (ci := 9) (C := RX7) (T := TX7) (N := 7) hx hb hts hinX7 hown hK hP hX.1 hX.2 rfl 3 (by decide) (hts (.fieldLink RX7 29 "StorageCharge" "units" "Ljava/util/ArrayList;") (by decide +kernel)) (fun _ h9 => h9) rfl dX7_unitDays_18 ?_
        refine lv_iload hx hb dX7_unitDays_21 (lv_at hl 4 rfl) ?_
        refine va_csr (va_Run.run (va_runV (As := [.int (nI i)]) (rest := []) ⟨hx, hb, hml, hown, hts⟩ (c_Jx4a65c_get_915e3 l D y Ls ad G 3 nu (fun i => ad (1000 + 3 * i)) hUs.1 i hlt) (cwV 1 hts gX7_unitDays_Jx4a65c_get_915e3 rfl rfl rfl (by decide +kernel) ⟨Nat.le_of_ble_eq_true rfl, Nat.le_of_ble_eq_true rfl⟩) ⟨Wd_blind, Wd_recv hK hP (ci := 1) rfl hj3 ej3, Wd_at hP hK hN⟩ rfl rfl hl.1 rfl (lv_room (Nat.le_of_ble_eq_true rfl)) dX7_unitDays_23 ⟨Nat.zero_le _, Nat.zero_le _⟩)) (fun r_23 hr_23 => ?_)
        subst hr_23
        refine va_castS hx hb hown (hts (.classLink RX7 100 "StorageCharge$Unit") (by decide +kernel)) (hK.1 8 _ rfl).2 (Wd_recv hK hP (ci := 8) rfl hu eu) dX7_unitDays_26 ?_
        refine lv_astore (lv' := [(5, .ref (ad (1000 + 3 * i))), (0, .ref (ad 0)), (1, .int o), (2, .int m0), (3, .int k), (4, .int (nI i))]) hx hb dX7_unitDays_29 hl (by decide) rfl (fun ls hl => ?_)
        refine lv_aload hx hb dX7_unitDays_31 (lv_at hl 0 rfl) ?_
        refine pv_getN (ci := 8) (C := RX6) (T := TX6) (N := 7) hx hb hts hinX6 hown hK hP hu eu rfl 0 (by decide) hN (by decide +kernel : Cond.fieldLinkNest RX7 291 "StorageCharge$Unit" "owner" "I" "StorageCharge" ∈ nestW) (fun _ h9 => h9) rfl dX7_unitDays_33 ?_
        refine lv_iload_n hx hb dX7_unitDays_36 rfl (lv_at hl 2 rfl) ?_
        refine lv_icmp_ne (tgt := 56) hx hb dX7_unitDays_37 (by decide) (fun c_37 => ?_) (fun c_37 => ?_)
        · refine lv_iinc (v := nI (i + 1)) (lv' := [(4, .int (nI (i + 1))), (5, .ref (ad (1000 + 3 * i))), (0, .ref (ad 0)), (1, .int o), (2, .int m0), (3, .int k)]) hx hb dX7_unitDays_56 hl (k := 5) rfl (nI_1 i) (by decide) rfl (fun ls hl => ?_)
          refine lv_goto (tgt := 5) hx hb dX7_unitDays_59 (by decide) ?_
          exact ih5 (i + 1) k (by omega) (by omega) (by rw [sumO, if_neg c_37, ek]) ls (lv_sub hl [2, 3, 4, 5, 0] rfl)
        · refine lv_iload_n hx hb dX7_unitDays_40 rfl (lv_at hl 4 rfl) ?_
          refine lv_aload hx hb dX7_unitDays_41 (lv_at hl 0 rfl) ?_
          refine lv_iload_n hx hb dX7_unitDays_43 rfl (lv_at hl 3 rfl) ?_
          refine vp_callSi (va_Run.run (va_runS (As := [.int m0]) (rest := [.ref (ad (1000 + 3 * i)), .int k]) ⟨hx, hb, hml, hown, hts⟩ (c_X7_firstDayOf l m0) (va_cwS 1 hts gX7_unitDays_X7_firstDayOf rfl rfl rfl (by decide +kernel) ⟨Nat.le_of_ble_eq_true rfl, Nat.le_of_ble_eq_true rfl⟩) ⟨fun _ _ _ _ q => q, fun U hU hW => ⟨rfl, trivial⟩⟩ rfl rfl hl.1 rfl (lv_room (Nat.le_of_ble_eq_true rfl)) dX7_unitDays_44 ⟨Nat.zero_le _, Nat.zero_le _⟩)) (fun r_44 hr_44 => ?_)
          refine lv_iload_n hx hb dX7_unitDays_47 rfl (lv_at hl 3 rfl) ?_
          refine vp_callSi (va_Run.run (va_runS (As := [.int m0]) (rest := [.int r_44, .ref (ad (1000 + 3 * i)), .int k]) ⟨hx, hb, hml, hown, hts⟩ (c_X7_lastDayOf l m0) (va_cwS 1 hts gX7_unitDays_X7_lastDayOf rfl rfl rfl (by decide +kernel) ⟨Nat.le_of_ble_eq_true rfl, Nat.le_of_ble_eq_true rfl⟩) ⟨fun _ _ _ _ q => q, fun U hU hW => ⟨rfl, trivial⟩⟩ rfl rfl hl.1 rfl (lv_room (Nat.le_of_ble_eq_true rfl)) dX7_unitDays_48 ⟨Nat.zero_le _, Nat.zero_le _⟩)) (fun r_48 hr_48 => ?_)
          refine vp_callSi (va_Run.run (va_runV (As := [.int r_44, .int r_48]) (rest := [.int k]) ⟨hx, hb, hml, hown, hts⟩ (c_X6_daysThere l D y Ls ad G (1000 + 3 * i) (uo i) (nI (uf i)) (nI (ul i)) (ug i) (ut i) (uk i) (ud i) (hUs.2 i hlt).1 r_44 r_48) (cwV 2 hts gX7_unitDays_X6_daysThere rfl rfl rfl (by decide +kernel) ⟨Nat.le_of_ble_eq_true rfl, Nat.le_of_ble_eq_true rfl⟩) ⟨Wd_blind, Wd_recv hK hP (ci := 8) rfl hu eu, Wd_at hP hK hN⟩ rfl rfl hl.1 rfl (lv_room (Nat.le_of_ble_eq_true rfl)) dX7_unitDays_51 ⟨Nat.zero_le _, Nat.zero_le _⟩)) (fun r_51 hr_51 => ?_)
          refine lv_iadd hx hb dX7_unitDays_54 ?_
          refine lv_topi (fun x_55 ex_55 => ?_)
          refine lv_istore_n (lv' := [(3, .int x_55), (5, .ref (ad (1000 + 3 * i))), (0, .ref (ad 0)), (1, .int o), (2, .int m0), (4, .int (nI i))]) hx hb dX7_unitDays_55 rfl hl (by decide) rfl (fun ls hl => ?_)
          refine lv_iinc (v := nI (i + 1)) (lv' := [(4, .int (nI (i + 1))), (3, .int x_55), (5, .ref (ad (1000 + 3 * i))), (0, .ref (ad 0)), (1, .int o), (2, .int m0)]) hx hb dX7_unitDays_56 hl (k := 5) rfl (nI_1 i) (by decide) rfl (fun ls hl => ?_)
          refine lv_goto (tgt := 5) hx hb dX7_unitDays_59 (by decide) ?_
          exact ih5 (i + 1) x_55 (by omega) (by omega) (by rw [sumO, if_pos c_37, ex_55, ek, hr_51, hr_44, hr_48]; rfl) ls (lv_sub hl [3, 4, 5, 1, 0] rfl)
  have hl := lv_entry ([.ref (ad 0), .int o, .int m0]) (n := 6) (Nat.le_of_ble_eq_true rfl)
  rw [lg_entry_eq]
  generalize (lg_sl ([.ref (ad 0), .int o, .int m0]) ++ List.replicate (6 - (lg_sl ([.ref (ad 0), .int o, .int m0])).length) Slot.unset).toArray = ls at hl ⊢
  have hl : lv_has ls 6 [(0, .ref (ad 0)), (1, .int o), (2, .int m0)] := hl
  refine lv_iconst (v := 0) hx hb dX7_unitDays_0 (by decide) ?_
  refine lv_istore_n (lv' := [(3, .int 0), (0, .ref (ad 0)), (1, .int o), (2, .int m0)]) hx hb dX7_unitDays_1 rfl hl (by decide) rfl (fun ls hl => ?_)
  refine lv_iconst (v := 0) hx hb dX7_unitDays_2 (by decide) ?_
  refine lv_istore (lv' := [(4, .int 0), (3, .int 0), (0, .ref (ad 0)), (1, .int o), (2, .int m0)]) hx hb dX7_unitDays_3 hl (by decide) rfl (fun ls hl => ?_)
  exact loop5 (nu + 1) 0 0 (by omega) (by omega) rfl ls (lv_sub hl [2, 3, 4, 1, 0] rfl)

set_option maxHeartbeats 4000000 in
set_option maxRecDepth 100000 in
/-- storageOfUnit -/
theorem c_X7_storageOfUnit (l : Launch) (D : va_G) (y : Nat → ClassId) (Ls : List Nat) (ad : Nat → Nat) (G : Nat → va_E) (ch dr : Nat) (hX : XAt Ls ad G ch dr) (st ha mi dO dD dP : Nat → Int32) (nd : Nat) (li ow : Int32) (hC : ChargesAt y Ls ad G ch st ha mi dO dD dP nd li ow) (u : Nat) (ow0 ig : Int32) (f g told : Nat) (kf df : Nat → Int32) (hU : UnitAt y Ls ad G u ow0 (nI f) (nI g) ig told kf df) (hf : f < 3600) (hg : g < 3600) (by0 : Int32) (m0 : Nat) (hm : m0 < 120) : Met l yX7_storageOfUnit wsX7_storageOfUnit ({ frames := 3, cells := 0, slots := 0, locals := 65 }) (va_Pc [.ref (ad 0), .int by0, .ref (ad u), .int (nI m0)] (Wd D y (wl Ls ad G))) (vp_Si (fun r => r = stoU st by0 m0 f g told kf df)) 0 0 (fun _ => False) := by
  refine Met.ofW (cc := cX7_storageOfUnit) (maxL := 8) (ret := (some .int)) (by decide) rfl ?_
  intro p e s m args below meth c s₁ B hml hv
  obtain ⟨rfl, hP, hK, hN⟩ := hv
  have hx := B.exec
  have hb := B.bytes
  have hr := B.returns
  have hts := atoms_spec (ws := wsX7_storageOfUnit) B.pre
  have hown : s.vm.findClass RX7 = some m.cls := findClass_of_methodNamed B.named
  have hlocks := B.notSynchronized
  have hinX6 : ∀ w ∈ wsX60, w ∈ wsX7_storageOfUnit := by decide +kernel
  have hinX7 : ∀ w ∈ wsX70, w ∈ wsX7_storageOfUnit := by decide +kernel
  obtain ⟨⟨hc0, hc1, hc2, hc3, hc4, hc5, hc6⟩, ec0, ec1, ec2, ec3, ec4, ec5, ec6, hnd⟩ := id hC
  obtain ⟨hu, huk, hud, eu, euk, eud, h1, h9⟩ := id hU
  have loop33 : ∀ (n : Nat) (k : Nat) (x4 x5 cc x7 : Int32), k ≤ min (30 * m0 + 29) g + 1 - max (30 * m0) f → min (30 * m0 + 29) g + 1 - max (30 * m0) f < k + n → x5 = nI (min (30 * m0 + 29) g) → cc = sumD (fun d => tZ 40 st (5 * by0 + kOn kf df (nI d) (told - 1))) (max (30 * m0) f) k → x7 = nI (max (30 * m0) f + k) → ∀ ls : Array Slot, lv_has ls 8 [(0, .ref (ad 0)), (1, .int by0), (2, .ref (ad u)), (3, .int (nI m0)), (4, .int x4), (5, .int x5), (6, .int cc), (7, .int x7)] → W p l e (headSpec wsX7_storageOfUnit ({ frames := 3, cells := 0, slots := 0, locals := 65 })).room s m ([.ref (ad 0), .int by0, .ref (ad u), .int (nI m0)] : List Value).toArray below meth c s.heap [] 0 0 (MQ below (vp_Si (fun r => r = stoU st by0 m0 f g told kf df)) ([.ref (ad 0), .int by0, .ref (ad u), .int (nI m0)] : List Value).toArray s 0 0 (fun _ => False)) (F0 m 33 ls []) := by
    intro n
    induction n with
    | zero =>
      intro k x4 x5 cc x7 hi hn; exact absurd hn (by omega)
    | succ n ih33 =>
      intro k x4 x5 cc x7 hi hn e5 ec e7 ls hl
      refine lv_iload hx hb dX7_storageOfUnit_33 (lv_at hl 7 rfl) ?_
      refine lv_iload hx hb dX7_storageOfUnit_35 (lv_at hl 5 rfl) ?_
      refine lv_icmp_gt (tgt := 65) hx hb dX7_storageOfUnit_37 (by decide) (fun c_37 => ?_) (fun c_37 => ?_)
      · have hge : min (30 * m0 + 29) g + 1 - max (30 * m0) f = k := by
          have h8 : ¬ max (30 * m0) f + k ≤ min (30 * m0 + 29) g := fun h => absurd c_37 (by rw [e5, e7]; exact nI_nlt h (by omega))
          omega
        refine lv_iload hx hb dX7_storageOfUnit_65 (lv_at hl 6 rfl) ?_
        exact W.iret (v := cc) hx hb hr (fun t ht hW => ⟨cc, rfl, (by rw [ec, stoU, hge]), ht⟩) (fun q h => by cases h) dX7_storageOfUnit_67
      · have hlt : max (30 * m0) f + k ≤ min (30 * m0 + 29) g := Nat.le_of_not_lt fun h => c_37 (by rw [e5, e7]; exact nI_lt h (by omega))
        refine lv_iload hx hb dX7_storageOfUnit_40 (lv_at hl 6 rfl) ?_
        refine lv_aload_n hx hb dX7_storageOfUnit_42 rfl (lv_at hl 0 rfl) ?_
        refine pv_get (ci := 9) (C := RX7) (T := TX7) (N := 7) hx hb hts hinX7 hown hK hP hX.1 hX.2 rfl 1 (by decide) (hts (.fieldLink RX7 19 "StorageCharge" "charges" "LStorageCharge$Charges;") (by decide +kernel)) (fun _ h9 => h9) rfl dX7_storageOfUnit_43 ?_
        refine lv_iload_n hx hb dX7_storageOfUnit_46 rfl (lv_at hl 1 rfl) ?_
        refine lv_aload_n hx hb dX7_storageOfUnit_47 rfl (lv_at hl 2 rfl) ?_
        refine lv_iload hx hb dX7_storageOfUnit_48 (lv_at hl 7 rfl) ?_
        refine vp_callSi (va_Run.run (va_runV (As := [.int x7]) (rest := [.int by0, .ref (ad ch), .int cc]) ⟨hx, hb, hml, hown, hts⟩ (c_X6_kindOn l D y Ls ad G u ow0 (nI f) (nI g) ig told kf df hU x7) (cwV 1 hts gX7_storageOfUnit_X6_kindOn rfl rfl rfl (by decide +kernel) ⟨Nat.le_of_ble_eq_true rfl, Nat.le_of_ble_eq_true rfl⟩) ⟨Wd_blind, Wd_recv hK hP (ci := 8) rfl hu eu, Wd_at hP hK hN⟩ rfl rfl hl.1 rfl (lv_room (Nat.le_of_ble_eq_true rfl)) dX7_storageOfUnit_50 ⟨Nat.zero_le _, Nat.zero_le _⟩)) (fun r_50 hr_50 => ?_)
        refine vp_callSi (va_Run.run (va_runV (As := [.int by0, .int r_50]) (rest := [.int cc]) ⟨hx, hb, hml, hown, hts⟩ (c_X2_storageCents l D y Ls ad G ch st ha mi dO dD dP nd li ow hC by0 r_50) (cwV 2 hts gX7_storageOfUnit_X2_storageCents rfl rfl rfl (by decide +kernel) ⟨Nat.le_of_ble_eq_true rfl, Nat.le_of_ble_eq_true rfl⟩) ⟨Wd_blind, Wd_recv hK hP (ci := 4) rfl hc0 ec0, Wd_at hP hK hN⟩ rfl rfl hl.1 rfl (lv_room (Nat.le_of_ble_eq_true rfl)) dX7_storageOfUnit_53 ⟨Nat.zero_le _, Nat.zero_le _⟩)) (fun r_53 hr_53 => ?_)
        refine lv_iadd hx hb dX7_storageOfUnit_56 ?_
        refine lv_topi (fun c8 ec8 => ?_)
        refine lv_istore (lv' := [(6, .int c8), (0, .ref (ad 0)), (1, .int by0), (2, .ref (ad u)), (3, .int (nI m0)), (4, .int x4), (5, .int x5), (7, .int x7)]) hx hb dX7_storageOfUnit_57 hl (by decide) rfl (fun ls hl => ?_)
        obtain ⟨x8, ex8⟩ : ∃ y9 : Int32, y9 = x7 + 1 := ⟨_, rfl⟩
        refine lv_iinc (v := x8) (lv' := [(7, .int x8), (6, .int c8), (0, .ref (ad 0)), (1, .int by0), (2, .ref (ad u)), (3, .int (nI m0)), (4, .int x4), (5, .int x5)]) hx hb dX7_storageOfUnit_59 hl (k := 7) rfl (by rw [ex8]; rfl) (by decide) rfl (fun ls hl => ?_)
        refine lv_goto (tgt := 33) hx hb dX7_storageOfUnit_62 (by decide) ?_
        exact ih33 (k + 1) x4 x5 c8 x8 (by omega) (by omega) e5 (by rw [sumD, ec8, ec, hr_53, hr_50, e7]) (by rw [ex8, e7]; exact nI_1 _) ls (lv_sub hl [2, 3, 4, 5, 6, 7, 1, 0] rfl)
  have hl := lv_entry ([.ref (ad 0), .int by0, .ref (ad u), .int (nI m0)]) (n := 8) (Nat.le_of_ble_eq_true rfl)
  rw [lg_entry_eq]
  generalize (lg_sl ([.ref (ad 0), .int by0, .ref (ad u), .int (nI m0)]) ++ List.replicate (8 - (lg_sl ([.ref (ad 0), .int by0, .ref (ad u), .int (nI m0)])).length) Slot.unset).toArray = ls at hl ⊢
  have hl : lv_has ls 8 [(0, .ref (ad 0)), (1, .int by0), (2, .ref (ad u)), (3, .int (nI m0))] := hl
  refine lv_iload_n hx hb dX7_storageOfUnit_0 rfl (lv_at hl 3 rfl) ?_
  refine vp_callSi (va_Run.run (va_runS (As := [.int (nI m0)]) (rest := []) ⟨hx, hb, hml, hown, hts⟩ (c_X7_firstDayOf l (nI m0)) (va_cwS 1 hts gX7_storageOfUnit_X7_firstDayOf rfl rfl rfl (by decide +kernel) ⟨Nat.le_of_ble_eq_true rfl, Nat.le_of_ble_eq_true rfl⟩) ⟨fun _ _ _ _ q => q, fun U hU hW => ⟨rfl, trivial⟩⟩ rfl rfl hl.1 rfl (lv_room (Nat.le_of_ble_eq_true rfl)) dX7_storageOfUnit_1 ⟨Nat.zero_le _, Nat.zero_le _⟩)) (fun r_1 hr_1 => ?_)
  refine lv_aload_n hx hb dX7_storageOfUnit_4 rfl (lv_at hl 2 rfl) ?_
  refine pv_getN (ci := 8) (C := RX6) (T := TX6) (N := 7) hx hb hts hinX6 hown hK hP hu eu rfl 1 (by decide) hN (by decide +kernel : Cond.fieldLinkNest RX7 302 "StorageCharge$Unit" "firstDay" "I" "StorageCharge" ∈ nestW) (fun _ h9 => h9) rfl dX7_storageOfUnit_5 ?_
  refine va_mmax hx hb (hml.trans hl.1.symm) hown (hts (.methodLink RX7 286 Lib.Math.max.name) (by decide +kernel)) (hts (.static Lib.Math.max.name) (by decide +kernel)) (hts (.initialized "java/lang/Math") (by decide +kernel)) (hts (.code Lib.Math.max.name Lib.Math.max.code 2 (some .int)) (by decide +kernel)) (Nat.le_of_ble_eq_true rfl) (Nat.le_of_ble_eq_true rfl) (Nat.zero_le _) (Nat.zero_le _) dX7_storageOfUnit_8 ?_
  refine lv_topi (fun x_11 ex_11 => ?_)
  refine lv_istore (lv' := [(4, .int x_11), (0, .ref (ad 0)), (1, .int by0), (2, .ref (ad u)), (3, .int (nI m0))]) hx hb dX7_storageOfUnit_11 hl (by decide) rfl (fun ls hl => ?_)
  refine lv_iload_n hx hb dX7_storageOfUnit_13 rfl (lv_at hl 4 rfl) ?_
  refine vp_callSi (va_Run.run (va_runS (As := [.int (nI m0)]) (rest := []) ⟨hx, hb, hml, hown, hts⟩ (c_X7_lastDayOf l (nI m0)) (va_cwS 1 hts gX7_storageOfUnit_X7_lastDayOf rfl rfl rfl (by decide +kernel) ⟨Nat.le_of_ble_eq_true rfl, Nat.le_of_ble_eq_true rfl⟩) ⟨fun _ _ _ _ q => q, fun U hU hW => ⟨rfl, trivial⟩⟩ rfl rfl hl.1 rfl (lv_room (Nat.le_of_ble_eq_true rfl)) dX7_storageOfUnit_14 ⟨Nat.zero_le _, Nat.zero_le _⟩)) (fun r_14 hr_14 => ?_)
  refine lv_aload_n hx hb dX7_storageOfUnit_17 rfl (lv_at hl 3 rfl) ?_
  refine pv_getN (ci := 8) (C := RX6) (T := TX6) (N := 7) hx hb hts hinX6 hown hK hP hu eu rfl 2 (by decide) hN (by decide +kernel : Cond.fieldLinkNest RX7 308 "StorageCharge$Unit" "lastDay" "I" "StorageCharge" ∈ nestW) (fun _ h9 => h9) rfl dX7_storageOfUnit_18 ?_
  refine va_mmin hx hb (hml.trans hl.1.symm) hown (hts (.methodLink RX7 311 Lib.Math.min.name) (by decide +kernel)) (hts (.static Lib.Math.min.name) (by decide +kernel)) (hts (.initialized "java/lang/Math") (by decide +kernel)) (hts (.code Lib.Math.min.name Lib.Math.min.code 2 (some .int)) (by decide +kernel)) (Nat.le_of_ble_eq_true rfl) (Nat.le_of_ble_eq_true rfl) (Nat.zero_le _) (Nat.zero_le _) dX7_storageOfUnit_21 ?_
  refine lv_topi (fun x_24 ex_24 => ?_)
  refine lv_istore (lv' := [(5, .int x_24), (4, .int x_11), (0, .ref (ad 0)), (1, .int by0), (2, .ref (ad u)), (3, .int (nI m0))]) hx hb dX7_storageOfUnit_24 hl (by decide) rfl (fun ls hl => ?_)
  refine lv_iconst (v := 0) hx hb dX7_storageOfUnit_26 (by decide) ?_
  refine lv_istore (lv' := [(6, .int 0), (5, .int x_24), (4, .int x_11), (0, .ref (ad 0)), (1, .int by0), (2, .ref (ad u)), (3, .int (nI m0))]) hx hb dX7_storageOfUnit_27 hl (by decide) rfl (fun ls hl => ?_)
  refine lv_iload hx hb dX7_storageOfUnit_29 (lv_at hl 2 rfl) ?_
  refine lv_istore (lv' := [(7, .int x_11), (6, .int 0), (5, .int x_24), (4, .int x_11), (0, .ref (ad 0)), (1, .int by0), (2, .ref (ad u)), (3, .int (nI m0))]) hx hb dX7_storageOfUnit_31 hl (by decide) rfl (fun ls hl => ?_)
  exact loop33 (min (30 * m0 + 29) g + 2) 0 x_11 x_24 0 x_11 (by omega) (by omega) (by rw [ex_24, hr_14, day2]; exact mn_nI (by omega) (by omega)) rfl (by rw [ex_11, hr_1, day1]; exact mx_nI (by omega) (by omega)) ls (lv_sub hl [4, 5, 6, 7, 3, 2, 1, 0] rfl)

def stoA (st dO dD dP : Nat → Int32) (nd nu : Nat) (uo : Nat → Int32) (uf ul ut : Nat → Nat) (uk ud : Nat → Nat → Int32) (by0 o : Int32) (m0 : Nat) : Int32 := sumO uo o (fun q => stoU st by0 m0 (uf q) (ul q) (ut q) (uk q) (ud q)) nu - sumO uo o (fun q => stoU st by0 m0 (uf q) (ul q) (ut q) (uk q) (ud q)) nu * (pF dO dD dP by0 (sumO uo o (fun q => dTh (nI m0) (uf q) (ul q)) nu) nd).2 / 100

set_option maxHeartbeats 4000000 in
set_option maxRecDepth 100000 in
/-- storageBy -/
theorem c_X7_storageBy (l : Launch) (D : va_G) (y : Nat → ClassId) (Ls : List Nat) (ad : Nat → Nat) (G : Nat → va_E) (ch dr : Nat) (hX : XAt Ls ad G ch dr) (st ha mi dO dD dP : Nat → Int32) (nd : Nat) (li ow : Int32) (hC : ChargesAt y Ls ad G ch st ha mi dO dD dP nd li ow) (nu : Nat) (uo : Nat → Int32) (uf ul : Nat → Nat) (ug : Nat → Int32) (ut : Nat → Nat) (uk ud : Nat → Nat → Int32) (hUs : UnitsAt y Ls ad G nu uo uf ul ug ut uk ud) (by0 o : Int32) (m0 : Nat) (hm : m0 < 120) : Met l yX7_storageBy wsX7_storageBy ({ frames := 4, cells := 0, slots := 0, locals := 92 }) (va_Pc [.ref (ad 0), .int by0, .int o, .int (nI m0)] (Wd D y (wl Ls ad G))) (vp_Si (fun r => r = stoA st dO dD dP nd nu uo uf ul ut uk ud by0 o m0)) 0 0 (fun _ => False) := by
  refine Met.ofW (cc := cX7_storageBy) (maxL := 7) (ret := (some .int)) (by decide) rfl ?_
  intro p e s m args below meth c s₁ B hml hv
  obtain ⟨rfl, hP, hK, hN⟩ := hv
  have hx := B.exec
  have hb := B.bytes
  have hr := B.returns
  have hts := atoms_spec (ws := wsX7_storageBy) B.pre
  have hown : s.vm.findClass RX7 = some m.cls := findClass_of_methodNamed B.named
  have hlocks := B.notSynchronized
  have hinX6 : ∀ w ∈ wsX60, w ∈ wsX7_storageBy := by decide +kernel
  have hinX7 : ∀ w ∈ wsX70, w ∈ wsX7_storageBy := by decide +kernel
  obtain ⟨⟨hc0, hc1, hc2, hc3, hc4, hc5, hc6⟩, ec0, ec1, ec2, ec3, ec4, ec5, ec6, hnd⟩ := id hC
  obtain ⟨mc3, ea3, hj3, ej3, hn3, -⟩ := id hUs.1
  have loop6 : ∀ (n : Nat) (i : Nat) (k : Int32), i ≤ nu → nu < i + n → k = sumO uo o (fun q => stoU st by0 m0 (uf q) (ul q) (ut q) (uk q) (ud q)) i → ∀ ls : Array Slot, lv_has ls 7 [(0, .ref (ad 0)), (1, .int by0), (2, .int o), (3, .int (nI m0)), (4, .int k), (5, .int (nI i))] → W p l e (headSpec wsX7_storageBy ({ frames := 4, cells := 0, slots := 0, locals := 92 })).room s m ([.ref (ad 0), .int by0, .int o, .int (nI m0)] : List Value).toArray below meth c s.heap [] 0 0 (MQ below (vp_Si (fun r => r = stoA st dO dD dP nd nu uo uf ul ut uk ud by0 o m0)) ([.ref (ad 0), .int by0, .int o, .int (nI m0)] : List Value).toArray s 0 0 (fun _ => False)) (F0 m 6 ls []) := by
    intro n
    induction n with
    | zero =>
      intro i k hi hn; exact absurd hn (by omega)
    | succ n ih6 =>
      intro i k hi hn ek ls hl
      refine lv_iload hx hb dX7_storageBy_6 (lv_at hl 5 rfl) ?_
      refine lv_aload_n hx hb dX7_storageBy_8 rfl (lv_at hl 0 rfl) ?_
      refine pv_get (ci := 9) (C := RX7) (T := TX7) (N := 7) hx hb hts hinX7 hown hK hP hX.1 hX.2 rfl 3 (by decide) (hts (.fieldLink RX7 29 "StorageCharge" "units" "Ljava/util/ArrayList;") (by decide +kernel)) (fun _ h9 => h9) rfl dX7_storageBy_9 ?_
      refine vp_callSi (va_Run.run (va_runV (As := []) (rest := [.int (nI i)]) ⟨hx, hb, hml, hown, hts⟩ (c_Jx4a65c_size_8abf5 l D y Ls ad G 3 nu (fun i => ad (1000 + 3 * i)) hUs.1) (cwV 0 hts gX7_storageBy_Jx4a65c_size_8abf5 rfl rfl rfl (by decide +kernel) ⟨Nat.le_of_ble_eq_true rfl, Nat.le_of_ble_eq_true rfl⟩) ⟨Wd_blind, Wd_recv hK hP (ci := 1) rfl hj3 ej3, Wd_at hP hK hN⟩ rfl rfl hl.1 rfl (lv_room (Nat.le_of_ble_eq_true rfl)) dX7_storageBy_12 ⟨Nat.zero_le _, Nat.zero_le _⟩)) (fun r_12 hr_12 => ?_)
      refine lv_icmp_ge (tgt := 60) hx hb dX7_storageBy_15 (by decide) (fun c_15 => ?_) (fun c_15 => ?_)
      · have hge : nu = i := by
          have h8 := Nat.le_of_not_lt (fun h : i < nu => absurd (by rw [← hr_12]; exact c_15) (nI_ge h (by omega)))
          omega
        refine lv_aload_n hx hb dX7_storageBy_60 rfl (lv_at hl 0 rfl) ?_
        refine pv_get (ci := 9) (C := RX7) (T := TX7) (N := 7) hx hb hts hinX7 hown hK hP hX.1 hX.2 rfl 1 (by decide) (hts (.fieldLink RX7 19 "StorageCharge" "charges" "LStorageCharge$Charges;") (by decide +kernel)) (fun _ h9 => h9) rfl dX7_storageBy_61 ?_
        refine lv_iload_n hx hb dX7_storageBy_64 rfl (lv_at hl 1 rfl) ?_
        refine lv_aload_n hx hb dX7_storageBy_65 rfl (lv_at hl 0 rfl) ?_
        refine lv_iload_n hx hb dX7_storageBy_66 rfl (lv_at hl 2 rfl) ?_
        refine lv_iload_n hx hb dX7_storageBy_67 rfl (lv_at hl 3 rfl) ?_
        refine vp_callSi (va_Run.run (va_runV (As := [.int o, .int (nI m0)]) (rest := [.int by0, .ref (ad ch)]) ⟨hx, hb, hml, hown, hts⟩ (c_X7_unitDays l D y Ls ad G ch dr hX nu uo uf ul ug ut uk ud hUs o (nI m0)) (cwV 2 hts gX7_storageBy_X7_unitDays rfl rfl rfl (by decide +kernel) ⟨Nat.le_of_ble_eq_true rfl, Nat.le_of_ble_eq_true rfl⟩) ⟨Wd_blind, Wd_recv hK hP (ci := 9) rfl hX.1 hX.2, Wd_at hP hK hN⟩ rfl rfl hl.1 rfl (lv_room (Nat.le_of_ble_eq_true rfl)) dX7_storageBy_68 ⟨Nat.zero_le _, Nat.zero_le _⟩)) (fun r_68 hr_68 => ?_)
        refine vp_callSi (va_Run.run (va_runV (As := [.int by0, .int r_68]) (rest := []) ⟨hx, hb, hml, hown, hts⟩ (c_X2_percentFor l D y Ls ad G ch st ha mi dO dD dP nd li ow hC by0 r_68) (cwV 2 hts gX7_storageBy_X2_percentFor rfl rfl rfl (by decide +kernel) ⟨Nat.le_of_ble_eq_true rfl, Nat.le_of_ble_eq_true rfl⟩) ⟨Wd_blind, Wd_recv hK hP (ci := 4) rfl hc0 ec0, Wd_at hP hK hN⟩ rfl rfl hl.1 rfl (lv_room (Nat.le_of_ble_eq_true rfl)) dX7_storageBy_71 ⟨Nat.zero_le _, Nat.zero_le _⟩)) (fun r_71 hr_71 => ?_)
        refine lv_istore (lv' := [(5, .int r_71), (0, .ref (ad 0)), (1, .int by0), (2, .int o), (3, .int (nI m0)), (4, .int k)]) hx hb dX7_storageBy_74 hl (by decide) rfl (fun ls hl => ?_)
        refine lv_iload hx hb dX7_storageBy_76 (lv_at hl 5 rfl) ?_
        refine lv_iload hx hb dX7_storageBy_78 (lv_at hl 5 rfl) ?_
        refine lv_iload hx hb dX7_storageBy_80 (lv_at hl 0 rfl) ?_
        refine lv_imul hx hb dX7_storageBy_82 ?_
        refine lv_bipush (v := 100) hx hb dX7_storageBy_83 (by decide) ?_
        refine lv_idiv hx hb dX7_storageBy_85 (by decide) ?_
        refine lv_isub hx hb dX7_storageBy_86 ?_
        exact W.iret (v := (k - ((k * r_71) / 100))) hx hb hr (fun t ht hW => ⟨(k - ((k * r_71) / 100)), rfl, (by rw [hr_71, hr_68, ek, hge]; rfl), ht⟩) (fun q h => by cases h) dX7_storageBy_87
      · have hlt : i < nu := Nat.lt_of_not_le fun h => c_15 (by rw [hr_12]; exact nI_le h (by omega))
        obtain ⟨hu, huk, hud, eu, euk, eud, h1, h9⟩ := (hUs.2 i hlt).1
        refine lv_aload_n hx hb dX7_storageBy_18 rfl (lv_at hl 0 rfl) ?_
        refine pv_get (ci := 9) (C := RX7) (T := TX7) (N := 7) hx hb hts hinX7 hown hK hP hX.1 hX.2 rfl 3 (by decide) (hts (.fieldLink RX7 29 "StorageCharge" "units" "Ljava/util/ArrayList;") (by decide +kernel)) (fun _ h9 => h9) rfl dX7_storageBy_19 ?_
        refine lv_iload hx hb dX7_storageBy_22 (lv_at hl 5 rfl) ?_
        refine va_csr (va_Run.run (va_runV (As := [.int (nI i)]) (rest := []) ⟨hx, hb, hml, hown, hts⟩ (c_Jx4a65c_get_915e3 l D y Ls ad G 3 nu (fun i => ad (1000 + 3 * i)) hUs.1 i hlt) (cwV 1 hts gX7_storageBy_Jx4a65c_get_915e3 rfl rfl rfl (by decide +kernel) ⟨Nat.le_of_ble_eq_true rfl, Nat.le_of_ble_eq_true rfl⟩) ⟨Wd_blind, Wd_recv hK hP (ci := 1) rfl hj3 ej3, Wd_at hP hK hN⟩ rfl rfl hl.1 rfl (lv_room (Nat.le_of_ble_eq_true rfl)) dX7_storageBy_24 ⟨Nat.zero_le _, Nat.zero_le _⟩)) (fun r_24 hr_24 => ?_)
        subst hr_24
        refine va_castS hx hb hown (hts (.classLink RX7 100 "StorageCharge$Unit") (by decide +kernel)) (hK.1 8 _ rfl).2 (Wd_recv hK hP (ci := 8) rfl hu eu) dX7_storageBy_27 ?_
        refine lv_astore (lv' := [(6, .ref (ad (1000 + 3 * i))), (0, .ref (ad 0)), (1, .int by0), (2, .int o), (3, .int (nI m0)), (4, .int k), (5, .int (nI i))]) hx hb dX7_storageBy_30 hl (by decide) rfl (fun ls hl => ?_)
        refine lv_aload hx hb dX7_storageBy_32 (lv_at hl 0 rfl) ?_
        refine pv_getN (ci := 8) (C := RX6) (T := TX6) (N := 7) hx hb hts hinX6 hown hK hP hu eu rfl 0 (by decide) hN (by decide +kernel : Cond.fieldLinkNest RX7 291 "StorageCharge$Unit" "owner" "I" "StorageCharge" ∈ nestW) (fun _ h9 => h9) rfl dX7_storageBy_34 ?_
        refine lv_iload_n hx hb dX7_storageBy_37 rfl (lv_at hl 3 rfl) ?_
        refine lv_icmp_ne (tgt := 54) hx hb dX7_storageBy_38 (by decide) (fun c_38 => ?_) (fun c_38 => ?_)
        · refine lv_iinc (v := nI (i + 1)) (lv' := [(5, .int (nI (i + 1))), (6, .ref (ad (1000 + 3 * i))), (0, .ref (ad 0)), (1, .int by0), (2, .int o), (3, .int (nI m0)), (4, .int k)]) hx hb dX7_storageBy_54 hl (k := 6) rfl (nI_1 i) (by decide) rfl (fun ls hl => ?_)
          refine lv_goto (tgt := 6) hx hb dX7_storageBy_57 (by decide) ?_
          exact ih6 (i + 1) k (by omega) (by omega) (by rw [sumO, if_neg c_38, ek]) ls (lv_sub hl [2, 3, 4, 5, 6, 0] rfl)
        · refine lv_iload hx hb dX7_storageBy_41 (lv_at hl 5 rfl) ?_
          refine lv_aload_n hx hb dX7_storageBy_43 rfl (lv_at hl 1 rfl) ?_
          refine lv_iload_n hx hb dX7_storageBy_44 rfl (lv_at hl 2 rfl) ?_
          refine lv_aload hx hb dX7_storageBy_45 (lv_at hl 0 rfl) ?_
          refine lv_iload_n hx hb dX7_storageBy_47 rfl (lv_at hl 4 rfl) ?_
          refine vp_callSi (va_Run.run (va_runV (As := [.int by0, .ref (ad (1000 + 3 * i)), .int (nI m0)]) (rest := [.int k]) ⟨hx, hb, hml, hown, hts⟩ (c_X7_storageOfUnit l D y Ls ad G ch dr hX st ha mi dO dD dP nd li ow hC (1000 + 3 * i) (uo i) (ug i) (uf i) (ul i) (ut i) (uk i) (ud i) (hUs.2 i hlt).1 (hUs.2 i hlt).2.1 (hUs.2 i hlt).2.2 by0 m0 hm) (cwV 3 hts gX7_storageBy_X7_storageOfUnit rfl rfl rfl (by decide +kernel) ⟨Nat.le_of_ble_eq_true rfl, Nat.le_of_ble_eq_true rfl⟩) ⟨Wd_blind, Wd_recv hK hP (ci := 9) rfl hX.1 hX.2, Wd_at hP hK hN⟩ rfl rfl hl.1 rfl (lv_room (Nat.le_of_ble_eq_true rfl)) dX7_storageBy_48 ⟨Nat.zero_le _, Nat.zero_le _⟩)) (fun r_48 hr_48 => ?_)
          refine lv_iadd hx hb dX7_storageBy_51 ?_
          refine lv_topi (fun x_52 ex_52 => ?_)
          refine lv_istore (lv' := [(4, .int x_52), (6, .ref (ad (1000 + 3 * i))), (0, .ref (ad 0)), (1, .int by0), (2, .int o), (3, .int (nI m0)), (5, .int (nI i))]) hx hb dX7_storageBy_52 hl (by decide) rfl (fun ls hl => ?_)
          refine lv_iinc (v := nI (i + 1)) (lv' := [(5, .int (nI (i + 1))), (4, .int x_52), (6, .ref (ad (1000 + 3 * i))), (0, .ref (ad 0)), (1, .int by0), (2, .int o), (3, .int (nI m0))]) hx hb dX7_storageBy_54 hl (k := 6) rfl (nI_1 i) (by decide) rfl (fun ls hl => ?_)
          refine lv_goto (tgt := 6) hx hb dX7_storageBy_57 (by decide) ?_
          exact ih6 (i + 1) x_52 (by omega) (by omega) (by rw [sumO, if_pos c_38, ex_52, ek, hr_48]) ls (lv_sub hl [3, 4, 5, 6, 1, 0] rfl)
  have hl := lv_entry ([.ref (ad 0), .int by0, .int o, .int (nI m0)]) (n := 7) (Nat.le_of_ble_eq_true rfl)
  rw [lg_entry_eq]
  generalize (lg_sl ([.ref (ad 0), .int by0, .int o, .int (nI m0)]) ++ List.replicate (7 - (lg_sl ([.ref (ad 0), .int by0, .int o, .int (nI m0)])).length) Slot.unset).toArray = ls at hl ⊢
  have hl : lv_has ls 7 [(0, .ref (ad 0)), (1, .int by0), (2, .int o), (3, .int (nI m0))] := hl
  refine lv_iconst (v := 0) hx hb dX7_storageBy_0 (by decide) ?_
  refine lv_istore (lv' := [(4, .int 0), (0, .ref (ad 0)), (1, .int by0), (2, .int o), (3, .int (nI m0))]) hx hb dX7_storageBy_1 hl (by decide) rfl (fun ls hl => ?_)
  refine lv_iconst (v := 0) hx hb dX7_storageBy_3 (by decide) ?_
  refine lv_istore (lv' := [(5, .int 0), (4, .int 0), (0, .ref (ad 0)), (1, .int by0), (2, .int o), (3, .int (nI m0))]) hx hb dX7_storageBy_4 hl (by decide) rfl (fun ls hl => ?_)
  exact loop6 (nu + 1) 0 0 (by omega) (by omega) rfl ls (lv_sub hl [2, 3, 4, 5, 1, 0] rfl)

set_option maxHeartbeats 4000000 in
set_option maxRecDepth 100000 in
/-- handlingBy -/
theorem c_X7_handlingBy (l : Launch) (D : va_G) (y : Nat → ClassId) (Ls : List Nat) (ad : Nat → Nat) (G : Nat → va_E) (ch dr : Nat) (hX : XAt Ls ad G ch dr) (st ha mi dO dD dP : Nat → Int32) (nd : Nat) (li ow : Int32) (hC : ChargesAt y Ls ad G ch st ha mi dO dD dP nd li ow) (nm : Nat) (mo mk md mp : Nat → Int32) (hMs : MovesAt y Ls ad G nm mo mk md mp) (by0 o : Int32) (m0 : Nat) (hm : m0 < 120) : Met l yX7_handlingBy wsX7_handlingBy ({ frames := 3, cells := 0, slots := 0, locals := 65 }) (va_Pc [.ref (ad 0), .int by0, .int o, .int (nI m0)] (Wd D y (wl Ls ad G))) (vp_Si (fun r => r = sumO mo o (fun q => hanM ha by0 (nI m0) (mk q) (md q) (mp q)) nm)) 0 0 (fun _ => False) := by
  refine Met.ofW (cc := cX7_handlingBy) (maxL := 7) (ret := (some .int)) (by decide) rfl ?_
  intro p e s m args below meth c s₁ B hml hv
  obtain ⟨rfl, hP, hK, hN⟩ := hv
  have hx := B.exec
  have hb := B.bytes
  have hr := B.returns
  have hts := atoms_spec (ws := wsX7_handlingBy) B.pre
  have hown : s.vm.findClass RX7 = some m.cls := findClass_of_methodNamed B.named
  have hlocks := B.notSynchronized
  have hinX3 : ∀ w ∈ wsX30, w ∈ wsX7_handlingBy := by decide +kernel
  have hinX7 : ∀ w ∈ wsX70, w ∈ wsX7_handlingBy := by decide +kernel
  obtain ⟨⟨hc0, hc1, hc2, hc3, hc4, hc5, hc6⟩, ec0, ec1, ec2, ec3, ec4, ec5, ec6, hnd⟩ := id hC
  obtain ⟨mc5, ea5, hj5, ej5, hn5, -⟩ := id hMs.1
  have loop6 : ∀ (n : Nat) (i : Nat) (k : Int32), i ≤ nm → nm < i + n → k = sumO mo o (fun q => hanM ha by0 (nI m0) (mk q) (md q) (mp q)) i → ∀ ls : Array Slot, lv_has ls 7 [(0, .ref (ad 0)), (1, .int by0), (2, .int o), (3, .int (nI m0)), (4, .int k), (5, .int (nI i))] → W p l e (headSpec wsX7_handlingBy ({ frames := 3, cells := 0, slots := 0, locals := 65 })).room s m ([.ref (ad 0), .int by0, .int o, .int (nI m0)] : List Value).toArray below meth c s.heap [] 0 0 (MQ below (vp_Si (fun r => r = sumO mo o (fun q => hanM ha by0 (nI m0) (mk q) (md q) (mp q)) nm)) ([.ref (ad 0), .int by0, .int o, .int (nI m0)] : List Value).toArray s 0 0 (fun _ => False)) (F0 m 6 ls []) := by
    intro n
    induction n with
    | zero =>
      intro i k hi hn; exact absurd hn (by omega)
    | succ n ih6 =>
      intro i k hi hn ek ls hl
      refine lv_iload hx hb dX7_handlingBy_6 (lv_at hl 5 rfl) ?_
      refine lv_aload_n hx hb dX7_handlingBy_8 rfl (lv_at hl 0 rfl) ?_
      refine pv_get (ci := 9) (C := RX7) (T := TX7) (N := 7) hx hb hts hinX7 hown hK hP hX.1 hX.2 rfl 4 (by decide) (hts (.fieldLink RX7 33 "StorageCharge" "moves" "Ljava/util/ArrayList;") (by decide +kernel)) (fun _ h9 => h9) rfl dX7_handlingBy_9 ?_
      refine vp_callSi (va_Run.run (va_runV (As := []) (rest := [.int (nI i)]) ⟨hx, hb, hml, hown, hts⟩ (c_Jx4a65c_size_8abf5 l D y Ls ad G 5 nm (fun i => ad (2000 + i)) hMs.1) (cwV 0 hts gX7_handlingBy_Jx4a65c_size_8abf5 rfl rfl rfl (by decide +kernel) ⟨Nat.le_of_ble_eq_true rfl, Nat.le_of_ble_eq_true rfl⟩) ⟨Wd_blind, Wd_recv hK hP (ci := 1) rfl hj5 ej5, Wd_at hP hK hN⟩ rfl rfl hl.1 rfl (lv_room (Nat.le_of_ble_eq_true rfl)) dX7_handlingBy_12 ⟨Nat.zero_le _, Nat.zero_le _⟩)) (fun r_12 hr_12 => ?_)
      refine lv_icmp_ge (tgt := 90) hx hb dX7_handlingBy_15 (by decide) (fun c_15 => ?_) (fun c_15 => ?_)
      · have hge : nm = i := by
          have h8 := Nat.le_of_not_lt (fun h : i < nm => absurd (by rw [← hr_12]; exact c_15) (nI_ge h (by omega)))
          omega
        refine lv_iload hx hb dX7_handlingBy_90 (lv_at hl 4 rfl) ?_
        exact W.iret (v := k) hx hb hr (fun t ht hW => ⟨k, rfl, (by rw [ek, hge]), ht⟩) (fun q h => by cases h) dX7_handlingBy_92
      · have hlt : i < nm := Nat.lt_of_not_le fun h => c_15 (by rw [hr_12]; exact nI_le h (by omega))
        refine lv_aload_n hx hb dX7_handlingBy_18 rfl (lv_at hl 0 rfl) ?_
        refine pv_get (ci := 9) (C := RX7) (T := TX7) (N := 7) hx hb hts hinX7 hown hK hP hX.1 hX.2 rfl 4 (by decide) (hts (.fieldLink RX7 33 "StorageCharge" "moves" "Ljava/util/ArrayList;") (by decide +kernel)) (fun _ h9 => h9) rfl dX7_handlingBy_19 ?_
        refine lv_iload hx hb dX7_handlingBy_22 (lv_at hl 5 rfl) ?_
        refine va_csr (va_Run.run (va_runV (As := [.int (nI i)]) (rest := []) ⟨hx, hb, hml, hown, hts⟩ (c_Jx4a65c_get_915e3 l D y Ls ad G 5 nm (fun i => ad (2000 + i)) hMs.1 i hlt) (cwV 1 hts gX7_handlingBy_Jx4a65c_get_915e3 rfl rfl rfl (by decide +kernel) ⟨Nat.le_of_ble_eq_true rfl, Nat.le_of_ble_eq_true rfl⟩) ⟨Wd_blind, Wd_recv hK hP (ci := 1) rfl hj5 ej5, Wd_at hP hK hN⟩ rfl rfl hl.1 rfl (lv_room (Nat.le_of_ble_eq_true rfl)) dX7_handlingBy_24 ⟨Nat.zero_le _, Nat.zero_le _⟩)) (fun r_24 hr_24 => ?_)
        subst hr_24
        refine va_castS hx hb hown (hts (.classLink RX7 140 "StorageCharge$Move") (by decide +kernel)) (hK.1 5 _ rfl).2 (Wd_recv hK hP (ci := 5) rfl (hMs.2 i hlt).1 (hMs.2 i hlt).2) dX7_handlingBy_27 ?_
        refine lv_astore (lv' := [(6, .ref (ad (2000 + i))), (0, .ref (ad 0)), (1, .int by0), (2, .int o), (3, .int (nI m0)), (4, .int k), (5, .int (nI i))]) hx hb dX7_handlingBy_30 hl (by decide) rfl (fun ls hl => ?_)
        refine lv_aload hx hb dX7_handlingBy_32 (lv_at hl 0 rfl) ?_
        refine pv_getN (ci := 5) (C := RX3) (T := TX3) (N := 4) hx hb hts hinX3 hown hK hP (hMs.2 i hlt).1 (hMs.2 i hlt).2 rfl 0 (by decide) hN (by decide +kernel : Cond.fieldLinkNest RX7 279 "StorageCharge$Move" "owner" "I" "StorageCharge" ∈ nestW) (fun _ h9 => h9) rfl dX7_handlingBy_34 ?_
        refine lv_iload_n hx hb dX7_handlingBy_37 rfl (lv_at hl 3 rfl) ?_
        refine lv_icmp_ne (tgt := 84) hx hb dX7_handlingBy_38 (by decide) (fun c_38 => ?_) (fun c_38 => ?_)
        · refine lv_iinc (v := nI (i + 1)) (lv' := [(5, .int (nI (i + 1))), (6, .ref (ad (2000 + i))), (0, .ref (ad 0)), (1, .int by0), (2, .int o), (3, .int (nI m0)), (4, .int k)]) hx hb dX7_handlingBy_84 hl (k := 6) rfl (nI_1 i) (by decide) rfl (fun ls hl => ?_)
          refine lv_goto (tgt := 6) hx hb dX7_handlingBy_87 (by decide) ?_
          exact ih6 (i + 1) k (by omega) (by omega) (by first | rw [sumO, if_neg c_38, ek] | (rw [sumO, if_pos c_38, hanM, if_neg hw, ek]; exact (Int32.add_zero _).symm)) ls (lv_sub hl [2, 3, 4, 5, 6, 0] rfl)
        · refine lv_aload hx hb dX7_handlingBy_41 (lv_at hl 0 rfl) ?_
          refine pv_getN (ci := 5) (C := RX3) (T := TX3) (N := 4) hx hb hts hinX3 hown hK hP (hMs.2 i hlt).1 (hMs.2 i hlt).2 rfl 2 (by decide) hN (by decide +kernel : Cond.fieldLinkNest RX7 320 "StorageCharge$Move" "day" "I" "StorageCharge" ∈ nestW) (fun _ h9 => h9) rfl dX7_handlingBy_43 ?_
          refine lv_iload_n hx hb dX7_handlingBy_46 rfl (lv_at hl 4 rfl) ?_
          refine vp_callSi (va_Run.run (va_runS (As := [.int (nI m0)]) (rest := [.int (md i)]) ⟨hx, hb, hml, hown, hts⟩ (c_X7_firstDayOf l (nI m0)) (va_cwS 1 hts gX7_handlingBy_X7_firstDayOf rfl rfl rfl (by decide +kernel) ⟨Nat.le_of_ble_eq_true rfl, Nat.le_of_ble_eq_true rfl⟩) ⟨fun _ _ _ _ q => q, fun U hU hW => ⟨rfl, trivial⟩⟩ rfl rfl hl.1 rfl (lv_room (Nat.le_of_ble_eq_true rfl)) dX7_handlingBy_47 ⟨Nat.zero_le _, Nat.zero_le _⟩)) (fun r_47 hr_47 => ?_)
          refine lv_iload_n hx hb dX7_handlingBy_50 rfl (lv_at hl 4 rfl) ?_
          refine vp_callSi (va_Run.run (va_runS (As := [.int (nI m0)]) (rest := [.int r_47, .int (md i)]) ⟨hx, hb, hml, hown, hts⟩ (c_X7_lastDayOf l (nI m0)) (va_cwS 1 hts gX7_handlingBy_X7_lastDayOf rfl rfl rfl (by decide +kernel) ⟨Nat.le_of_ble_eq_true rfl, Nat.le_of_ble_eq_true rfl⟩) ⟨fun _ _ _ _ q => q, fun U hU hW => ⟨rfl, trivial⟩⟩ rfl rfl hl.1 rfl (lv_room (Nat.le_of_ble_eq_true rfl)) dX7_handlingBy_51 ⟨Nat.zero_le _, Nat.zero_le _⟩)) (fun r_51 hr_51 => ?_)
          refine vp_callSi (va_Run.run (va_runS (As := [.int (md i), .int r_47, .int r_51]) (rest := []) ⟨hx, hb, hml, hown, hts⟩ (c_X7_isWithin l (md i) r_47 r_51) (va_cwS 3 hts gX7_handlingBy_X7_isWithin rfl rfl rfl (by decide +kernel) ⟨Nat.le_of_ble_eq_true rfl, Nat.le_of_ble_eq_true rfl⟩) ⟨fun _ _ _ _ q => q, fun U hU hW => ⟨rfl, trivial⟩⟩ rfl rfl hl.1 rfl (lv_room (Nat.le_of_ble_eq_true rfl)) dX7_handlingBy_54 ⟨Nat.zero_le _, Nat.zero_le _⟩)) (fun r_54 hr_54 => ?_)
          refine lv_if_eq (tgt := 84) hx hb dX7_handlingBy_57 (by decide) (fun c_57 => ?_) (fun c_57 => ?_)
          · have hw : ¬ (30 * nI m0 ≤ md i ∧ md i ≤ 30 * nI m0 + 30 - 1) := by
              rw [← hr_51, ← hr_47]; exact wI_eq0.mp (by rw [← hr_54]; exact c_57)
            refine lv_iinc (v := nI (i + 1)) (lv' := [(5, .int (nI (i + 1))), (6, .ref (ad (2000 + i))), (0, .ref (ad 0)), (1, .int by0), (2, .int o), (3, .int (nI m0)), (4, .int k)]) hx hb dX7_handlingBy_84 hl (k := 6) rfl (nI_1 i) (by decide) rfl (fun ls hl => ?_)
            refine lv_goto (tgt := 6) hx hb dX7_handlingBy_87 (by decide) ?_
            exact ih6 (i + 1) k (by omega) (by omega) (by first | rw [sumO, if_neg c_38, ek] | (rw [sumO, if_pos c_38, hanM, if_neg hw, ek]; exact (Int32.add_zero _).symm)) ls (lv_sub hl [2, 3, 4, 5, 6, 0] rfl)
          · have hw : 30 * nI m0 ≤ md i ∧ md i ≤ 30 * nI m0 + 30 - 1 := by
              rw [← hr_51, ← hr_47]; exact Decidable.byContradiction fun h => c_57 (by rw [hr_54]; exact wI_eq0.mpr h)
            refine lv_iload hx hb dX7_handlingBy_60 (lv_at hl 5 rfl) ?_
            refine lv_aload hx hb dX7_handlingBy_62 (lv_at hl 0 rfl) ?_
            refine pv_getN (ci := 5) (C := RX3) (T := TX3) (N := 4) hx hb hts hinX3 hown hK hP (hMs.2 i hlt).1 (hMs.2 i hlt).2 rfl 3 (by decide) hN (by decide +kernel : Cond.fieldLinkNest RX7 323 "StorageCharge$Move" "pieces" "I" "StorageCharge" ∈ nestW) (fun _ h9 => h9) rfl dX7_handlingBy_64 ?_
            refine lv_aload_n hx hb dX7_handlingBy_67 rfl (lv_at hl 1 rfl) ?_
            refine pv_get (ci := 9) (C := RX7) (T := TX7) (N := 7) hx hb hts hinX7 hown hK hP hX.1 hX.2 rfl 1 (by decide) (hts (.fieldLink RX7 19 "StorageCharge" "charges" "LStorageCharge$Charges;") (by decide +kernel)) (fun _ h9 => h9) rfl dX7_handlingBy_68 ?_
            refine lv_iload_n hx hb dX7_handlingBy_71 rfl (lv_at hl 2 rfl) ?_
            refine lv_aload hx hb dX7_handlingBy_72 (lv_at hl 0 rfl) ?_
            refine pv_getN (ci := 5) (C := RX3) (T := TX3) (N := 4) hx hb hts hinX3 hown hK hP (hMs.2 i hlt).1 (hMs.2 i hlt).2 rfl 1 (by decide) hN (by decide +kernel : Cond.fieldLinkNest RX7 326 "StorageCharge$Move" "kind" "I" "StorageCharge" ∈ nestW) (fun _ h9 => h9) rfl dX7_handlingBy_74 ?_
            refine vp_callSi (va_Run.run (va_runV (As := [.int by0, .int (mk i)]) (rest := [.int (mp i), .int k]) ⟨hx, hb, hml, hown, hts⟩ (c_X2_handlingCents l D y Ls ad G ch st ha mi dO dD dP nd li ow hC by0 (mk i)) (cwV 2 hts gX7_handlingBy_X2_handlingCents rfl rfl rfl (by decide +kernel) ⟨Nat.le_of_ble_eq_true rfl, Nat.le_of_ble_eq_true rfl⟩) ⟨Wd_blind, Wd_recv hK hP (ci := 4) rfl hc0 ec0, Wd_at hP hK hN⟩ rfl rfl hl.1 rfl (lv_room (Nat.le_of_ble_eq_true rfl)) dX7_handlingBy_77 ⟨Nat.zero_le _, Nat.zero_le _⟩)) (fun r_77 hr_77 => ?_)
            refine lv_imul hx hb dX7_handlingBy_80 ?_
            refine lv_iadd hx hb dX7_handlingBy_81 ?_
            refine lv_topi (fun x_82 ex_82 => ?_)
            refine lv_istore (lv' := [(4, .int x_82), (6, .ref (ad (2000 + i))), (0, .ref (ad 0)), (1, .int by0), (2, .int o), (3, .int (nI m0)), (5, .int (nI i))]) hx hb dX7_handlingBy_82 hl (by decide) rfl (fun ls hl => ?_)
            refine lv_iinc (v := nI (i + 1)) (lv' := [(5, .int (nI (i + 1))), (4, .int x_82), (6, .ref (ad (2000 + i))), (0, .ref (ad 0)), (1, .int by0), (2, .int o), (3, .int (nI m0))]) hx hb dX7_handlingBy_84 hl (k := 6) rfl (nI_1 i) (by decide) rfl (fun ls hl => ?_)
            refine lv_goto (tgt := 6) hx hb dX7_handlingBy_87 (by decide) ?_
            exact ih6 (i + 1) x_82 (by omega) (by omega) (by rw [sumO, if_pos c_38, hanM, if_pos hw, ex_82, ek, hr_77]) ls (lv_sub hl [3, 4, 5, 6, 1, 0] rfl)
  have hl := lv_entry ([.ref (ad 0), .int by0, .int o, .int (nI m0)]) (n := 7) (Nat.le_of_ble_eq_true rfl)
  rw [lg_entry_eq]
  generalize (lg_sl ([.ref (ad 0), .int by0, .int o, .int (nI m0)]) ++ List.replicate (7 - (lg_sl ([.ref (ad 0), .int by0, .int o, .int (nI m0)])).length) Slot.unset).toArray = ls at hl ⊢
  have hl : lv_has ls 7 [(0, .ref (ad 0)), (1, .int by0), (2, .int o), (3, .int (nI m0))] := hl
  refine lv_iconst (v := 0) hx hb dX7_handlingBy_0 (by decide) ?_
  refine lv_istore (lv' := [(4, .int 0), (0, .ref (ad 0)), (1, .int by0), (2, .int o), (3, .int (nI m0))]) hx hb dX7_handlingBy_1 hl (by decide) rfl (fun ls hl => ?_)
  refine lv_iconst (v := 0) hx hb dX7_handlingBy_3 (by decide) ?_
  refine lv_istore (lv' := [(5, .int 0), (4, .int 0), (0, .ref (ad 0)), (1, .int by0), (2, .int o), (3, .int (nI m0))]) hx hb dX7_handlingBy_4 hl (by decide) rfl (fun ls hl => ?_)
  exact loop6 (nm + 1) 0 0 (by omega) (by omega) rfl ls (lv_sub hl [2, 3, 4, 5, 1, 0] rfl)

def sumX (st ha mi dO dD dP : Nat → Int32) (nd nu : Nat) (uo : Nat → Int32) (uf ul ut : Nat → Nat) (uk ud : Nat → Nat → Int32) (nm : Nat) (mo mk md mp : Nat → Int32) (by0 o : Int32) (m0 : Nat) : Int32 := mxI (stoA st dO dD dP nd nu uo uf ul ut uk ud by0 o m0 + sumO mo o (fun q => hanM ha by0 (nI m0) (mk q) (md q) (mp q)) nm) (tZ 8 mi by0)

set_option maxHeartbeats 4000000 in
set_option maxRecDepth 100000 in
/-- sumBy -/
theorem c_X7_sumBy (l : Launch) (D : va_G) (y : Nat → ClassId) (Ls : List Nat) (ad : Nat → Nat) (G : Nat → va_E) (ch dr : Nat) (hX : XAt Ls ad G ch dr) (st ha mi dO dD dP : Nat → Int32) (nd : Nat) (li ow : Int32) (hC : ChargesAt y Ls ad G ch st ha mi dO dD dP nd li ow) (nu : Nat) (uo : Nat → Int32) (uf ul : Nat → Nat) (ug : Nat → Int32) (ut : Nat → Nat) (uk ud : Nat → Nat → Int32) (hUs : UnitsAt y Ls ad G nu uo uf ul ug ut uk ud) (nm : Nat) (mo mk md mp : Nat → Int32) (hMs : MovesAt y Ls ad G nm mo mk md mp) (by0 o : Int32) (m0 : Nat) (hm : m0 < 120) : Met l yX7_sumBy wsX7_sumBy ({ frames := 5, cells := 0, slots := 0, locals := 118 }) (va_Pc [.ref (ad 0), .int by0, .int o, .int (nI m0)] (Wd D y (wl Ls ad G))) (vp_Si (fun r => r = sumX st ha mi dO dD dP nd nu uo uf ul ut uk ud nm mo mk md mp by0 o m0)) 0 0 (fun _ => False) := by
  refine Met.ofW (cc := cX7_sumBy) (maxL := 5) (ret := (some .int)) (by decide) rfl ?_
  intro p e s m args below meth c s₁ B hml hv
  obtain ⟨rfl, hP, hK, hN⟩ := hv
  have hx := B.exec
  have hb := B.bytes
  have hr := B.returns
  have hts := atoms_spec (ws := wsX7_sumBy) B.pre
  have hown : s.vm.findClass RX7 = some m.cls := findClass_of_methodNamed B.named
  have hlocks := B.notSynchronized
  have hinX7 : ∀ w ∈ wsX70, w ∈ wsX7_sumBy := by decide +kernel
  obtain ⟨⟨hc0, hc1, hc2, hc3, hc4, hc5, hc6⟩, ec0, ec1, ec2, ec3, ec4, ec5, ec6, hnd⟩ := id hC
  have hl := lv_entry ([.ref (ad 0), .int by0, .int o, .int (nI m0)]) (n := 5) (Nat.le_of_ble_eq_true rfl)
  rw [lg_entry_eq]
  generalize (lg_sl ([.ref (ad 0), .int by0, .int o, .int (nI m0)]) ++ List.replicate (5 - (lg_sl ([.ref (ad 0), .int by0, .int o, .int (nI m0)])).length) Slot.unset).toArray = ls at hl ⊢
  have hl : lv_has ls 5 [(0, .ref (ad 0)), (1, .int by0), (2, .int o), (3, .int (nI m0))] := hl
  refine lv_aload_n hx hb dX7_sumBy_0 rfl (lv_at hl 0 rfl) ?_
  refine lv_iload_n hx hb dX7_sumBy_1 rfl (lv_at hl 1 rfl) ?_
  refine lv_iload_n hx hb dX7_sumBy_2 rfl (lv_at hl 2 rfl) ?_
  refine lv_iload_n hx hb dX7_sumBy_3 rfl (lv_at hl 3 rfl) ?_
  refine vp_callSi (va_Run.run (va_runV (As := [.int by0, .int o, .int (nI m0)]) (rest := []) ⟨hx, hb, hml, hown, hts⟩ (c_X7_storageBy l D y Ls ad G ch dr hX st ha mi dO dD dP nd li ow hC nu uo uf ul ug ut uk ud hUs by0 o m0 hm) (cwV 3 hts gX7_sumBy_X7_storageBy rfl rfl rfl (by decide +kernel) ⟨Nat.le_of_ble_eq_true rfl, Nat.le_of_ble_eq_true rfl⟩) ⟨Wd_blind, Wd_recv hK hP (ci := 9) rfl hX.1 hX.2, Wd_at hP hK hN⟩ rfl rfl hl.1 rfl (lv_room (Nat.le_of_ble_eq_true rfl)) dX7_sumBy_4 ⟨Nat.zero_le _, Nat.zero_le _⟩)) (fun r_4 hr_4 => ?_)
  refine lv_aload_n hx hb dX7_sumBy_7 rfl (lv_at hl 0 rfl) ?_
  refine lv_iload_n hx hb dX7_sumBy_8 rfl (lv_at hl 1 rfl) ?_
  refine lv_iload_n hx hb dX7_sumBy_9 rfl (lv_at hl 2 rfl) ?_
  refine lv_iload_n hx hb dX7_sumBy_10 rfl (lv_at hl 3 rfl) ?_
  refine vp_callSi (va_Run.run (va_runV (As := [.int by0, .int o, .int (nI m0)]) (rest := [.int r_4]) ⟨hx, hb, hml, hown, hts⟩ (c_X7_handlingBy l D y Ls ad G ch dr hX st ha mi dO dD dP nd li ow hC nm mo mk md mp hMs by0 o m0 hm) (cwV 3 hts gX7_sumBy_X7_handlingBy rfl rfl rfl (by decide +kernel) ⟨Nat.le_of_ble_eq_true rfl, Nat.le_of_ble_eq_true rfl⟩) ⟨Wd_blind, Wd_recv hK hP (ci := 9) rfl hX.1 hX.2, Wd_at hP hK hN⟩ rfl rfl hl.1 rfl (lv_room (Nat.le_of_ble_eq_true rfl)) dX7_sumBy_11 ⟨Nat.zero_le _, Nat.zero_le _⟩)) (fun r_11 hr_11 => ?_)
  refine lv_iadd hx hb dX7_sumBy_14 ?_
  refine lv_topi (fun x_15 ex_15 => ?_)
  refine lv_istore (lv' := [(4, .int x_15), (0, .ref (ad 0)), (1, .int by0), (2, .int o), (3, .int (nI m0))]) hx hb dX7_sumBy_15 hl (by decide) rfl (fun ls hl => ?_)
  refine lv_iload hx hb dX7_sumBy_17 (lv_at hl 0 rfl) ?_
  refine lv_aload_n hx hb dX7_sumBy_19 rfl (lv_at hl 1 rfl) ?_
  refine pv_get (ci := 9) (C := RX7) (T := TX7) (N := 7) hx hb hts hinX7 hown hK hP hX.1 hX.2 rfl 1 (by decide) (hts (.fieldLink RX7 19 "StorageCharge" "charges" "LStorageCharge$Charges;") (by decide +kernel)) (fun _ h9 => h9) rfl dX7_sumBy_20 ?_
  refine lv_iload_n hx hb dX7_sumBy_23 rfl (lv_at hl 2 rfl) ?_
  refine vp_callSi (va_Run.run (va_runV (As := [.int by0]) (rest := [.int x_15]) ⟨hx, hb, hml, hown, hts⟩ (c_X2_minimumOf l D y Ls ad G ch st ha mi dO dD dP nd li ow hC by0) (cwV 1 hts gX7_sumBy_X2_minimumOf rfl rfl rfl (by decide +kernel) ⟨Nat.le_of_ble_eq_true rfl, Nat.le_of_ble_eq_true rfl⟩) ⟨Wd_blind, Wd_recv hK hP (ci := 4) rfl hc0 ec0, Wd_at hP hK hN⟩ rfl rfl hl.1 rfl (lv_room (Nat.le_of_ble_eq_true rfl)) dX7_sumBy_24 ⟨Nat.zero_le _, Nat.zero_le _⟩)) (fun r_24 hr_24 => ?_)
  refine va_mmax hx hb (hml.trans hl.1.symm) hown (hts (.methodLink RX7 286 Lib.Math.max.name) (by decide +kernel)) (hts (.static Lib.Math.max.name) (by decide +kernel)) (hts (.initialized "java/lang/Math") (by decide +kernel)) (hts (.code Lib.Math.max.name Lib.Math.max.code 2 (some .int)) (by decide +kernel)) (Nat.le_of_ble_eq_true rfl) (Nat.le_of_ble_eq_true rfl) (Nat.zero_le _) (Nat.zero_le _) dX7_sumBy_27 ?_
  exact W.iret (v := (if x_15 < r_24 then r_24 else x_15)) hx hb hr (fun t ht hW => ⟨(if x_15 < r_24 then r_24 else x_15), rfl, (by rw [ex_15, hr_4, hr_11, hr_24]; rfl), ht⟩) (fun q h => by cases h) dX7_sumBy_30
end
section
/-! the reads of the bills -/
def cM (bo bm bc : Nat → Int32) (o mo : Int32) : Nat → Int32
  | 0 => 0
  | i + 1 => if bo i = o ∧ bm i = mo then cM bo bm bc o mo i + bc i else cM bo bm bc o mo i

set_option maxHeartbeats 4000000 in
set_option maxRecDepth 100000 in
/-- Bills.isBilled -/
theorem c_X1_isBilled (l : Launch) (D : va_G) (y : Nat → ClassId) (Ls : List Nat) (ad : Nat → Nat) (G : Nat → va_E) (nl : Nat) (bo bm bc bi : Nat → Int32) (hBs : BillsAt y Ls ad G nl bo bm bc bi) (o m0 : Int32) : Met l yX1_isBilled wsX1_isBilled ({ frames := 3, cells := 0, slots := 0, locals := 64 }) (va_Pc [.ref (ad 7), .int o, .int m0] (Wd D y (wl Ls ad G))) (vp_Si (fun r => (r = 1 ∧ hasD bo bm o m0 nl) ∨ (r = 0 ∧ ¬ hasD bo bm o m0 nl))) 0 0 (fun _ => False) := by
  refine Met.ofW (cc := cX1_isBilled) (maxL := 5) (ret := (some .boolean)) (by decide) rfl ?_
  intro p e s m args below meth c s₁ B hml hv
  obtain ⟨rfl, hP, hK, hN⟩ := hv
  have hx := B.exec
  have hb := B.bytes
  have hr := B.returns
  have hts := atoms_spec (ws := wsX1_isBilled) B.pre
  have hown : s.vm.findClass RX1 = some m.cls := findClass_of_methodNamed B.named
  have hlocks := B.notSynchronized
  have hinX0 : ∀ w ∈ wsX00, w ∈ wsX1_isBilled := by decide +kernel
  have hinX1 : ∀ w ∈ wsX10, w ∈ wsX1_isBilled := by decide +kernel
  obtain ⟨mc8, ea8, hj8, ej8, hn8, -⟩ := id hBs.2.1
  have loop2 : ∀ (n : Nat) (i : Nat), i ≤ nl → nl < i + n → ¬ hasD bo bm o m0 i → ∀ ls : Array Slot, lv_has ls 5 [(0, .ref (ad 7)), (1, .int o), (2, .int m0), (3, .int (nI i))] → W p l e (headSpec wsX1_isBilled ({ frames := 3, cells := 0, slots := 0, locals := 64 })).room s m ([.ref (ad 7), .int o, .int m0] : List Value).toArray below meth c s.heap [] 0 0 (MQ below (vp_Si (fun r => (r = 1 ∧ hasD bo bm o m0 nl) ∨ (r = 0 ∧ ¬ hasD bo bm o m0 nl))) ([.ref (ad 7), .int o, .int m0] : List Value).toArray s 0 0 (fun _ => False)) (F0 m 2 ls []) := by
    intro n
    induction n with
    | zero =>
      intro i hi hn; exact absurd hn (by omega)
    | succ n ih2 =>
      intro i hi hn hno ls hl
      refine lv_iload_n hx hb dX1_isBilled_2 rfl (lv_at hl 3 rfl) ?_
      refine lv_aload_n hx hb dX1_isBilled_3 rfl (lv_at hl 0 rfl) ?_
      refine pv_get (ci := 3) (C := RX1) (T := TX1) (N := 1) hx hb hts hinX1 hown hK hP hBs.1.1 hBs.1.2 rfl 0 (by decide) (hts (.fieldLink RX1 12 "StorageCharge$Bills" "lines" "Ljava/util/ArrayList;") (by decide +kernel)) (fun _ h9 => h9) rfl dX1_isBilled_4 ?_
      refine vp_callSi (va_Run.run (va_runV (As := []) (rest := [.int (nI i)]) ⟨hx, hb, hml, hown, hts⟩ (c_Jx4a65c_size_8abf5 l D y Ls ad G 8 nl (fun i => ad (3000 + i)) hBs.2.1) (cwV 0 hts gX1_isBilled_Jx4a65c_size_8abf5 rfl rfl rfl (by decide +kernel) ⟨Nat.le_of_ble_eq_true rfl, Nat.le_of_ble_eq_true rfl⟩) ⟨Wd_blind, Wd_recv hK hP (ci := 1) rfl hj8 ej8, Wd_at hP hK hN⟩ rfl rfl hl.1 rfl (lv_room (Nat.le_of_ble_eq_true rfl)) dX1_isBilled_7 ⟨Nat.zero_le _, Nat.zero_le _⟩)) (fun r_7 hr_7 => ?_)
      refine lv_icmp_ge (tgt := 52) hx hb dX1_isBilled_10 (by decide) (fun c_10 => ?_) (fun c_10 => ?_)
      · have hge : nl = i := by
          have h8 := Nat.le_of_not_lt (fun h : i < nl => absurd (by rw [← hr_7]; exact c_10) (nI_ge h (by omega)))
          omega
        refine lv_iconst (v := 0) hx hb dX1_isBilled_52 (by decide) ?_
        exact W.zret (v := 0) hx hb hr (by first | rfl | decide | (simp [narrow]; done) | assumption) (fun t ht hW => ⟨0, rfl, Or.inr ⟨rfl, by rw [hge]; exact hno⟩, ht⟩) (fun q h => by cases h) dX1_isBilled_53
      · have hlt : i < nl := Nat.lt_of_not_le fun h => c_10 (by rw [hr_7]; exact nI_le h (by omega))
        refine lv_aload_n hx hb dX1_isBilled_13 rfl (lv_at hl 0 rfl) ?_
        refine pv_get (ci := 3) (C := RX1) (T := TX1) (N := 1) hx hb hts hinX1 hown hK hP hBs.1.1 hBs.1.2 rfl 0 (by decide) (hts (.fieldLink RX1 12 "StorageCharge$Bills" "lines" "Ljava/util/ArrayList;") (by decide +kernel)) (fun _ h9 => h9) rfl dX1_isBilled_14 ?_
        refine lv_iload_n hx hb dX1_isBilled_17 rfl (lv_at hl 3 rfl) ?_
        refine va_csr (va_Run.run (va_runV (As := [.int (nI i)]) (rest := []) ⟨hx, hb, hml, hown, hts⟩ (c_Jx4a65c_get_915e3 l D y Ls ad G 8 nl (fun i => ad (3000 + i)) hBs.2.1 i hlt) (cwV 1 hts gX1_isBilled_Jx4a65c_get_915e3 rfl rfl rfl (by decide +kernel) ⟨Nat.le_of_ble_eq_true rfl, Nat.le_of_ble_eq_true rfl⟩) ⟨Wd_blind, Wd_recv hK hP (ci := 1) rfl hj8 ej8, Wd_at hP hK hN⟩ rfl rfl hl.1 rfl (lv_room (Nat.le_of_ble_eq_true rfl)) dX1_isBilled_18 ⟨Nat.zero_le _, Nat.zero_le _⟩)) (fun r_18 hr_18 => ?_)
        subst hr_18
        refine va_castS hx hb hown (hts (.classLink RX1 30 "StorageCharge$BillLine") (by decide +kernel)) (hK.1 2 _ rfl).2 (Wd_recv hK hP (ci := 2) rfl (hBs.2.2 i hlt).1 (hBs.2.2 i hlt).2) dX1_isBilled_21 ?_
        refine lv_astore (lv' := [(4, .ref (ad (3000 + i))), (0, .ref (ad 7)), (1, .int o), (2, .int m0), (3, .int (nI i))]) hx hb dX1_isBilled_24 hl (by decide) rfl (fun ls hl => ?_)
        refine lv_aload hx hb dX1_isBilled_26 (lv_at hl 0 rfl) ?_
        refine pv_getN (ci := 2) (C := RX0) (T := TX0) (N := 4) hx hb hts hinX0 hown hK hP (hBs.2.2 i hlt).1 (hBs.2.2 i hlt).2 rfl 0 (by decide) hN (by decide +kernel : Cond.fieldLinkNest RX1 32 "StorageCharge$BillLine" "owner" "I" "StorageCharge" ∈ nestW) (fun _ h9 => h9) rfl dX1_isBilled_28 ?_
        refine lv_iload_n hx hb dX1_isBilled_31 rfl (lv_at hl 2 rfl) ?_
        refine lv_icmp_ne (tgt := 46) hx hb dX1_isBilled_32 (by decide) (fun c_32 => ?_) (fun c_32 => ?_)
        · refine lv_iinc (v := nI (i + 1)) (lv' := [(3, .int (nI (i + 1))), (4, .ref (ad (3000 + i))), (0, .ref (ad 7)), (1, .int o), (2, .int m0)]) hx hb dX1_isBilled_46 hl (k := 4) rfl (nI_1 i) (by decide) rfl (fun ls hl => ?_)
          refine lv_goto (tgt := 2) hx hb dX1_isBilled_49 (by decide) ?_
          exact ih2 (i + 1) (by omega) (by omega) (hasD_step hno (fun h => by first | exact c_32 h.1 | exact c_41 h.2)) ls (lv_sub hl [2, 3, 4, 0] rfl)
        · refine lv_aload hx hb dX1_isBilled_35 (lv_at hl 0 rfl) ?_
          refine pv_getN (ci := 2) (C := RX0) (T := TX0) (N := 4) hx hb hts hinX0 hown hK hP (hBs.2.2 i hlt).1 (hBs.2.2 i hlt).2 rfl 1 (by decide) hN (by decide +kernel : Cond.fieldLinkNest RX1 36 "StorageCharge$BillLine" "month" "I" "StorageCharge" ∈ nestW) (fun _ h9 => h9) rfl dX1_isBilled_37 ?_
          refine lv_iload_n hx hb dX1_isBilled_40 rfl (lv_at hl 3 rfl) ?_
          refine lv_icmp_ne (tgt := 46) hx hb dX1_isBilled_41 (by decide) (fun c_41 => ?_) (fun c_41 => ?_)
          · refine lv_iinc (v := nI (i + 1)) (lv' := [(3, .int (nI (i + 1))), (4, .ref (ad (3000 + i))), (0, .ref (ad 7)), (1, .int o), (2, .int m0)]) hx hb dX1_isBilled_46 hl (k := 4) rfl (nI_1 i) (by decide) rfl (fun ls hl => ?_)
            refine lv_goto (tgt := 2) hx hb dX1_isBilled_49 (by decide) ?_
            exact ih2 (i + 1) (by omega) (by omega) (hasD_step hno (fun h => by first | exact c_32 h.1 | exact c_41 h.2)) ls (lv_sub hl [2, 3, 4, 0] rfl)
          · refine lv_iconst (v := 1) hx hb dX1_isBilled_44 (by decide) ?_
            exact W.zret (v := 1) hx hb hr (by first | rfl | decide | (simp [narrow]; done) | assumption) (fun t ht hW => ⟨1, rfl, Or.inl ⟨rfl, i, hlt, c_32, c_41⟩, ht⟩) (fun q h => by cases h) dX1_isBilled_45
  have hl := lv_entry ([.ref (ad 7), .int o, .int m0]) (n := 5) (Nat.le_of_ble_eq_true rfl)
  rw [lg_entry_eq]
  generalize (lg_sl ([.ref (ad 7), .int o, .int m0]) ++ List.replicate (5 - (lg_sl ([.ref (ad 7), .int o, .int m0])).length) Slot.unset).toArray = ls at hl ⊢
  have hl : lv_has ls 5 [(0, .ref (ad 7)), (1, .int o), (2, .int m0)] := hl
  refine lv_iconst (v := 0) hx hb dX1_isBilled_0 (by decide) ?_
  refine lv_istore_n (lv' := [(3, .int 0), (0, .ref (ad 7)), (1, .int o), (2, .int m0)]) hx hb dX1_isBilled_1 rfl hl (by decide) rfl (fun ls hl => ?_)
  exact loop2 (nl + 1) 0 (by omega) (by omega) (fun h => by obtain ⟨i, h1, -⟩ := h; omega) ls (lv_sub hl [1, 2, 3, 0] rfl)

set_option maxHeartbeats 4000000 in
set_option maxRecDepth 100000 in
/-- Bills.centsOfMonth -/
theorem c_X1_centsOfMonth (l : Launch) (D : va_G) (y : Nat → ClassId) (Ls : List Nat) (ad : Nat → Nat) (G : Nat → va_E) (nl : Nat) (bo bm bc bi : Nat → Int32) (hBs : BillsAt y Ls ad G nl bo bm bc bi) (o m0 : Int32) : Met l yX1_centsOfMonth wsX1_centsOfMonth ({ frames := 3, cells := 0, slots := 0, locals := 64 }) (va_Pc [.ref (ad 7), .int o, .int m0] (Wd D y (wl Ls ad G))) (vp_Si (fun r => r = cM bo bm bc o m0 nl)) 0 0 (fun _ => False) := by
  refine Met.ofW (cc := cX1_centsOfMonth) (maxL := 6) (ret := (some .int)) (by decide) rfl ?_
  intro p e s m args below meth c s₁ B hml hv
  obtain ⟨rfl, hP, hK, hN⟩ := hv
  have hx := B.exec
  have hb := B.bytes
  have hr := B.returns
  have hts := atoms_spec (ws := wsX1_centsOfMonth) B.pre
  have hown : s.vm.findClass RX1 = some m.cls := findClass_of_methodNamed B.named
  have hlocks := B.notSynchronized
  have hinX0 : ∀ w ∈ wsX00, w ∈ wsX1_centsOfMonth := by decide +kernel
  have hinX1 : ∀ w ∈ wsX10, w ∈ wsX1_centsOfMonth := by decide +kernel
  obtain ⟨mc8, ea8, hj8, ej8, hn8, -⟩ := id hBs.2.1
  have loop5 : ∀ (n : Nat) (i : Nat) (k : Int32), i ≤ nl → nl < i + n → k = cM bo bm bc o m0 i → ∀ ls : Array Slot, lv_has ls 6 [(0, .ref (ad 7)), (1, .int o), (2, .int m0), (3, .int k), (4, .int (nI i))] → W p l e (headSpec wsX1_centsOfMonth ({ frames := 3, cells := 0, slots := 0, locals := 64 })).room s m ([.ref (ad 7), .int o, .int m0] : List Value).toArray below meth c s.heap [] 0 0 (MQ below (vp_Si (fun r => r = cM bo bm bc o m0 nl)) ([.ref (ad 7), .int o, .int m0] : List Value).toArray s 0 0 (fun _ => False)) (F0 m 5 ls []) := by
    intro n
    induction n with
    | zero =>
      intro i k hi hn; exact absurd hn (by omega)
    | succ n ih5 =>
      intro i k hi hn ek ls hl
      refine lv_iload hx hb dX1_centsOfMonth_5 (lv_at hl 4 rfl) ?_
      refine lv_aload_n hx hb dX1_centsOfMonth_7 rfl (lv_at hl 0 rfl) ?_
      refine pv_get (ci := 3) (C := RX1) (T := TX1) (N := 1) hx hb hts hinX1 hown hK hP hBs.1.1 hBs.1.2 rfl 0 (by decide) (hts (.fieldLink RX1 12 "StorageCharge$Bills" "lines" "Ljava/util/ArrayList;") (by decide +kernel)) (fun _ h9 => h9) rfl dX1_centsOfMonth_8 ?_
      refine vp_callSi (va_Run.run (va_runV (As := []) (rest := [.int (nI i)]) ⟨hx, hb, hml, hown, hts⟩ (c_Jx4a65c_size_8abf5 l D y Ls ad G 8 nl (fun i => ad (3000 + i)) hBs.2.1) (cwV 0 hts gX1_centsOfMonth_Jx4a65c_size_8abf5 rfl rfl rfl (by decide +kernel) ⟨Nat.le_of_ble_eq_true rfl, Nat.le_of_ble_eq_true rfl⟩) ⟨Wd_blind, Wd_recv hK hP (ci := 1) rfl hj8 ej8, Wd_at hP hK hN⟩ rfl rfl hl.1 rfl (lv_room (Nat.le_of_ble_eq_true rfl)) dX1_centsOfMonth_11 ⟨Nat.zero_le _, Nat.zero_le _⟩)) (fun r_11 hr_11 => ?_)
      refine lv_icmp_ge (tgt := 63) hx hb dX1_centsOfMonth_14 (by decide) (fun c_14 => ?_) (fun c_14 => ?_)
      · have hge : nl = i := by
          have h8 := Nat.le_of_not_lt (fun h : i < nl => absurd (by rw [← hr_11]; exact c_14) (nI_ge h (by omega)))
          omega
        refine lv_iload_n hx hb dX1_centsOfMonth_63 rfl (lv_at hl 3 rfl) ?_
        exact W.iret (v := k) hx hb hr (fun t ht hW => ⟨k, rfl, (by rw [ek, hge]), ht⟩) (fun q h => by cases h) dX1_centsOfMonth_64
      · have hlt : i < nl := Nat.lt_of_not_le fun h => c_14 (by rw [hr_11]; exact nI_le h (by omega))
        refine lv_aload_n hx hb dX1_centsOfMonth_17 rfl (lv_at hl 0 rfl) ?_
        refine pv_get (ci := 3) (C := RX1) (T := TX1) (N := 1) hx hb hts hinX1 hown hK hP hBs.1.1 hBs.1.2 rfl 0 (by decide) (hts (.fieldLink RX1 12 "StorageCharge$Bills" "lines" "Ljava/util/ArrayList;") (by decide +kernel)) (fun _ h9 => h9) rfl dX1_centsOfMonth_18 ?_
        refine lv_iload hx hb dX1_centsOfMonth_21 (lv_at hl 4 rfl) ?_
        refine va_csr (va_Run.run (va_runV (As := [.int (nI i)]) (rest := []) ⟨hx, hb, hml, hown, hts⟩ (c_Jx4a65c_get_915e3 l D y Ls ad G 8 nl (fun i => ad (3000 + i)) hBs.2.1 i hlt) (cwV 1 hts gX1_centsOfMonth_Jx4a65c_get_915e3 rfl rfl rfl (by decide +kernel) ⟨Nat.le_of_ble_eq_true rfl, Nat.le_of_ble_eq_true rfl⟩) ⟨Wd_blind, Wd_recv hK hP (ci := 1) rfl hj8 ej8, Wd_at hP hK hN⟩ rfl rfl hl.1 rfl (lv_room (Nat.le_of_ble_eq_true rfl)) dX1_centsOfMonth_23 ⟨Nat.zero_le _, Nat.zero_le _⟩)) (fun r_23 hr_23 => ?_)
        subst hr_23
        refine va_castS hx hb hown (hts (.classLink RX1 30 "StorageCharge$BillLine") (by decide +kernel)) (hK.1 2 _ rfl).2 (Wd_recv hK hP (ci := 2) rfl (hBs.2.2 i hlt).1 (hBs.2.2 i hlt).2) dX1_centsOfMonth_26 ?_
        refine lv_astore (lv' := [(5, .ref (ad (3000 + i))), (0, .ref (ad 7)), (1, .int o), (2, .int m0), (3, .int k), (4, .int (nI i))]) hx hb dX1_centsOfMonth_29 hl (by decide) rfl (fun ls hl => ?_)
        refine lv_aload hx hb dX1_centsOfMonth_31 (lv_at hl 0 rfl) ?_
        refine pv_getN (ci := 2) (C := RX0) (T := TX0) (N := 4) hx hb hts hinX0 hown hK hP (hBs.2.2 i hlt).1 (hBs.2.2 i hlt).2 rfl 0 (by decide) hN (by decide +kernel : Cond.fieldLinkNest RX1 32 "StorageCharge$BillLine" "owner" "I" "StorageCharge" ∈ nestW) (fun _ h9 => h9) rfl dX1_centsOfMonth_33 ?_
        refine lv_iload_n hx hb dX1_centsOfMonth_36 rfl (lv_at hl 2 rfl) ?_
        refine lv_icmp_ne (tgt := 57) hx hb dX1_centsOfMonth_37 (by decide) (fun c_37 => ?_) (fun c_37 => ?_)
        · refine lv_iinc (v := nI (i + 1)) (lv' := [(4, .int (nI (i + 1))), (5, .ref (ad (3000 + i))), (0, .ref (ad 7)), (1, .int o), (2, .int m0), (3, .int k)]) hx hb dX1_centsOfMonth_57 hl (k := 5) rfl (nI_1 i) (by decide) rfl (fun ls hl => ?_)
          refine lv_goto (tgt := 5) hx hb dX1_centsOfMonth_60 (by decide) ?_
          exact ih5 (i + 1) k (by omega) (by omega) (by rw [cM, if_neg (fun h => by first | exact c_37 h.1 | exact c_46 h.2), ek]) ls (lv_sub hl [2, 3, 4, 5, 0] rfl)
        · refine lv_aload hx hb dX1_centsOfMonth_40 (lv_at hl 0 rfl) ?_
          refine pv_getN (ci := 2) (C := RX0) (T := TX0) (N := 4) hx hb hts hinX0 hown hK hP (hBs.2.2 i hlt).1 (hBs.2.2 i hlt).2 rfl 1 (by decide) hN (by decide +kernel : Cond.fieldLinkNest RX1 36 "StorageCharge$BillLine" "month" "I" "StorageCharge" ∈ nestW) (fun _ h9 => h9) rfl dX1_centsOfMonth_42 ?_
          refine lv_iload_n hx hb dX1_centsOfMonth_45 rfl (lv_at hl 3 rfl) ?_
          refine lv_icmp_ne (tgt := 57) hx hb dX1_centsOfMonth_46 (by decide) (fun c_46 => ?_) (fun c_46 => ?_)
          · refine lv_iinc (v := nI (i + 1)) (lv' := [(4, .int (nI (i + 1))), (5, .ref (ad (3000 + i))), (0, .ref (ad 7)), (1, .int o), (2, .int m0), (3, .int k)]) hx hb dX1_centsOfMonth_57 hl (k := 5) rfl (nI_1 i) (by decide) rfl (fun ls hl => ?_)
            refine lv_goto (tgt := 5) hx hb dX1_centsOfMonth_60 (by decide) ?_
            exact ih5 (i + 1) k (by omega) (by omega) (by rw [cM, if_neg (fun h => by first | exact c_37 h.1 | exact c_46 h.2), ek]) ls (lv_sub hl [2, 3, 4, 5, 0] rfl)
          · refine lv_iload_n hx hb dX1_centsOfMonth_49 rfl (lv_at hl 4 rfl) ?_
            refine lv_aload hx hb dX1_centsOfMonth_50 (lv_at hl 0 rfl) ?_
            refine pv_getN (ci := 2) (C := RX0) (T := TX0) (N := 4) hx hb hts hinX0 hown hK hP (hBs.2.2 i hlt).1 (hBs.2.2 i hlt).2 rfl 2 (by decide) hN (by decide +kernel : Cond.fieldLinkNest RX1 39 "StorageCharge$BillLine" "cents" "I" "StorageCharge" ∈ nestW) (fun _ h9 => h9) rfl dX1_centsOfMonth_52 ?_
            refine lv_iadd hx hb dX1_centsOfMonth_55 ?_
            refine lv_topi (fun x_56 ex_56 => ?_)
            refine lv_istore_n (lv' := [(3, .int x_56), (5, .ref (ad (3000 + i))), (0, .ref (ad 7)), (1, .int o), (2, .int m0), (4, .int (nI i))]) hx hb dX1_centsOfMonth_56 rfl hl (by decide) rfl (fun ls hl => ?_)
            refine lv_iinc (v := nI (i + 1)) (lv' := [(4, .int (nI (i + 1))), (3, .int x_56), (5, .ref (ad (3000 + i))), (0, .ref (ad 7)), (1, .int o), (2, .int m0)]) hx hb dX1_centsOfMonth_57 hl (k := 5) rfl (nI_1 i) (by decide) rfl (fun ls hl => ?_)
            refine lv_goto (tgt := 5) hx hb dX1_centsOfMonth_60 (by decide) ?_
            exact ih5 (i + 1) x_56 (by omega) (by omega) (by rw [cM, if_pos ⟨c_37, c_46⟩, ex_56, ek]) ls (lv_sub hl [3, 4, 5, 1, 0] rfl)
  have hl := lv_entry ([.ref (ad 7), .int o, .int m0]) (n := 6) (Nat.le_of_ble_eq_true rfl)
  rw [lg_entry_eq]
  generalize (lg_sl ([.ref (ad 7), .int o, .int m0]) ++ List.replicate (6 - (lg_sl ([.ref (ad 7), .int o, .int m0])).length) Slot.unset).toArray = ls at hl ⊢
  have hl : lv_has ls 6 [(0, .ref (ad 7)), (1, .int o), (2, .int m0)] := hl
  refine lv_iconst (v := 0) hx hb dX1_centsOfMonth_0 (by decide) ?_
  refine lv_istore_n (lv' := [(3, .int 0), (0, .ref (ad 7)), (1, .int o), (2, .int m0)]) hx hb dX1_centsOfMonth_1 rfl hl (by decide) rfl (fun ls hl => ?_)
  refine lv_iconst (v := 0) hx hb dX1_centsOfMonth_2 (by decide) ?_
  refine lv_istore (lv' := [(4, .int 0), (3, .int 0), (0, .ref (ad 7)), (1, .int o), (2, .int m0)]) hx hb dX1_centsOfMonth_3 hl (by decide) rfl (fun ls hl => ?_)
  exact loop5 (nl + 1) 0 0 (by omega) (by omega) rfl ls (lv_sub hl [2, 3, 4, 1, 0] rfl)

set_option maxHeartbeats 4000000 in
set_option maxRecDepth 100000 in
/-- Bills.centsOfOwner -/
theorem c_X1_centsOfOwner (l : Launch) (D : va_G) (y : Nat → ClassId) (Ls : List Nat) (ad : Nat → Nat) (G : Nat → va_E) (nl : Nat) (bo bm bc bi : Nat → Int32) (hBs : BillsAt y Ls ad G nl bo bm bc bi) (o : Int32) : Met l yX1_centsOfOwner wsX1_centsOfOwner ({ frames := 3, cells := 0, slots := 0, locals := 64 }) (va_Pc [.ref (ad 7), .int o] (Wd D y (wl Ls ad G))) (vp_Si (fun r => r = sumO bo o bc nl)) 0 0 (fun _ => False) := by
  refine Met.ofW (cc := cX1_centsOfOwner) (maxL := 5) (ret := (some .int)) (by decide) rfl ?_
  intro p e s m args below meth c s₁ B hml hv
  obtain ⟨rfl, hP, hK, hN⟩ := hv
  have hx := B.exec
  have hb := B.bytes
  have hr := B.returns
  have hts := atoms_spec (ws := wsX1_centsOfOwner) B.pre
  have hown : s.vm.findClass RX1 = some m.cls := findClass_of_methodNamed B.named
  have hlocks := B.notSynchronized
  have hinX0 : ∀ w ∈ wsX00, w ∈ wsX1_centsOfOwner := by decide +kernel
  have hinX1 : ∀ w ∈ wsX10, w ∈ wsX1_centsOfOwner := by decide +kernel
  obtain ⟨mc8, ea8, hj8, ej8, hn8, -⟩ := id hBs.2.1
  have loop4 : ∀ (n : Nat) (i : Nat) (k : Int32), i ≤ nl → nl < i + n → k = sumO bo o bc i → ∀ ls : Array Slot, lv_has ls 5 [(0, .ref (ad 7)), (1, .int o), (2, .int k), (3, .int (nI i))] → W p l e (headSpec wsX1_centsOfOwner ({ frames := 3, cells := 0, slots := 0, locals := 64 })).room s m ([.ref (ad 7), .int o] : List Value).toArray below meth c s.heap [] 0 0 (MQ below (vp_Si (fun r => r = sumO bo o bc nl)) ([.ref (ad 7), .int o] : List Value).toArray s 0 0 (fun _ => False)) (F0 m 4 ls []) := by
    intro n
    induction n with
    | zero =>
      intro i k hi hn; exact absurd hn (by omega)
    | succ n ih4 =>
      intro i k hi hn ek ls hl
      refine lv_iload_n hx hb dX1_centsOfOwner_4 rfl (lv_at hl 3 rfl) ?_
      refine lv_aload_n hx hb dX1_centsOfOwner_5 rfl (lv_at hl 0 rfl) ?_
      refine pv_get (ci := 3) (C := RX1) (T := TX1) (N := 1) hx hb hts hinX1 hown hK hP hBs.1.1 hBs.1.2 rfl 0 (by decide) (hts (.fieldLink RX1 12 "StorageCharge$Bills" "lines" "Ljava/util/ArrayList;") (by decide +kernel)) (fun _ h9 => h9) rfl dX1_centsOfOwner_6 ?_
      refine vp_callSi (va_Run.run (va_runV (As := []) (rest := [.int (nI i)]) ⟨hx, hb, hml, hown, hts⟩ (c_Jx4a65c_size_8abf5 l D y Ls ad G 8 nl (fun i => ad (3000 + i)) hBs.2.1) (cwV 0 hts gX1_centsOfOwner_Jx4a65c_size_8abf5 rfl rfl rfl (by decide +kernel) ⟨Nat.le_of_ble_eq_true rfl, Nat.le_of_ble_eq_true rfl⟩) ⟨Wd_blind, Wd_recv hK hP (ci := 1) rfl hj8 ej8, Wd_at hP hK hN⟩ rfl rfl hl.1 rfl (lv_room (Nat.le_of_ble_eq_true rfl)) dX1_centsOfOwner_9 ⟨Nat.zero_le _, Nat.zero_le _⟩)) (fun r_9 hr_9 => ?_)
      refine lv_icmp_ge (tgt := 51) hx hb dX1_centsOfOwner_12 (by decide) (fun c_12 => ?_) (fun c_12 => ?_)
      · have hge : nl = i := by
          have h8 := Nat.le_of_not_lt (fun h : i < nl => absurd (by rw [← hr_9]; exact c_12) (nI_ge h (by omega)))
          omega
        refine lv_iload_n hx hb dX1_centsOfOwner_51 rfl (lv_at hl 2 rfl) ?_
        exact W.iret (v := k) hx hb hr (fun t ht hW => ⟨k, rfl, (by rw [ek, hge]), ht⟩) (fun q h => by cases h) dX1_centsOfOwner_52
      · have hlt : i < nl := Nat.lt_of_not_le fun h => c_12 (by rw [hr_9]; exact nI_le h (by omega))
        refine lv_aload_n hx hb dX1_centsOfOwner_15 rfl (lv_at hl 0 rfl) ?_
        refine pv_get (ci := 3) (C := RX1) (T := TX1) (N := 1) hx hb hts hinX1 hown hK hP hBs.1.1 hBs.1.2 rfl 0 (by decide) (hts (.fieldLink RX1 12 "StorageCharge$Bills" "lines" "Ljava/util/ArrayList;") (by decide +kernel)) (fun _ h9 => h9) rfl dX1_centsOfOwner_16 ?_
        refine lv_iload_n hx hb dX1_centsOfOwner_19 rfl (lv_at hl 3 rfl) ?_
        refine va_csr (va_Run.run (va_runV (As := [.int (nI i)]) (rest := []) ⟨hx, hb, hml, hown, hts⟩ (c_Jx4a65c_get_915e3 l D y Ls ad G 8 nl (fun i => ad (3000 + i)) hBs.2.1 i hlt) (cwV 1 hts gX1_centsOfOwner_Jx4a65c_get_915e3 rfl rfl rfl (by decide +kernel) ⟨Nat.le_of_ble_eq_true rfl, Nat.le_of_ble_eq_true rfl⟩) ⟨Wd_blind, Wd_recv hK hP (ci := 1) rfl hj8 ej8, Wd_at hP hK hN⟩ rfl rfl hl.1 rfl (lv_room (Nat.le_of_ble_eq_true rfl)) dX1_centsOfOwner_20 ⟨Nat.zero_le _, Nat.zero_le _⟩)) (fun r_20 hr_20 => ?_)
        subst hr_20
        refine va_castS hx hb hown (hts (.classLink RX1 30 "StorageCharge$BillLine") (by decide +kernel)) (hK.1 2 _ rfl).2 (Wd_recv hK hP (ci := 2) rfl (hBs.2.2 i hlt).1 (hBs.2.2 i hlt).2) dX1_centsOfOwner_23 ?_
        refine lv_astore (lv' := [(4, .ref (ad (3000 + i))), (0, .ref (ad 7)), (1, .int o), (2, .int k), (3, .int (nI i))]) hx hb dX1_centsOfOwner_26 hl (by decide) rfl (fun ls hl => ?_)
        refine lv_aload hx hb dX1_centsOfOwner_28 (lv_at hl 0 rfl) ?_
        refine pv_getN (ci := 2) (C := RX0) (T := TX0) (N := 4) hx hb hts hinX0 hown hK hP (hBs.2.2 i hlt).1 (hBs.2.2 i hlt).2 rfl 0 (by decide) hN (by decide +kernel : Cond.fieldLinkNest RX1 32 "StorageCharge$BillLine" "owner" "I" "StorageCharge" ∈ nestW) (fun _ h9 => h9) rfl dX1_centsOfOwner_30 ?_
        refine lv_iload_n hx hb dX1_centsOfOwner_33 rfl (lv_at hl 2 rfl) ?_
        refine lv_icmp_ne (tgt := 45) hx hb dX1_centsOfOwner_34 (by decide) (fun c_34 => ?_) (fun c_34 => ?_)
        · refine lv_iinc (v := nI (i + 1)) (lv' := [(3, .int (nI (i + 1))), (4, .ref (ad (3000 + i))), (0, .ref (ad 7)), (1, .int o), (2, .int k)]) hx hb dX1_centsOfOwner_45 hl (k := 4) rfl (nI_1 i) (by decide) rfl (fun ls hl => ?_)
          refine lv_goto (tgt := 4) hx hb dX1_centsOfOwner_48 (by decide) ?_
          exact ih4 (i + 1) k (by omega) (by omega) (by rw [sumO, if_neg c_34, ek]) ls (lv_sub hl [2, 3, 4, 0] rfl)
        · refine lv_iload_n hx hb dX1_centsOfOwner_37 rfl (lv_at hl 3 rfl) ?_
          refine lv_aload hx hb dX1_centsOfOwner_38 (lv_at hl 0 rfl) ?_
          refine pv_getN (ci := 2) (C := RX0) (T := TX0) (N := 4) hx hb hts hinX0 hown hK hP (hBs.2.2 i hlt).1 (hBs.2.2 i hlt).2 rfl 2 (by decide) hN (by decide +kernel : Cond.fieldLinkNest RX1 39 "StorageCharge$BillLine" "cents" "I" "StorageCharge" ∈ nestW) (fun _ h9 => h9) rfl dX1_centsOfOwner_40 ?_
          refine lv_iadd hx hb dX1_centsOfOwner_43 ?_
          refine lv_topi (fun x_44 ex_44 => ?_)
          refine lv_istore_n (lv' := [(2, .int x_44), (4, .ref (ad (3000 + i))), (0, .ref (ad 7)), (1, .int o), (3, .int (nI i))]) hx hb dX1_centsOfOwner_44 rfl hl (by decide) rfl (fun ls hl => ?_)
          refine lv_iinc (v := nI (i + 1)) (lv' := [(3, .int (nI (i + 1))), (2, .int x_44), (4, .ref (ad (3000 + i))), (0, .ref (ad 7)), (1, .int o)]) hx hb dX1_centsOfOwner_45 hl (k := 4) rfl (nI_1 i) (by decide) rfl (fun ls hl => ?_)
          refine lv_goto (tgt := 4) hx hb dX1_centsOfOwner_48 (by decide) ?_
          exact ih4 (i + 1) x_44 (by omega) (by omega) (by rw [sumO, if_pos c_34, ex_44, ek]) ls (lv_sub hl [3, 4, 1, 0] rfl)
  have hl := lv_entry ([.ref (ad 7), .int o]) (n := 5) (Nat.le_of_ble_eq_true rfl)
  rw [lg_entry_eq]
  generalize (lg_sl ([.ref (ad 7), .int o]) ++ List.replicate (5 - (lg_sl ([.ref (ad 7), .int o])).length) Slot.unset).toArray = ls at hl ⊢
  have hl : lv_has ls 5 [(0, .ref (ad 7)), (1, .int o)] := hl
  refine lv_iconst (v := 0) hx hb dX1_centsOfOwner_0 (by decide) ?_
  refine lv_istore_n (lv' := [(2, .int 0), (0, .ref (ad 7)), (1, .int o)]) hx hb dX1_centsOfOwner_1 rfl hl (by decide) rfl (fun ls hl => ?_)
  refine lv_iconst (v := 0) hx hb dX1_centsOfOwner_2 (by decide) ?_
  refine lv_istore_n (lv' := [(3, .int 0), (2, .int 0), (0, .ref (ad 7)), (1, .int o)]) hx hb dX1_centsOfOwner_3 rfl hl (by decide) rfl (fun ls hl => ?_)
  exact loop4 (nl + 1) 0 0 (by omega) (by omega) rfl ls (lv_sub hl [2, 3, 1, 0] rfl)

set_option maxHeartbeats 4000000 in
set_option maxRecDepth 100000 in
/-- Bills.find -/
theorem c_X1_find (l : Launch) (D : va_G) (y : Nat → ClassId) (Ls : List Nat) (ad : Nat → Nat) (G : Nat → va_E) (nl : Nat) (bo bm bc bi : Nat → Int32) (hBs : BillsAt y Ls ad G nl bo bm bc bi) (o q0 : Int32) : Met l yX1_find wsX1_find ({ frames := 3, cells := 0, slots := 0, locals := 64 }) (va_Pc [.ref (ad 7), .int o, .int q0] (Wd D y (wl Ls ad G))) (va_Sq (fun r => (∃ k, k < nl ∧ bo k = o ∧ nI (cnt bo o k) = q0 ∧ r = some (ad (3000 + k))) ∨ (r = none ∧ ∀ k, k < nl → bo k = o → nI (cnt bo o k) ≠ q0))) 0 0 (fun _ => False) := by
  refine Met.ofW (cc := cX1_find) (maxL := 6) (ret := (some (.object "StorageCharge$BillLine"))) (by decide) rfl ?_
  intro p e s m args below meth c s₁ B hml hv
  obtain ⟨rfl, hP, hK, hN⟩ := hv
  have hx := B.exec
  have hb := B.bytes
  have hr := B.returns
  have hts := atoms_spec (ws := wsX1_find) B.pre
  have hown : s.vm.findClass RX1 = some m.cls := findClass_of_methodNamed B.named
  have hlocks := B.notSynchronized
  have hinX0 : ∀ w ∈ wsX00, w ∈ wsX1_find := by decide +kernel
  have hinX1 : ∀ w ∈ wsX10, w ∈ wsX1_find := by decide +kernel
  obtain ⟨mc8, ea8, hj8, ej8, hn8, -⟩ := id hBs.2.1
  have loop5 : ∀ (n : Nat) (i : Nat) (k : Int32), i ≤ nl → nl < i + n → k = nI (cnt bo o i) → (∀ q, q < i → bo q = o → nI (cnt bo o q) ≠ q0) → ∀ ls : Array Slot, lv_has ls 6 [(0, .ref (ad 7)), (1, .int o), (2, .int q0), (3, .int k), (4, .int (nI i))] → W p l e (headSpec wsX1_find ({ frames := 3, cells := 0, slots := 0, locals := 64 })).room s m ([.ref (ad 7), .int o, .int q0] : List Value).toArray below meth c s.heap [] 0 0 (MQ below (va_Sq (fun r => (∃ k, k < nl ∧ bo k = o ∧ nI (cnt bo o k) = q0 ∧ r = some (ad (3000 + k))) ∨ (r = none ∧ ∀ k, k < nl → bo k = o → nI (cnt bo o k) ≠ q0))) ([.ref (ad 7), .int o, .int q0] : List Value).toArray s 0 0 (fun _ => False)) (F0 m 5 ls []) := by
    intro n
    induction n with
    | zero =>
      intro i k hi hn; exact absurd hn (by omega)
    | succ n ih5 =>
      intro i k hi hn ek hno ls hl
      refine lv_iload hx hb dX1_find_5 (lv_at hl 4 rfl) ?_
      refine lv_aload_n hx hb dX1_find_7 rfl (lv_at hl 0 rfl) ?_
      refine pv_get (ci := 3) (C := RX1) (T := TX1) (N := 1) hx hb hts hinX1 hown hK hP hBs.1.1 hBs.1.2 rfl 0 (by decide) (hts (.fieldLink RX1 12 "StorageCharge$Bills" "lines" "Ljava/util/ArrayList;") (by decide +kernel)) (fun _ h9 => h9) rfl dX1_find_8 ?_
      refine vp_callSi (va_Run.run (va_runV (As := []) (rest := [.int (nI i)]) ⟨hx, hb, hml, hown, hts⟩ (c_Jx4a65c_size_8abf5 l D y Ls ad G 8 nl (fun i => ad (3000 + i)) hBs.2.1) (cwV 0 hts gX1_find_Jx4a65c_size_8abf5 rfl rfl rfl (by decide +kernel) ⟨Nat.le_of_ble_eq_true rfl, Nat.le_of_ble_eq_true rfl⟩) ⟨Wd_blind, Wd_recv hK hP (ci := 1) rfl hj8 ej8, Wd_at hP hK hN⟩ rfl rfl hl.1 rfl (lv_room (Nat.le_of_ble_eq_true rfl)) dX1_find_11 ⟨Nat.zero_le _, Nat.zero_le _⟩)) (fun r_11 hr_11 => ?_)
      refine lv_icmp_ge (tgt := 57) hx hb dX1_find_14 (by decide) (fun c_14 => ?_) (fun c_14 => ?_)
      · have hge : nl = i := by
          have h8 := Nat.le_of_not_lt (fun h : i < nl => absurd (by rw [← hr_11]; exact c_14) (nI_ge h (by omega)))
          omega
        refine lv_null hx hb dX1_find_57 ?_
        exact W.aret (v := .null) hx hb hr (by first | exact Or.inl ⟨_, rfl⟩ | exact Or.inr ⟨_, rfl⟩) (Or.inl rfl) (fun t ht hW => ⟨none, rfl, Or.inr ⟨rfl, by rw [hge]; exact hno⟩, ht⟩) (fun q h => by cases h) dX1_find_58
      · have hlt : i < nl := Nat.lt_of_not_le fun h => c_14 (by rw [hr_11]; exact nI_le h (by omega))
        refine lv_aload_n hx hb dX1_find_17 rfl (lv_at hl 0 rfl) ?_
        refine pv_get (ci := 3) (C := RX1) (T := TX1) (N := 1) hx hb hts hinX1 hown hK hP hBs.1.1 hBs.1.2 rfl 0 (by decide) (hts (.fieldLink RX1 12 "StorageCharge$Bills" "lines" "Ljava/util/ArrayList;") (by decide +kernel)) (fun _ h9 => h9) rfl dX1_find_18 ?_
        refine lv_iload hx hb dX1_find_21 (lv_at hl 4 rfl) ?_
        refine va_csr (va_Run.run (va_runV (As := [.int (nI i)]) (rest := []) ⟨hx, hb, hml, hown, hts⟩ (c_Jx4a65c_get_915e3 l D y Ls ad G 8 nl (fun i => ad (3000 + i)) hBs.2.1 i hlt) (cwV 1 hts gX1_find_Jx4a65c_get_915e3 rfl rfl rfl (by decide +kernel) ⟨Nat.le_of_ble_eq_true rfl, Nat.le_of_ble_eq_true rfl⟩) ⟨Wd_blind, Wd_recv hK hP (ci := 1) rfl hj8 ej8, Wd_at hP hK hN⟩ rfl rfl hl.1 rfl (lv_room (Nat.le_of_ble_eq_true rfl)) dX1_find_23 ⟨Nat.zero_le _, Nat.zero_le _⟩)) (fun r_23 hr_23 => ?_)
        subst hr_23
        refine va_castS hx hb hown (hts (.classLink RX1 30 "StorageCharge$BillLine") (by decide +kernel)) (hK.1 2 _ rfl).2 (Wd_recv hK hP (ci := 2) rfl (hBs.2.2 i hlt).1 (hBs.2.2 i hlt).2) dX1_find_26 ?_
        refine lv_astore (lv' := [(5, .ref (ad (3000 + i))), (0, .ref (ad 7)), (1, .int o), (2, .int q0), (3, .int k), (4, .int (nI i))]) hx hb dX1_find_29 hl (by decide) rfl (fun ls hl => ?_)
        refine lv_aload hx hb dX1_find_31 (lv_at hl 0 rfl) ?_
        refine pv_getN (ci := 2) (C := RX0) (T := TX0) (N := 4) hx hb hts hinX0 hown hK hP (hBs.2.2 i hlt).1 (hBs.2.2 i hlt).2 rfl 0 (by decide) hN (by decide +kernel : Cond.fieldLinkNest RX1 32 "StorageCharge$BillLine" "owner" "I" "StorageCharge" ∈ nestW) (fun _ h9 => h9) rfl dX1_find_33 ?_
        refine lv_iload_n hx hb dX1_find_36 rfl (lv_at hl 2 rfl) ?_
        refine lv_icmp_ne (tgt := 51) hx hb dX1_find_37 (by decide) (fun c_37 => ?_) (fun c_37 => ?_)
        · refine lv_iinc (v := nI (i + 1)) (lv' := [(4, .int (nI (i + 1))), (5, .ref (ad (3000 + i))), (0, .ref (ad 7)), (1, .int o), (2, .int q0), (3, .int k)]) hx hb dX1_find_51 hl (k := 5) rfl (nI_1 i) (by decide) rfl (fun ls hl => ?_)
          refine lv_goto (tgt := 5) hx hb dX1_find_54 (by decide) ?_
          exact ih5 (i + 1) k (by omega) (by omega) (by rw [cnt, if_neg c_37, ek]) (lt_s hno (fun h => by first | exact absurd h c_37 | exact fun h2 => c_42 (by rw [ek]; exact h2))) ls (lv_sub hl [2, 3, 4, 5, 0] rfl)
        · refine lv_iload_n hx hb dX1_find_40 rfl (lv_at hl 4 rfl) ?_
          refine lv_iload_n hx hb dX1_find_41 rfl (lv_at hl 3 rfl) ?_
          refine lv_icmp_ne (tgt := 48) hx hb dX1_find_42 (by decide) (fun c_42 => ?_) (fun c_42 => ?_)
          · obtain ⟨x_48, ex_48⟩ : ∃ y9 : Int32, y9 = k + 1 := ⟨_, rfl⟩
            refine lv_iinc (v := x_48) (lv' := [(3, .int x_48), (5, .ref (ad (3000 + i))), (0, .ref (ad 7)), (1, .int o), (2, .int q0), (4, .int (nI i))]) hx hb dX1_find_48 hl (k := 4) rfl (by rw [ex_48]; rfl) (by decide) rfl (fun ls hl => ?_)
            refine lv_iinc (v := nI (i + 1)) (lv' := [(4, .int (nI (i + 1))), (3, .int x_48), (5, .ref (ad (3000 + i))), (0, .ref (ad 7)), (1, .int o), (2, .int q0)]) hx hb dX1_find_51 hl (k := 5) rfl (nI_1 i) (by decide) rfl (fun ls hl => ?_)
            refine lv_goto (tgt := 5) hx hb dX1_find_54 (by decide) ?_
            exact ih5 (i + 1) x_48 (by omega) (by omega) (by rw [cnt, if_pos c_37, ex_48, ek]; exact nI_1 _) (lt_s hno (fun h => by first | exact absurd h c_37 | exact fun h2 => c_42 (by rw [ek]; exact h2))) ls (lv_sub hl [3, 4, 5, 1, 0] rfl)
          · refine lv_aload hx hb dX1_find_45 (lv_at hl 0 rfl) ?_
            exact W.aret (v := .ref (ad (3000 + i))) hx hb hr (by first | exact Or.inl ⟨_, rfl⟩ | exact Or.inr ⟨_, rfl⟩) (Or.inr ⟨_, rfl⟩) (fun t ht hW => ⟨some (ad (3000 + i)), rfl, Or.inl ⟨i, hlt, c_37, by rw [← ek]; exact c_42, rfl⟩, ht⟩) (fun q h => by cases h) dX1_find_47
  have hl := lv_entry ([.ref (ad 7), .int o, .int q0]) (n := 6) (Nat.le_of_ble_eq_true rfl)
  rw [lg_entry_eq]
  generalize (lg_sl ([.ref (ad 7), .int o, .int q0]) ++ List.replicate (6 - (lg_sl ([.ref (ad 7), .int o, .int q0])).length) Slot.unset).toArray = ls at hl ⊢
  have hl : lv_has ls 6 [(0, .ref (ad 7)), (1, .int o), (2, .int q0)] := hl
  refine lv_iconst (v := 0) hx hb dX1_find_0 (by decide) ?_
  refine lv_istore_n (lv' := [(3, .int 0), (0, .ref (ad 7)), (1, .int o), (2, .int q0)]) hx hb dX1_find_1 rfl hl (by decide) rfl (fun ls hl => ?_)
  refine lv_iconst (v := 0) hx hb dX1_find_2 (by decide) ?_
  refine lv_istore (lv' := [(4, .int 0), (3, .int 0), (0, .ref (ad 7)), (1, .int o), (2, .int q0)]) hx hb dX1_find_3 hl (by decide) rfl (fun ls hl => ?_)
  exact loop5 (nl + 1) 0 0 (by omega) (by omega) rfl (fun q h => by omega) ls (lv_sub hl [2, 3, 4, 1, 0] rfl)
end
section
/-! methods that write or throw: what they are told, what they leave -/
def exN : Nat → String
  | 0 => "java/lang/IllegalArgumentException"
  | 1 => "java/lang/UnsupportedOperationException"
  | 2 => "java/util/NoSuchElementException"
  | 3 => "java/lang/IllegalStateException"
  | 4 => "java/lang/ArithmeticException"
  | _ => "java/lang/ArrayIndexOutOfBoundsException"
def castW : List Cond := [.castable "java/lang/IllegalArgumentException" "java/lang/IllegalArgumentException", .castable "java/lang/UnsupportedOperationException" "java/lang/UnsupportedOperationException", .castable "java/util/NoSuchElementException" "java/util/NoSuchElementException", .castable "java/lang/IllegalStateException" "java/lang/IllegalStateException", .castable "java/lang/ArithmeticException" "java/lang/ArithmeticException", .declares ⟨"java/lang/RuntimeException", "<init>", "(Ljava/lang/String;)V"⟩, .declares ⟨"java/lang/Exception", "<init>", "(Ljava/lang/String;)V"⟩, .declares ⟨"java/lang/Throwable", "<init>", "(Ljava/lang/String;)V"⟩]
def strT : List (Nat × String) := [(56, "no such sign"), (67, "the text is full"), (98, "no room for a unit"), (120, "no room for a change"), (136, "no such number of pieces"), (138, "no room for a move"), (161, "no unit-days"), (173, "the month is billed"), (184, "the month is not billed"), (195, "no such line"), (208, "a line has no such number"), (226, "no such sign was printed"), (241, "no such owner"), (243, "no such class or kind"), (245, "no such day"), (247, "no such month"), (249, "no such unit"), (254, "the unit is gone"), (259, "the day is before the last one told")]
abbrev N2 : List String := ["java/lang/RuntimeException", "java/lang/Exception"]
/-- what a throw needs: two statics that lie below b0, the casts, the texts -/
def ThP (b0 : Nat) (U : State) : Prop := vx_Zq Bundle.tN "UNASSIGNED_STACK" Bundle.steD (fun q => b0 ≤ q) U U.heap ∧ vx_Zq Bundle.tN "SUPPRESSED_SENTINEL" Bundle.listD (fun q => b0 ≤ q) U U.heap ∧ (∀ w ∈ castW, va_Nw w U) ∧ ∀ t ∈ strT, ∃ sa : Nat, vk_R RX7 t.1 t.2 sa U
theorem castW_warm {s U : State} (hW : s.WarmedH U.vm) (h : ∀ w ∈ castW, va_Nw w s) : ∀ w ∈ castW, va_Nw w U := by
  intro w hw
  have hs := h w hw
  simp only [castW, List.mem_cons, List.not_mem_nil, or_false] at hw
  rcases hw with rfl | rfl | rfl | rfl | rfl | rfl | rfl | rfl <;> first | exact va_Nw.warmC hW hs | exact va_Nw.warmD hW hs
theorem castW_same {u U : State} (hv : u.vm = U.vm) (h : ∀ w ∈ castW, va_Nw w u) : ∀ w ∈ castW, va_Nw w U := fun w hw => va_Nw.same ((by decide +kernel : ∀ w ∈ castW, w.onTables = true) w hw) hv (h w hw)
theorem ThP_at {b0 : Nat} {s U : State} {H : Heap} {locs : List Loc} (h : ThP b0 s) (hS : va_S (fun q => b0 ≤ q) s.heap H locs) (hU : U.heap = H) (hW : s.WarmedH U.vm) : ThP b0 U := by
  obtain ⟨h1, h2, h3, h4⟩ := h
  subst hU
  exact ⟨(h1.kept hS.2.1).moved hW.alike, (h2.kept hS.2.1).moved hW.alike, castW_warm hW h3, fun t ht => by obtain ⟨sa, hsa⟩ := h4 t ht; exact ⟨sa, vk_R.warm hW hsa⟩⟩
theorem ThP_call {b0 : Nat} {U : State} {g : JFrame} {mk : MethodId} {a : Array Value} (h : ThP b0 U) : ThP b0 (U.calling g mk a) := by
  obtain ⟨h1, h2, h3, h4⟩ := h
  exact ⟨vx_Zq.moved (u := U) (U := U.calling g mk a) (Vm.Alike.refl U.vm) h1, vx_Zq.moved (u := U) (U := U.calling g mk a) (Vm.Alike.refl U.vm) h2, castW_same (u := U) (U := U.calling g mk a) rfl h3, fun t ht => by obtain ⟨sa, hsa⟩ := h4 t ht; exact ⟨sa, vk_R.same (u := U) (U := U.calling g mk a) rfl hsa⟩⟩
/-- what a method that writes or throws is told -/
def WdM (D : va_G) (y : Nat → ClassId) (b0 : Nat) (ws : va_W) (U : State) : Prop := Wd D y ws U ∧ va_D (fun q => b0 ≤ q) ws ∧ b0 ≤ U.heap.size ∧ ThP b0 U
theorem WdM_blind {D : va_G} {y : Nat → ClassId} {b0 : Nat} {ws : va_W} {av : List Value} : FrameBlind (va_Pc av (WdM D y b0 ws)) := fun a U g mk q => ⟨q.1, (Wd_blind (av := av) a U g mk ⟨q.1, q.2.1⟩).2, q.2.2.1, q.2.2.2.1, ThP_call q.2.2.2.2⟩
theorem WdM_at {D : va_G} {y : Nat → ClassId} {b0 : Nat} {ws : va_W} {s : State} {H : Heap} {locs : List Loc} {av : List Value} (hP : va_P D vwCl ws H) (hK : va_K D vwCl (TY y) s) (hN : ∀ w ∈ nestW, va_Nw w s) (hD : va_D (fun q => b0 ≤ q) ws) (hS : va_S (fun q => b0 ≤ q) s.heap H locs) (hb0 : b0 ≤ s.heap.size) (hT : ThP b0 s) : ∀ U : State, U.heap = H → s.WarmedH U.vm → va_Pc av (WdM D y b0 ws) av.toArray U := fun U hU hW => ⟨rfl, (Wd_at (av := av) hP hK hN U hU hW).2, hD, by rw [hU]; exact Nat.le_trans hb0 hS.1, ThP_at hT hS hU hW⟩
/-- what is left behind it -/
def WB (D : va_G) (b0 : Nat) (u : va_W) (t : State) : Prop := va_P D vwCl u t.heap ∧ va_D (fun q => b0 ≤ q) u
/-- what is left behind a throw: which, why; the world as it was -/
abbrev XX (D : va_G) (b0 : Nat) (ws : va_W) (px : Nat → Prop) : String → State → State → Prop := vx_X px (fun E k t => E = exN k ∧ va_P D vwCl ws t.heap) (fun q => b0 ≤ q)
theorem wl_D {A : Nat → Prop} {Ls : List Nat} {ad : Nat → Nat} {G G' : Nat → va_E} (h : va_D A (wl Ls ad G)) : va_D A (wl Ls ad G') := by
  refine ⟨fun i j p q hi hj e => ?_, fun k q hk => ?_⟩
  · obtain ⟨a, ha, rfl⟩ := wl_lab hi
    obtain ⟨b, hb, rfl⟩ := wl_lab hj
    exact h.1 i j (ad a, G a) (ad b, G b) (by rw [wl, List.getElem?_map, ha]; rfl) (by rw [wl, List.getElem?_map, hb]; rfl) e
  · obtain ⟨a, ha, rfl⟩ := wl_lab hk
    exact h.2 k (ad a, G a) (by rw [wl, List.getElem?_map, ha]; rfl)
section PT
variable {p : Program} {l : Launch} {e : Env} {R : Room} {s : State} {m : MethodId} {args : Array Value} {below : List Frame} {meth : Method} {c : Code} {H : Heap} {locs : List Loc} {cells slots : Nat}
variable {cc : ByteArray} {pc : Nat} {ls : Array Slot} {rest : List Value} {D : va_G} {ws : va_W} {Qc : Array Value → State → Outcome → State → Prop}
theorem XX_of {b0 k : Nat} {px : Nat → Prop} (hpx : px k) (hP : va_P D vwCl ws H) (hS : va_S (fun q => b0 ≤ q) s.heap H locs) : ∀ t : State, s.vm.Alike t.vm → H.size ≤ t.heap.size → (∀ q : Nat, q < H.size → t.heap[q]? = H[q]?) → XX D b0 ws px (exN k) s t := fun t _ hz hh => ⟨k, hpx, ⟨rfl, hP.kept fun i q hi => hh q.1 (hP i q hi).lt⟩, Nat.le_trans hS.1 hz, fun q h1 h2 => (hh q (Nat.lt_of_lt_of_le h1 hS.1)).trans (hS.2.1 q h1 h2)⟩
theorem pv_thr (hexec : p.tables.exec = Jvm.exec) (hb : c.code = cc) (hl : l.stackTraces = false) {ik is ic mc ms b0 : Nat} {text : String} {Ts : List Cond} {px : Nat → Prop} (k : Nat) (hpx : px k) (hts : ∀ w ∈ Ts, w.before args s = true) (hown : s.vm.findClass RX7 = some m.cls)
    (hcls : Bundle.fit (exN k) = true) (hk : Cond.classLink RX7 ik (exN k) ∈ Ts) (hini : Cond.initialized (exN k) ∈ Ts) (hstr : (is, text) ∈ strT) (hsub : ∀ w ∈ (vx_atS RX7 ic (exN k) N2).filter goodWord, w ∈ Ts) (hsb : ∀ w ∈ (vx_atS RX7 ic (exN k) N2).filter (fun w => !goodWord w), w ∈ castW)
    (hgood : ∀ w ∈ Cond.classLink RX7 ik (exN k) :: Cond.initialized (exN k) :: vx_atS RX7 ic (exN k) N2, vx_ot w = true)
    (hT : ThP b0 s) (hP : va_P D vwCl ws H) (hS : va_S (fun q => b0 ≤ q) s.heap H locs) (hsize : ls.size = c.maxLocals)
    (d0 : decode cc pc = .ok (.new ik, 3)) (d3 : decode cc (pc + 3) = .ok (.dup, 1)) (d4 : decode cc (pc + 4) = .ok (.ldc is, 2)) (d6 : decode cc (pc + 6) = .ok (.invokespecial ic, 3)) (d9 : decode cc (pc + 9) = .ok (.athrow, 1))
    (hno : ∀ x ∈ c.exceptionTable.toList, False) (hRf : 5 < R.frames) (hRl : (rest.map fun v => v.category).sum + 82 ≤ R.locals) (hRc : cells + 1 ≤ R.cells) (hRs : slots + 6 ≤ R.slots) (hlocks : meth.locks = false) (hc : cells + 1 ≤ mc) (hs : slots + 6 ≤ ms) :
    W p l e R s m args below meth c H locs cells slots (vx_MQ below Qc (XX D b0 ws px) args s mc ms (fun q => b0 ≤ q)) (F0 m pc ls rest) := by
  obtain ⟨sa, hsa⟩ := hT.2.2.2 _ hstr
  exact vx_throwS (names := N2) hexec hb hl hown hcls (by decide +kernel) (hts _ hk) (hts _ hini) hsa (vx_hat (fun w h => hts w (hsub w h)) hsb (fun w h => va_Nw.use ((by decide +kernel : ∀ w ∈ castW, w.onTables = true) w h) (hT.2.2.1 w h))) hgood hT.1 hT.2.1 hS hsize d0 d3 d4 d6 d9 (fun x hx => (hno x hx).elim) hRf hRl hRc hRs hlocks (XX_of hpx hP hS) hS.2.2 hc hs
theorem pv_thrW (hexec : p.tables.exec = Jvm.exec) (hb : c.code = cc) (hl : l.stackTraces = false) {ik is ic mc ms b0 : Nat} {text : String} {Ts : List Cond} {px : Nat → Prop} (k : Nat) (hpx : px k) (hts : ∀ w ∈ Ts, w.before args s = true) (hown : s.vm.findClass RX7 = some m.cls)
    (hcls : Bundle.fit (exN k) = true) (hk : Cond.classLink RX7 ik (exN k) ∈ Ts) (hini : Cond.initialized (exN k) ∈ Ts) (hstr : (is, text) ∈ strT) (hsub : ∀ w ∈ (vx_atS RX7 ic (exN k) N2).filter goodWord, w ∈ Ts) (hsb : ∀ w ∈ (vx_atS RX7 ic (exN k) N2).filter (fun w => !goodWord w), w ∈ castW)
    (hgood : ∀ w ∈ Cond.classLink RX7 ik (exN k) :: Cond.initialized (exN k) :: vx_atS RX7 ic (exN k) N2, vx_ot w = true)
    (hT : ThP b0 s) (hP : va_P D vwCl ws H) (hS : va_S (fun q => b0 ≤ q) s.heap H locs) (hsize : ls.size = c.maxLocals)
    (d0 : decode cc pc = .ok (.new ik, 3)) (d3 : decode cc (pc + 3) = .ok (.dup, 1)) (d4 : decode cc (pc + 4) = .ok (.ldc_w is, 3)) (d7 : decode cc (pc + 7) = .ok (.invokespecial ic, 3)) (d10 : decode cc (pc + 10) = .ok (.athrow, 1))
    (hno : ∀ x ∈ c.exceptionTable.toList, False) (hRf : 5 < R.frames) (hRl : (rest.map fun v => v.category).sum + 82 ≤ R.locals) (hRc : cells + 1 ≤ R.cells) (hRs : slots + 6 ≤ R.slots) (hlocks : meth.locks = false) (hc : cells + 1 ≤ mc) (hs : slots + 6 ≤ ms) :
    W p l e R s m args below meth c H locs cells slots (vx_MQ below Qc (XX D b0 ws px) args s mc ms (fun q => b0 ≤ q)) (F0 m pc ls rest) := by
  obtain ⟨sa, hsa⟩ := hT.2.2.2 _ hstr
  exact vx_throwSW (names := N2) hexec hb hl hown hcls (by decide +kernel) (hts _ hk) (hts _ hini) hsa (vx_hat (fun w h => hts w (hsub w h)) hsb (fun w h => va_Nw.use ((by decide +kernel : ∀ w ∈ castW, w.onTables = true) w h) (hT.2.2.1 w h))) hgood hT.1 hT.2.1 hS hsize d0 d3 d4 d7 d10 (fun x hx => (hno x hx).elim) hRf hRl hRc hRs hlocks (XX_of hpx hP hS) hS.2.2 hc hs
/-- a callee has thrown: it goes on to our caller -/
theorem pv_out {b0 k mc ms : Nat} {px : Nat → Prop} {E : String} {ce : Cell} {q : Addr} {t : State} (hpx : px k) (hB : E = exN k ∧ va_P D vwCl ws t.heap) (ht : t.heap = H) (hS : va_S (fun q => b0 ≤ q) s.heap H locs) (hno : ∀ x ∈ c.exceptionTable.toList, False) (hlocks : meth.locks = false) (hcell : H[q]? = some ce) (hv : ce.vm = .none) (hcl : s.vm.findClass E = some ce.cls) (hc : cells ≤ mc) (hs : slots ≤ ms) :
    vx_W p l e R s m args below meth c H locs cells slots (vx_MQ below Qc (XX D b0 ws px) args s mc ms (fun q => b0 ≤ q)) (F0 m pc ls rest) q :=
  vx_out (fun x hx => (hno x hx).elim) hlocks hcell hv hcl (fun t' ht' _ => ⟨k, hpx, ⟨hB.1, by rw [ht', ← ht]; exact hB.2⟩, hS.F ht'⟩) hS.2.2 hc hs
end PT
theorem thr_b0 : ∀ w ∈ (vx_atS RX7 58 (exN 0) N2).filter (fun w => !goodWord w), w ∈ castW := by decide +kernel
theorem thr_b1 : ∀ w ∈ (vx_atS RX7 69 (exN 1) N2).filter (fun w => !goodWord w), w ∈ castW := by decide +kernel
theorem thr_b2 : ∀ w ∈ (vx_atS RX7 197 (exN 2) N2).filter (fun w => !goodWord w), w ∈ castW := by decide +kernel
theorem thr_b3 : ∀ w ∈ (vx_atS RX7 175 (exN 3) N2).filter (fun w => !goodWord w), w ∈ castW := by decide +kernel
theorem thr_b4 : ∀ w ∈ (vx_atS RX7 163 (exN 4) N2).filter (fun w => !goodWord w), w ∈ castW := by decide +kernel
end
section
/-! the refusals, and the calls that only read -/

set_option maxHeartbeats 4000000 in
set_option maxRecDepth 100000 in
/-- checkOwner -/
theorem c_X7_checkOwner (l : Launch) (hl0 : l.stackTraces = false) (D : va_G) (y : Nat → ClassId) (b0 : Nat) (ws : va_W) (a : Int32) : vx_Met l yX7_checkOwner wsX7_checkOwner ({ frames := 6, cells := 1, slots := 6, locals := 82 }) (va_Pc [.int a] (WdM D y b0 (ws))) (va_Qv (fun (u : va_W) => (0 ≤ a ∧ a ≤ 7) ∧ u = ws) (WB D b0) (fun q => b0 ≤ q)) (XX D b0 (ws) (fun k => k = 0 ∧ ¬ (0 ≤ a ∧ a ≤ 7))) 1 6 (fun q => b0 ≤ q) := by
  refine vx_ofW (cc := cX7_checkOwner) (maxL := 1) (ret := none) (by decide) rfl ?_
  intro p e s m args below meth c s₁ B hml hno hv
  obtain ⟨rfl, ⟨hP, hK, hN⟩, hD, hb0, hT⟩ := hv
  have hx := B.exec
  have hb := B.bytes
  have hr := B.returns
  have hts := atoms_spec (ws := wsX7_checkOwner) B.pre
  have hown : s.vm.findClass RX7 = some m.cls := findClass_of_methodNamed B.named
  have hlocks := B.notSynchronized
  have hS : va_S (fun q => b0 ≤ q) s.heap s.heap [] := va_S.rf
  have hl := lv_entry ([.int a]) (n := 1) (Nat.le_of_ble_eq_true rfl)
  rw [lg_entry_eq]
  generalize (lg_sl ([.int a]) ++ List.replicate (1 - (lg_sl ([.int a])).length) Slot.unset).toArray = ls at hl ⊢
  have hl : lv_has ls 1 [(0, .int a)] := hl
  refine lv_iload_n hx hb dX7_checkOwner_0 rfl (lv_at hl 0 rfl) ?_
  refine lv_iconst (v := 0) hx hb dX7_checkOwner_1 (by decide) ?_
  refine lv_bipush (v := 7) hx hb dX7_checkOwner_2 (by decide) ?_
  refine vp_callSi (va_Run.run (va_runS (As := [.int a, .int 0, .int 7]) (rest := []) ⟨hx, hb, hml, hown, hts⟩ (c_X7_isWithin l a 0 7) (va_cwS 3 hts gX7_checkOwner_X7_isWithin rfl rfl rfl (by decide +kernel) ⟨Nat.le_of_ble_eq_true rfl, Nat.le_of_ble_eq_true rfl⟩) ⟨fun _ _ _ _ q => q, fun U hU hW => ⟨rfl, trivial⟩⟩ rfl rfl hl.1 rfl (lv_room (Nat.le_of_ble_eq_true rfl)) dX7_checkOwner_4 ⟨(Nat.le_of_ble_eq_true rfl), (Nat.le_of_ble_eq_true rfl)⟩)) (fun r_4 hr_4 => ?_)
  refine lv_if_ne (tgt := 20) hx hb dX7_checkOwner_7 (by decide) (fun c_7 => ?_) (fun c_7 => ?_)
  · refine W.widen (k := 1) (n := 6) (Nat.le_of_ble_eq_true rfl) (Nat.le_of_ble_eq_true rfl) ?_
    exact vx_ret (W.vret hx hb hr (fun t ht hW => ⟨⟨ws, rfl, ⟨Decidable.byContradiction fun h => c_7 (by rw [hr_4]; exact wI_eq0.mpr h), rfl⟩, by rw [ht]; exact hP, hD⟩, hS.F ht⟩) hS.2.2 dX7_checkOwner_20)
  · exact pv_thr (text := "no such owner") hx hb hl0 0 ⟨rfl, wI_eq0.mp (by rw [← hr_4]; exact c_7)⟩ hts hown (by decide +kernel) (by decide +kernel) (by decide +kernel) (by decide +kernel) (by decide +kernel) thr_b0 (by decide +kernel) hT hP hS (hl.1.trans hml.symm) dX7_checkOwner_10 dX7_checkOwner_13 dX7_checkOwner_14 dX7_checkOwner_16 dX7_checkOwner_19 hno (Nat.le_of_ble_eq_true rfl) (Nat.le_of_ble_eq_true rfl) (Nat.le_of_ble_eq_true rfl) (Nat.le_of_ble_eq_true rfl) hlocks (Nat.le_of_ble_eq_true rfl) (Nat.le_of_ble_eq_true rfl)

set_option maxHeartbeats 4000000 in
set_option maxRecDepth 100000 in
/-- checkKind -/
theorem c_X7_checkKind (l : Launch) (hl0 : l.stackTraces = false) (D : va_G) (y : Nat → ClassId) (b0 : Nat) (ws : va_W) (a : Int32) : vx_Met l yX7_checkKind wsX7_checkKind ({ frames := 6, cells := 1, slots := 6, locals := 82 }) (va_Pc [.int a] (WdM D y b0 (ws))) (va_Qv (fun (u : va_W) => (0 ≤ a ∧ a ≤ 4) ∧ u = ws) (WB D b0) (fun q => b0 ≤ q)) (XX D b0 (ws) (fun k => k = 0 ∧ ¬ (0 ≤ a ∧ a ≤ 4))) 1 6 (fun q => b0 ≤ q) := by
  refine vx_ofW (cc := cX7_checkKind) (maxL := 1) (ret := none) (by decide) rfl ?_
  intro p e s m args below meth c s₁ B hml hno hv
  obtain ⟨rfl, ⟨hP, hK, hN⟩, hD, hb0, hT⟩ := hv
  have hx := B.exec
  have hb := B.bytes
  have hr := B.returns
  have hts := atoms_spec (ws := wsX7_checkKind) B.pre
  have hown : s.vm.findClass RX7 = some m.cls := findClass_of_methodNamed B.named
  have hlocks := B.notSynchronized
  have hS : va_S (fun q => b0 ≤ q) s.heap s.heap [] := va_S.rf
  have hl := lv_entry ([.int a]) (n := 1) (Nat.le_of_ble_eq_true rfl)
  rw [lg_entry_eq]
  generalize (lg_sl ([.int a]) ++ List.replicate (1 - (lg_sl ([.int a])).length) Slot.unset).toArray = ls at hl ⊢
  have hl : lv_has ls 1 [(0, .int a)] := hl
  refine lv_iload_n hx hb dX7_checkKind_0 rfl (lv_at hl 0 rfl) ?_
  refine lv_iconst (v := 0) hx hb dX7_checkKind_1 (by decide) ?_
  refine lv_iconst (v := 4) hx hb dX7_checkKind_2 (by decide) ?_
  refine vp_callSi (va_Run.run (va_runS (As := [.int a, .int 0, .int 4]) (rest := []) ⟨hx, hb, hml, hown, hts⟩ (c_X7_isWithin l a 0 4) (va_cwS 3 hts gX7_checkKind_X7_isWithin rfl rfl rfl (by decide +kernel) ⟨Nat.le_of_ble_eq_true rfl, Nat.le_of_ble_eq_true rfl⟩) ⟨fun _ _ _ _ q => q, fun U hU hW => ⟨rfl, trivial⟩⟩ rfl rfl hl.1 rfl (lv_room (Nat.le_of_ble_eq_true rfl)) dX7_checkKind_3 ⟨(Nat.le_of_ble_eq_true rfl), (Nat.le_of_ble_eq_true rfl)⟩)) (fun r_3 hr_3 => ?_)
  refine lv_if_ne (tgt := 19) hx hb dX7_checkKind_6 (by decide) (fun c_6 => ?_) (fun c_6 => ?_)
  · refine W.widen (k := 1) (n := 6) (Nat.le_of_ble_eq_true rfl) (Nat.le_of_ble_eq_true rfl) ?_
    exact vx_ret (W.vret hx hb hr (fun t ht hW => ⟨⟨ws, rfl, ⟨Decidable.byContradiction fun h => c_6 (by rw [hr_3]; exact wI_eq0.mpr h), rfl⟩, by rw [ht]; exact hP, hD⟩, hS.F ht⟩) hS.2.2 dX7_checkKind_19)
  · exact pv_thr (text := "no such class or kind") hx hb hl0 0 ⟨rfl, wI_eq0.mp (by rw [← hr_3]; exact c_6)⟩ hts hown (by decide +kernel) (by decide +kernel) (by decide +kernel) (by decide +kernel) (by decide +kernel) thr_b0 (by decide +kernel) hT hP hS (hl.1.trans hml.symm) dX7_checkKind_9 dX7_checkKind_12 dX7_checkKind_13 dX7_checkKind_15 dX7_checkKind_18 hno (Nat.le_of_ble_eq_true rfl) (Nat.le_of_ble_eq_true rfl) (Nat.le_of_ble_eq_true rfl) (Nat.le_of_ble_eq_true rfl) hlocks (Nat.le_of_ble_eq_true rfl) (Nat.le_of_ble_eq_true rfl)

set_option maxHeartbeats 4000000 in
set_option maxRecDepth 100000 in
/-- checkDay -/
theorem c_X7_checkDay (l : Launch) (hl0 : l.stackTraces = false) (D : va_G) (y : Nat → ClassId) (b0 : Nat) (ws : va_W) (a : Int32) : vx_Met l yX7_checkDay wsX7_checkDay ({ frames := 6, cells := 1, slots := 6, locals := 82 }) (va_Pc [.int a] (WdM D y b0 (ws))) (va_Qv (fun (u : va_W) => (0 ≤ a ∧ a ≤ 3599) ∧ u = ws) (WB D b0) (fun q => b0 ≤ q)) (XX D b0 (ws) (fun k => k = 0 ∧ ¬ (0 ≤ a ∧ a ≤ 3599))) 1 6 (fun q => b0 ≤ q) := by
  refine vx_ofW (cc := cX7_checkDay) (maxL := 1) (ret := none) (by decide) rfl ?_
  intro p e s m args below meth c s₁ B hml hno hv
  obtain ⟨rfl, ⟨hP, hK, hN⟩, hD, hb0, hT⟩ := hv
  have hx := B.exec
  have hb := B.bytes
  have hr := B.returns
  have hts := atoms_spec (ws := wsX7_checkDay) B.pre
  have hown : s.vm.findClass RX7 = some m.cls := findClass_of_methodNamed B.named
  have hlocks := B.notSynchronized
  have hS : va_S (fun q => b0 ≤ q) s.heap s.heap [] := va_S.rf
  have hl := lv_entry ([.int a]) (n := 1) (Nat.le_of_ble_eq_true rfl)
  rw [lg_entry_eq]
  generalize (lg_sl ([.int a]) ++ List.replicate (1 - (lg_sl ([.int a])).length) Slot.unset).toArray = ls at hl ⊢
  have hl : lv_has ls 1 [(0, .int a)] := hl
  refine lv_iload_n hx hb dX7_checkDay_0 rfl (lv_at hl 0 rfl) ?_
  refine lv_iconst (v := 0) hx hb dX7_checkDay_1 (by decide) ?_
  refine lv_sipush (v := 3599) hx hb dX7_checkDay_2 (by decide) ?_
  refine vp_callSi (va_Run.run (va_runS (As := [.int a, .int 0, .int 3599]) (rest := []) ⟨hx, hb, hml, hown, hts⟩ (c_X7_isWithin l a 0 3599) (va_cwS 3 hts gX7_checkDay_X7_isWithin rfl rfl rfl (by decide +kernel) ⟨Nat.le_of_ble_eq_true rfl, Nat.le_of_ble_eq_true rfl⟩) ⟨fun _ _ _ _ q => q, fun U hU hW => ⟨rfl, trivial⟩⟩ rfl rfl hl.1 rfl (lv_room (Nat.le_of_ble_eq_true rfl)) dX7_checkDay_5 ⟨(Nat.le_of_ble_eq_true rfl), (Nat.le_of_ble_eq_true rfl)⟩)) (fun r_5 hr_5 => ?_)
  refine lv_if_ne (tgt := 21) hx hb dX7_checkDay_8 (by decide) (fun c_8 => ?_) (fun c_8 => ?_)
  · refine W.widen (k := 1) (n := 6) (Nat.le_of_ble_eq_true rfl) (Nat.le_of_ble_eq_true rfl) ?_
    exact vx_ret (W.vret hx hb hr (fun t ht hW => ⟨⟨ws, rfl, ⟨Decidable.byContradiction fun h => c_8 (by rw [hr_5]; exact wI_eq0.mpr h), rfl⟩, by rw [ht]; exact hP, hD⟩, hS.F ht⟩) hS.2.2 dX7_checkDay_21)
  · exact pv_thr (text := "no such day") hx hb hl0 0 ⟨rfl, wI_eq0.mp (by rw [← hr_5]; exact c_8)⟩ hts hown (by decide +kernel) (by decide +kernel) (by decide +kernel) (by decide +kernel) (by decide +kernel) thr_b0 (by decide +kernel) hT hP hS (hl.1.trans hml.symm) dX7_checkDay_11 dX7_checkDay_14 dX7_checkDay_15 dX7_checkDay_17 dX7_checkDay_20 hno (Nat.le_of_ble_eq_true rfl) (Nat.le_of_ble_eq_true rfl) (Nat.le_of_ble_eq_true rfl) (Nat.le_of_ble_eq_true rfl) hlocks (Nat.le_of_ble_eq_true rfl) (Nat.le_of_ble_eq_true rfl)

set_option maxHeartbeats 4000000 in
set_option maxRecDepth 100000 in
/-- checkMonth -/
theorem c_X7_checkMonth (l : Launch) (hl0 : l.stackTraces = false) (D : va_G) (y : Nat → ClassId) (b0 : Nat) (ws : va_W) (a : Int32) : vx_Met l yX7_checkMonth wsX7_checkMonth ({ frames := 6, cells := 1, slots := 6, locals := 82 }) (va_Pc [.int a] (WdM D y b0 (ws))) (va_Qv (fun (u : va_W) => (0 ≤ a ∧ a ≤ 119) ∧ u = ws) (WB D b0) (fun q => b0 ≤ q)) (XX D b0 (ws) (fun k => k = 0 ∧ ¬ (0 ≤ a ∧ a ≤ 119))) 1 6 (fun q => b0 ≤ q) := by
  refine vx_ofW (cc := cX7_checkMonth) (maxL := 1) (ret := none) (by decide) rfl ?_
  intro p e s m args below meth c s₁ B hml hno hv
  obtain ⟨rfl, ⟨hP, hK, hN⟩, hD, hb0, hT⟩ := hv
  have hx := B.exec
  have hb := B.bytes
  have hr := B.returns
  have hts := atoms_spec (ws := wsX7_checkMonth) B.pre
  have hown : s.vm.findClass RX7 = some m.cls := findClass_of_methodNamed B.named
  have hlocks := B.notSynchronized
  have hS : va_S (fun q => b0 ≤ q) s.heap s.heap [] := va_S.rf
  have hl := lv_entry ([.int a]) (n := 1) (Nat.le_of_ble_eq_true rfl)
  rw [lg_entry_eq]
  generalize (lg_sl ([.int a]) ++ List.replicate (1 - (lg_sl ([.int a])).length) Slot.unset).toArray = ls at hl ⊢
  have hl : lv_has ls 1 [(0, .int a)] := hl
  refine lv_iload_n hx hb dX7_checkMonth_0 rfl (lv_at hl 0 rfl) ?_
  refine lv_iconst (v := 0) hx hb dX7_checkMonth_1 (by decide) ?_
  refine lv_bipush (v := 119) hx hb dX7_checkMonth_2 (by decide) ?_
  refine vp_callSi (va_Run.run (va_runS (As := [.int a, .int 0, .int 119]) (rest := []) ⟨hx, hb, hml, hown, hts⟩ (c_X7_isWithin l a 0 119) (va_cwS 3 hts gX7_checkMonth_X7_isWithin rfl rfl rfl (by decide +kernel) ⟨Nat.le_of_ble_eq_true rfl, Nat.le_of_ble_eq_true rfl⟩) ⟨fun _ _ _ _ q => q, fun U hU hW => ⟨rfl, trivial⟩⟩ rfl rfl hl.1 rfl (lv_room (Nat.le_of_ble_eq_true rfl)) dX7_checkMonth_4 ⟨(Nat.le_of_ble_eq_true rfl), (Nat.le_of_ble_eq_true rfl)⟩)) (fun r_4 hr_4 => ?_)
  refine lv_if_ne (tgt := 20) hx hb dX7_checkMonth_7 (by decide) (fun c_7 => ?_) (fun c_7 => ?_)
  · refine W.widen (k := 1) (n := 6) (Nat.le_of_ble_eq_true rfl) (Nat.le_of_ble_eq_true rfl) ?_
    exact vx_ret (W.vret hx hb hr (fun t ht hW => ⟨⟨ws, rfl, ⟨Decidable.byContradiction fun h => c_7 (by rw [hr_4]; exact wI_eq0.mpr h), rfl⟩, by rw [ht]; exact hP, hD⟩, hS.F ht⟩) hS.2.2 dX7_checkMonth_20)
  · exact pv_thr (text := "no such month") hx hb hl0 0 ⟨rfl, wI_eq0.mp (by rw [← hr_4]; exact c_7)⟩ hts hown (by decide +kernel) (by decide +kernel) (by decide +kernel) (by decide +kernel) (by decide +kernel) thr_b0 (by decide +kernel) hT hP hS (hl.1.trans hml.symm) dX7_checkMonth_10 dX7_checkMonth_13 dX7_checkMonth_14 dX7_checkMonth_16 dX7_checkMonth_19 hno (Nat.le_of_ble_eq_true rfl) (Nat.le_of_ble_eq_true rfl) (Nat.le_of_ble_eq_true rfl) (Nat.le_of_ble_eq_true rfl) hlocks (Nat.le_of_ble_eq_true rfl) (Nat.le_of_ble_eq_true rfl)

theorem sw2 (x : Int32) : (x.toInt < 0 ∨ 2 < x.toInt) ∨ x = 0 ∨ x = 1 ∨ x = 2 := by
  by_cases h0 : x < 0
  · exact Or.inl (Or.inl (Int32.lt_iff_toInt_lt.mp h0))
  · by_cases h1 : x ≤ nI 2
    · obtain ⟨j, hj, rfl⟩ := nI_of2 (M := nI 2) (n := 2) (nI_toInt (by decide)) h0 h1
      have hj2 : j = 0 ∨ j = 1 ∨ j = 2 := by omega
      rcases hj2 with rfl | rfl | rfl <;> simp [nI]
    · exact Or.inl (Or.inr (by have h2 := Int32.lt_iff_toInt_lt.mp (Int32.not_le.mp h1); rw [nI_toInt (by decide)] at h2; exact h2))

theorem sw6 (x : Int32) : (x.toInt < 0 ∨ 6 < x.toInt) ∨ x = 0 ∨ x = 1 ∨ x = 2 ∨ x = 3 ∨ x = 4 ∨ x = 5 ∨ x = 6 := by
  by_cases h0 : x < 0
  · exact Or.inl (Or.inl (Int32.lt_iff_toInt_lt.mp h0))
  · by_cases h1 : x ≤ nI 6
    · obtain ⟨j, hj, rfl⟩ := nI_of2 (M := nI 6) (n := 6) (nI_toInt (by decide)) h0 h1
      have hj2 : j = 0 ∨ j = 1 ∨ j = 2 ∨ j = 3 ∨ j = 4 ∨ j = 5 ∨ j = 6 := by omega
      rcases hj2 with rfl | rfl | rfl | rfl | rfl | rfl | rfl <;> simp [nI]
    · exact Or.inl (Or.inr (by have h2 := Int32.lt_iff_toInt_lt.mp (Int32.not_le.mp h1); rw [nI_toInt (by decide)] at h2; exact h2))

theorem sw16 (x : Int32) : (x.toInt < 0 ∨ 16 < x.toInt) ∨ x = 0 ∨ x = 1 ∨ x = 2 ∨ x = 3 ∨ x = 4 ∨ x = 5 ∨ x = 6 ∨ x = 7 ∨ x = 8 ∨ x = 9 ∨ x = 10 ∨ x = 11 ∨ x = 12 ∨ x = 13 ∨ x = 14 ∨ x = 15 ∨ x = 16 := by
  by_cases h0 : x < 0
  · exact Or.inl (Or.inl (Int32.lt_iff_toInt_lt.mp h0))
  · by_cases h1 : x ≤ nI 16
    · obtain ⟨j, hj, rfl⟩ := nI_of2 (M := nI 16) (n := 16) (nI_toInt (by decide)) h0 h1
      have hj2 : j = 0 ∨ j = 1 ∨ j = 2 ∨ j = 3 ∨ j = 4 ∨ j = 5 ∨ j = 6 ∨ j = 7 ∨ j = 8 ∨ j = 9 ∨ j = 10 ∨ j = 11 ∨ j = 12 ∨ j = 13 ∨ j = 14 ∨ j = 15 ∨ j = 16 := by omega
      rcases hj2 with rfl | rfl | rfl | rfl | rfl | rfl | rfl | rfl | rfl | rfl | rfl | rfl | rfl | rfl | rfl | rfl | rfl <;> simp [nI]
    · exact Or.inl (Or.inr (by have h2 := Int32.lt_iff_toInt_lt.mp (Int32.not_le.mp h1); rw [nI_toInt (by decide)] at h2; exact h2))

abbrev inR (a hi : Int32) : Prop := 0 ≤ a ∧ a ≤ hi

set_option maxHeartbeats 4000000 in
set_option maxRecDepth 100000 in
/-- checkUnit -/
theorem c_X7_checkUnit (l : Launch) (hl0 : l.stackTraces = false) (D : va_G) (y : Nat → ClassId) (b0 : Nat) (Ls : List Nat) (ad : Nat → Nat) (G : Nat → va_E) (ch dr : Nat) (hX : XAt Ls ad G ch dr) (nu : Nat) (uo : Nat → Int32) (uf ul : Nat → Nat) (ug : Nat → Int32) (ut : Nat → Nat) (uk ud : Nat → Nat → Int32) (hUs : UnitsAt y Ls ad G nu uo uf ul ug ut uk ud) (a : Int32) : vx_Met l yX7_checkUnit wsX7_checkUnit ({ frames := 6, cells := 1, slots := 6, locals := 82 }) (va_Pc [.ref (ad 0), .int a] (WdM D y b0 (wl Ls ad G))) (va_Qv (fun (u : va_W) => inR a (nI nu - 1) ∧ u = wl Ls ad G) (WB D b0) (fun q => b0 ≤ q)) (XX D b0 (wl Ls ad G) (fun k => k = 2 ∧ ¬ inR a (nI nu - 1))) 1 6 (fun q => b0 ≤ q) := by
  refine vx_ofW (cc := cX7_checkUnit) (maxL := 2) (ret := none) (by decide) rfl ?_
  intro p e s m args below meth c s₁ B hml hno hv
  obtain ⟨rfl, ⟨hP, hK, hN⟩, hD, hb0, hT⟩ := hv
  have hx := B.exec
  have hb := B.bytes
  have hr := B.returns
  have hts := atoms_spec (ws := wsX7_checkUnit) B.pre
  have hown : s.vm.findClass RX7 = some m.cls := findClass_of_methodNamed B.named
  have hlocks := B.notSynchronized
  have hS : va_S (fun q => b0 ≤ q) s.heap s.heap [] := va_S.rf
  have hinX7 : ∀ w ∈ wsX70, w ∈ wsX7_checkUnit := by decide +kernel
  obtain ⟨mc3, ea3, hj3, ej3, hn3, -⟩ := id hUs.1
  have hl := lv_entry ([.ref (ad 0), .int a]) (n := 2) (Nat.le_of_ble_eq_true rfl)
  rw [lg_entry_eq]
  generalize (lg_sl ([.ref (ad 0), .int a]) ++ List.replicate (2 - (lg_sl ([.ref (ad 0), .int a])).length) Slot.unset).toArray = ls at hl ⊢
  have hl : lv_has ls 2 [(0, .ref (ad 0)), (1, .int a)] := hl
  refine lv_iload_n hx hb dX7_checkUnit_0 rfl (lv_at hl 1 rfl) ?_
  refine lv_iconst (v := 0) hx hb dX7_checkUnit_1 (by decide) ?_
  refine lv_aload_n hx hb dX7_checkUnit_2 rfl (lv_at hl 0 rfl) ?_
  refine pv_get (ci := 9) (C := RX7) (T := TX7) (N := 7) hx hb hts hinX7 hown hK hP hX.1 hX.2 rfl 3 (by decide) (hts (.fieldLink RX7 29 "StorageCharge" "units" "Ljava/util/ArrayList;") (by decide +kernel)) (fun _ h9 => h9) rfl dX7_checkUnit_3 ?_
  refine vp_callSi (va_Run.run (va_runV (As := []) (rest := [.int 0, .int a]) ⟨hx, hb, hml, hown, hts⟩ (c_Jx4a65c_size_8abf5 l D y Ls ad G 3 nu (fun i => ad (1000 + 3 * i)) hUs.1) (cwV 0 hts gX7_checkUnit_Jx4a65c_size_8abf5 rfl rfl rfl (by decide +kernel) ⟨Nat.le_of_ble_eq_true rfl, Nat.le_of_ble_eq_true rfl⟩) ⟨Wd_blind, Wd_recv hK hP (ci := 1) rfl hj3 ej3, Wd_at hP hK hN⟩ rfl rfl hl.1 rfl (lv_room (Nat.le_of_ble_eq_true rfl)) dX7_checkUnit_6 ⟨(Nat.le_of_ble_eq_true rfl), (Nat.le_of_ble_eq_true rfl)⟩)) (fun r_6 hr_6 => ?_)
  refine lv_iconst (v := 1) hx hb dX7_checkUnit_9 (by decide) ?_
  refine lv_isub hx hb dX7_checkUnit_10 ?_
  refine vp_callSi (va_Run.run (va_runS (As := [.int a, .int 0, .int (r_6 - 1)]) (rest := []) ⟨hx, hb, hml, hown, hts⟩ (c_X7_isWithin l a 0 (r_6 - 1)) (va_cwS 3 hts gX7_checkUnit_X7_isWithin rfl rfl rfl (by decide +kernel) ⟨Nat.le_of_ble_eq_true rfl, Nat.le_of_ble_eq_true rfl⟩) ⟨fun _ _ _ _ q => q, fun U hU hW => ⟨rfl, trivial⟩⟩ rfl rfl hl.1 rfl (lv_room (Nat.le_of_ble_eq_true rfl)) dX7_checkUnit_11 ⟨(Nat.le_of_ble_eq_true rfl), (Nat.le_of_ble_eq_true rfl)⟩)) (fun r_11 hr_11 => ?_)
  refine lv_if_ne (tgt := 27) hx hb dX7_checkUnit_14 (by decide) (fun c_14 => ?_) (fun c_14 => ?_)
  · refine W.widen (k := 1) (n := 6) (Nat.le_of_ble_eq_true rfl) (Nat.le_of_ble_eq_true rfl) ?_
    exact vx_ret (W.vret hx hb hr (fun t ht hW => ⟨⟨wl Ls ad G, rfl, ⟨by rw [← hr_6]; exact Decidable.byContradiction fun h => c_14 (by rw [hr_11]; exact wI_eq0.mpr h), rfl⟩, by rw [ht]; exact hP, hD⟩, hS.F ht⟩) hS.2.2 dX7_checkUnit_27)
  · exact pv_thr (text := "no such unit") hx hb hl0 2 ⟨rfl, by rw [← hr_6]; exact wI_eq0.mp (by rw [← hr_11]; exact c_14)⟩ hts hown (by decide +kernel) (by decide +kernel) (by decide +kernel) (by decide +kernel) (by decide +kernel) thr_b2 (by decide +kernel) hT hP hS (hl.1.trans hml.symm) dX7_checkUnit_17 dX7_checkUnit_20 dX7_checkUnit_21 dX7_checkUnit_23 dX7_checkUnit_26 hno (Nat.le_of_ble_eq_true rfl) (Nat.le_of_ble_eq_true rfl) (Nat.le_of_ble_eq_true rfl) (Nat.le_of_ble_eq_true rfl) hlocks (Nat.le_of_ble_eq_true rfl) (Nat.le_of_ble_eq_true rfl)

set_option maxHeartbeats 4000000 in
set_option maxRecDepth 100000 in
/-- checkGoesOn -/
theorem c_X7_checkGoesOn (l : Launch) (hl0 : l.stackTraces = false) (D : va_G) (y : Nat → ClassId) (b0 : Nat) (Ls : List Nat) (ad : Nat → Nat) (G : Nat → va_E) (u : Nat) (ow fd ld ig : Int32) (told : Nat) (kf df : Nat → Int32) (hU : UnitAt y Ls ad G u ow fd ld ig told kf df) (day : Int32) : vx_Met l yX7_checkGoesOn wsX7_checkGoesOn ({ frames := 6, cells := 1, slots := 6, locals := 82 }) (va_Pc [.ref (ad u), .int day] (WdM D y b0 (wl Ls ad G))) (va_Qv (fun (v : va_W) => (ig = 0 ∧ df (told - 1) ≤ day) ∧ v = wl Ls ad G) (WB D b0) (fun q => b0 ≤ q)) (XX D b0 (wl Ls ad G) (fun k => k = 3 ∧ (¬ ig = 0 ∨ day < df (told - 1)))) 1 6 (fun q => b0 ≤ q) := by
  refine vx_ofW (cc := cX7_checkGoesOn) (maxL := 2) (ret := none) (by decide) rfl ?_
  intro p e s m args below meth c s₁ B hml hno hv
  obtain ⟨rfl, ⟨hP, hK, hN⟩, hD, hb0, hT⟩ := hv
  have hx := B.exec
  have hb := B.bytes
  have hr := B.returns
  have hts := atoms_spec (ws := wsX7_checkGoesOn) B.pre
  have hown : s.vm.findClass RX7 = some m.cls := findClass_of_methodNamed B.named
  have hlocks := B.notSynchronized
  have hS : va_S (fun q => b0 ≤ q) s.heap s.heap [] := va_S.rf
  have hinX6 : ∀ w ∈ wsX60, w ∈ wsX7_checkGoesOn := by decide +kernel
  obtain ⟨hu, huk, hud, eu, euk, eud, h1, h9⟩ := id hU
  have hl := lv_entry ([.ref (ad u), .int day]) (n := 2) (Nat.le_of_ble_eq_true rfl)
  rw [lg_entry_eq]
  generalize (lg_sl ([.ref (ad u), .int day]) ++ List.replicate (2 - (lg_sl ([.ref (ad u), .int day])).length) Slot.unset).toArray = ls at hl ⊢
  have hl : lv_has ls 2 [(0, .ref (ad u)), (1, .int day)] := hl
  refine lv_aload_n hx hb dX7_checkGoesOn_0 rfl (lv_at hl 0 rfl) ?_
  refine pv_getN (ci := 8) (C := RX6) (T := TX6) (N := 7) hx hb hts hinX6 hown hK hP hu eu rfl 3 (by decide) hN (by decide +kernel : Cond.fieldLinkNest RX7 251 "StorageCharge$Unit" "isGone" "Z" "StorageCharge" ∈ nestW) (fun _ h9 => h9) rfl dX7_checkGoesOn_1 ?_
  refine lv_if_eq (tgt := 17) hx hb dX7_checkGoesOn_4 (by decide) (fun c_4 => ?_) (fun c_4 => ?_)
  · refine lv_iload_n hx hb dX7_checkGoesOn_17 rfl (lv_at hl 1 rfl) ?_
    refine lv_aload_n hx hb dX7_checkGoesOn_18 rfl (lv_at hl 0 rfl) ?_
    refine vp_callSi (va_Run.run (va_runV (As := []) (rest := [.int day]) ⟨hx, hb, hml, hown, hts⟩ (c_X6_dayToldLast l D y Ls ad G u ow fd ld ig told kf df hU) (cwV 0 hts gX7_checkGoesOn_X6_dayToldLast rfl rfl rfl (by decide +kernel) ⟨Nat.le_of_ble_eq_true rfl, Nat.le_of_ble_eq_true rfl⟩) ⟨Wd_blind, Wd_recv hK hP (ci := 8) rfl hu eu, Wd_at hP hK hN⟩ rfl rfl hl.1 rfl (lv_room (Nat.le_of_ble_eq_true rfl)) dX7_checkGoesOn_19 ⟨(Nat.le_of_ble_eq_true rfl), (Nat.le_of_ble_eq_true rfl)⟩)) (fun r_19 hr_19 => ?_)
    refine lv_icmp_ge (tgt := 36) hx hb dX7_checkGoesOn_22 (by decide) (fun c_22 => ?_) (fun c_22 => ?_)
    · refine W.widen (k := 1) (n := 6) (Nat.le_of_ble_eq_true rfl) (Nat.le_of_ble_eq_true rfl) ?_
      exact vx_ret (W.vret hx hb hr (fun t ht hW => ⟨⟨wl Ls ad G, rfl, ⟨⟨c_4, by rw [← hr_19]; exact c_22⟩, rfl⟩, by rw [ht]; exact hP, hD⟩, hS.F ht⟩) hS.2.2 dX7_checkGoesOn_36)
    · exact pv_thrW (text := "the day is before the last one told") hx hb hl0 3 ⟨rfl, Or.inr (by rw [← hr_19]; exact Int32.not_le.mp c_22)⟩ hts hown (by decide +kernel) (by decide +kernel) (by decide +kernel) (by decide +kernel) (by decide +kernel) thr_b3 (by decide +kernel) hT hP hS (hl.1.trans hml.symm) dX7_checkGoesOn_25 dX7_checkGoesOn_28 dX7_checkGoesOn_29 dX7_checkGoesOn_32 dX7_checkGoesOn_35 hno (Nat.le_of_ble_eq_true rfl) (Nat.le_of_ble_eq_true rfl) (Nat.le_of_ble_eq_true rfl) (Nat.le_of_ble_eq_true rfl) hlocks (Nat.le_of_ble_eq_true rfl) (Nat.le_of_ble_eq_true rfl)
  · exact pv_thr (text := "the unit is gone") hx hb hl0 3 ⟨rfl, Or.inl c_4⟩ hts hown (by decide +kernel) (by decide +kernel) (by decide +kernel) (by decide +kernel) (by decide +kernel) thr_b3 (by decide +kernel) hT hP hS (hl.1.trans hml.symm) dX7_checkGoesOn_7 dX7_checkGoesOn_10 dX7_checkGoesOn_11 dX7_checkGoesOn_13 dX7_checkGoesOn_16 hno (Nat.le_of_ble_eq_true rfl) (Nat.le_of_ble_eq_true rfl) (Nat.le_of_ble_eq_true rfl) (Nat.le_of_ble_eq_true rfl) hlocks (Nat.le_of_ble_eq_true rfl) (Nat.le_of_ble_eq_true rfl)

set_option maxHeartbeats 4000000 in
set_option maxRecDepth 100000 in
/-- sum -/
theorem c_X7_sum (l : Launch) (hl0 : l.stackTraces = false) (D : va_G) (y : Nat → ClassId) (b0 : Nat) (Ls : List Nat) (ad : Nat → Nat) (G : Nat → va_E) (ch dr : Nat) (hX : XAt Ls ad G ch dr) (st ha mi dO dD dP : Nat → Int32) (nd : Nat) (li ow : Int32) (hC : ChargesAt y Ls ad G ch st ha mi dO dD dP nd li ow) (nu : Nat) (uo : Nat → Int32) (uf ul : Nat → Nat) (ug : Nat → Int32) (ut : Nat → Nat) (uk ud : Nat → Nat → Int32) (hUs : UnitsAt y Ls ad G nu uo uf ul ug ut uk ud) (nm : Nat) (mo mk md mp : Nat → Int32) (hMs : MovesAt y Ls ad G nm mo mk md mp) (o mo0 : Int32) : vx_Met l yX7_sum wsX7_sum ({ frames := 7, cells := 2, slots := 12, locals := 142 }) (va_Pc [.ref (ad 0), .int o, .int mo0] (WdM D y b0 (wl Ls ad G))) (va_Qi (fun (r : Int32) (u : va_W) => inR o 7 ∧ (∃ m0, m0 < 120 ∧ mo0 = nI m0 ∧ r = sumX st ha mi dO dD dP nd nu uo uf ul ut uk ud nm mo mk md mp o o m0) ∧ u = wl Ls ad G) (WB D b0) (fun q => b0 ≤ q)) (XX D b0 (wl Ls ad G) (fun k => k = 0 ∧ ¬ (inR o 7 ∧ inR mo0 119))) 2 12 (fun q => b0 ≤ q) := by
  refine vx_ofW (cc := cX7_sum) (maxL := 3) (ret := (some .int)) (by decide) rfl ?_
  intro p e s m args below meth c s₁ B hml hno hv
  obtain ⟨rfl, ⟨hP, hK, hN⟩, hD, hb0, hT⟩ := hv
  have hx := B.exec
  have hb := B.bytes
  have hr := B.returns
  have hts := atoms_spec (ws := wsX7_sum) B.pre
  have hown : s.vm.findClass RX7 = some m.cls := findClass_of_methodNamed B.named
  have hlocks := B.notSynchronized
  have hS : va_S (fun q => b0 ≤ q) s.heap s.heap [] := va_S.rf
  have hl := lv_entry ([.ref (ad 0), .int o, .int mo0]) (n := 3) (Nat.le_of_ble_eq_true rfl)
  rw [lg_entry_eq]
  generalize (lg_sl ([.ref (ad 0), .int o, .int mo0]) ++ List.replicate (3 - (lg_sl ([.ref (ad 0), .int o, .int mo0])).length) Slot.unset).toArray = ls at hl ⊢
  have hl : lv_has ls 3 [(0, .ref (ad 0)), (1, .int o), (2, .int mo0)] := hl
  refine lv_iload_n hx hb dX7_sum_0 rfl (lv_at hl 1 rfl) ?_
  refine vx_callv (vx_runS (As := [.int o]) (rest := []) ⟨hx, hb, hml, hown, hts⟩ (c_X7_checkOwner l hl0 D y b0 (wl Ls ad G) o) (va_cwS 1 hts gX7_sum_X7_checkOwner rfl rfl rfl (by decide +kernel) ⟨(Nat.le_of_ble_eq_true rfl), (Nat.le_of_ble_eq_true rfl)⟩) ⟨WdM_blind, WdM_at hP hK hN hD hS hb0 hT⟩ rfl rfl hl.1 rfl (lv_room (Nat.le_of_ble_eq_true rfl)) dX7_sum_1 ⟨(Nat.le_of_ble_eq_true rfl), (Nat.le_of_ble_eq_true rfl)⟩) hS (fun _ _ h => h) (fun _ h => h) (fun _ _ h => h) (fun E9 ce9 q9 k9 t9 H9 locs9 ht9 hvm9 hp9 hB9 hz9 hk9 hS9 hce9 hcv9 hcl9 => pv_out (⟨hp9.1, fun h => hp9.2 h.1⟩) hB9 ht9 hS9 hno hlocks hce9 hcv9 hcl9 (Nat.le_of_ble_eq_true rfl) (Nat.le_of_ble_eq_true rfl)) (fun u1 t H locs ht hvm hw1 hB hz1 hk1 hS => ?_)
  obtain ⟨hP, hD⟩ := hB
  rw [ht] at hP
  obtain ⟨hw1, rfl⟩ := hw1
  refine lv_iload_n hx hb dX7_sum_4 rfl (lv_at hl 2 rfl) ?_
  refine vx_callv (vx_runS (As := [.int mo0]) (rest := []) ⟨hx, hb, hml, hown, hts⟩ (c_X7_checkMonth l hl0 D y b0 (wl Ls ad G) mo0) (va_cwS 1 hts gX7_sum_X7_checkMonth rfl rfl rfl (by decide +kernel) ⟨(Nat.le_of_ble_eq_true rfl), (Nat.le_of_ble_eq_true rfl)⟩) ⟨WdM_blind, WdM_at hP hK hN hD hS hb0 hT⟩ rfl rfl hl.1 rfl (lv_room (Nat.le_of_ble_eq_true rfl)) dX7_sum_5 ⟨(Nat.le_of_ble_eq_true rfl), (Nat.le_of_ble_eq_true rfl)⟩) hS (fun _ _ h => h) (fun _ h => h) (fun _ _ h => h) (fun E9 ce9 q9 k9 t9 H9 locs9 ht9 hvm9 hp9 hB9 hz9 hk9 hS9 hce9 hcv9 hcl9 => pv_out (⟨hp9.1, fun h => hp9.2 h.2⟩) hB9 ht9 hS9 hno hlocks hce9 hcv9 hcl9 (Nat.le_of_ble_eq_true rfl) (Nat.le_of_ble_eq_true rfl)) (fun u5 t H locs ht hvm hw5 hB hz1 hk1 hS => ?_)
  obtain ⟨hP, hD⟩ := hB
  rw [ht] at hP
  obtain ⟨hw5, rfl⟩ := hw5
  obtain ⟨m0, hm, rfl⟩ := within_nI (n := 120) (by decide) (by decide) hw5
  refine lv_aload_n hx hb dX7_sum_8 rfl (lv_at hl 0 rfl) ?_
  refine lv_iload_n hx hb dX7_sum_9 rfl (lv_at hl 1 rfl) ?_
  refine lv_iload_n hx hb dX7_sum_10 rfl (lv_at hl 1 rfl) ?_
  refine lv_iload_n hx hb dX7_sum_11 rfl (lv_at hl 2 rfl) ?_
  refine vp_callSi (va_Run.run (va_runV (As := [.int o, .int o, .int (nI m0)]) (rest := []) ⟨hx, hb, hml, hown, hts⟩ (c_X7_sumBy l D y Ls ad G ch dr hX st ha mi dO dD dP nd li ow hC nu uo uf ul ug ut uk ud hUs nm mo mk md mp hMs o o m0 hm) (cwV 3 hts gX7_sum_X7_sumBy rfl rfl rfl (by decide +kernel) ⟨Nat.le_of_ble_eq_true rfl, Nat.le_of_ble_eq_true rfl⟩) ⟨Wd_blind, Wd_recv hK hP (ci := 9) rfl hX.1 hX.2, Wd_at hP hK hN⟩ rfl rfl hl.1 rfl (lv_room (Nat.le_of_ble_eq_true rfl)) dX7_sum_12 ⟨(Nat.le_of_ble_eq_true rfl), (Nat.le_of_ble_eq_true rfl)⟩)) (fun r_12 hr_12 => ?_)
  refine W.widen (k := 2) (n := 12) (Nat.le_of_ble_eq_true rfl) (Nat.le_of_ble_eq_true rfl) ?_
  exact vx_ret (W.iret (v := r_12) hx hb hr (fun t ht hW => ⟨⟨r_12, wl Ls ad G, rfl, ⟨hw1, ⟨m0, hm, rfl, hr_12⟩, rfl⟩, by rw [ht]; exact hP, hD⟩, hS.F ht⟩) hS.2.2 dX7_sum_15)

set_option maxHeartbeats 4000000 in
set_option maxRecDepth 100000 in
/-- days -/
theorem c_X7_days (l : Launch) (hl0 : l.stackTraces = false) (D : va_G) (y : Nat → ClassId) (b0 : Nat) (Ls : List Nat) (ad : Nat → Nat) (G : Nat → va_E) (ch dr : Nat) (hX : XAt Ls ad G ch dr) (nu : Nat) (uo : Nat → Int32) (uf ul : Nat → Nat) (ug : Nat → Int32) (ut : Nat → Nat) (uk ud : Nat → Nat → Int32) (hUs : UnitsAt y Ls ad G nu uo uf ul ug ut uk ud) (o mo0 : Int32) : vx_Met l yX7_days wsX7_days ({ frames := 7, cells := 2, slots := 12, locals := 102 }) (va_Pc [.ref (ad 0), .int o, .int mo0] (WdM D y b0 (wl Ls ad G))) (va_Qi (fun (r : Int32) (u : va_W) => inR o 7 ∧ (∃ m0, m0 < 120 ∧ mo0 = nI m0 ∧ r = sumO uo o (fun q => dTh (nI m0) (uf q) (ul q)) nu) ∧ u = wl Ls ad G) (WB D b0) (fun q => b0 ≤ q)) (XX D b0 (wl Ls ad G) (fun k => k = 0 ∧ ¬ (inR o 7 ∧ inR mo0 119))) 2 12 (fun q => b0 ≤ q) := by
  refine vx_ofW (cc := cX7_days) (maxL := 3) (ret := (some .int)) (by decide) rfl ?_
  intro p e s m args below meth c s₁ B hml hno hv
  obtain ⟨rfl, ⟨hP, hK, hN⟩, hD, hb0, hT⟩ := hv
  have hx := B.exec
  have hb := B.bytes
  have hr := B.returns
  have hts := atoms_spec (ws := wsX7_days) B.pre
  have hown : s.vm.findClass RX7 = some m.cls := findClass_of_methodNamed B.named
  have hlocks := B.notSynchronized
  have hS : va_S (fun q => b0 ≤ q) s.heap s.heap [] := va_S.rf
  have hl := lv_entry ([.ref (ad 0), .int o, .int mo0]) (n := 3) (Nat.le_of_ble_eq_true rfl)
  rw [lg_entry_eq]
  generalize (lg_sl ([.ref (ad 0), .int o, .int mo0]) ++ List.replicate (3 - (lg_sl ([.ref (ad 0), .int o, .int mo0])).length) Slot.unset).toArray = ls at hl ⊢
  have hl : lv_has ls 3 [(0, .ref (ad 0)), (1, .int o), (2, .int mo0)] := hl
  refine lv_iload_n hx hb dX7_days_0 rfl (lv_at hl 1 rfl) ?_
  refine vx_callv (vx_runS (As := [.int o]) (rest := []) ⟨hx, hb, hml, hown, hts⟩ (c_X7_checkOwner l hl0 D y b0 (wl Ls ad G) o) (va_cwS 1 hts gX7_days_X7_checkOwner rfl rfl rfl (by decide +kernel) ⟨(Nat.le_of_ble_eq_true rfl), (Nat.le_of_ble_eq_true rfl)⟩) ⟨WdM_blind, WdM_at hP hK hN hD hS hb0 hT⟩ rfl rfl hl.1 rfl (lv_room (Nat.le_of_ble_eq_true rfl)) dX7_days_1 ⟨(Nat.le_of_ble_eq_true rfl), (Nat.le_of_ble_eq_true rfl)⟩) hS (fun _ _ h => h) (fun _ h => h) (fun _ _ h => h) (fun E9 ce9 q9 k9 t9 H9 locs9 ht9 hvm9 hp9 hB9 hz9 hk9 hS9 hce9 hcv9 hcl9 => pv_out (⟨hp9.1, fun h => hp9.2 h.1⟩) hB9 ht9 hS9 hno hlocks hce9 hcv9 hcl9 (Nat.le_of_ble_eq_true rfl) (Nat.le_of_ble_eq_true rfl)) (fun u1 t H locs ht hvm hw1 hB hz1 hk1 hS => ?_)
  obtain ⟨hP, hD⟩ := hB
  rw [ht] at hP
  obtain ⟨hw1, rfl⟩ := hw1
  refine lv_iload_n hx hb dX7_days_4 rfl (lv_at hl 2 rfl) ?_
  refine vx_callv (vx_runS (As := [.int mo0]) (rest := []) ⟨hx, hb, hml, hown, hts⟩ (c_X7_checkMonth l hl0 D y b0 (wl Ls ad G) mo0) (va_cwS 1 hts gX7_days_X7_checkMonth rfl rfl rfl (by decide +kernel) ⟨(Nat.le_of_ble_eq_true rfl), (Nat.le_of_ble_eq_true rfl)⟩) ⟨WdM_blind, WdM_at hP hK hN hD hS hb0 hT⟩ rfl rfl hl.1 rfl (lv_room (Nat.le_of_ble_eq_true rfl)) dX7_days_5 ⟨(Nat.le_of_ble_eq_true rfl), (Nat.le_of_ble_eq_true rfl)⟩) hS (fun _ _ h => h) (fun _ h => h) (fun _ _ h => h) (fun E9 ce9 q9 k9 t9 H9 locs9 ht9 hvm9 hp9 hB9 hz9 hk9 hS9 hce9 hcv9 hcl9 => pv_out (⟨hp9.1, fun h => hp9.2 h.2⟩) hB9 ht9 hS9 hno hlocks hce9 hcv9 hcl9 (Nat.le_of_ble_eq_true rfl) (Nat.le_of_ble_eq_true rfl)) (fun u5 t H locs ht hvm hw5 hB hz1 hk1 hS => ?_)
  obtain ⟨hP, hD⟩ := hB
  rw [ht] at hP
  obtain ⟨hw5, rfl⟩ := hw5
  obtain ⟨m0, hm, rfl⟩ := within_nI (n := 120) (by decide) (by decide) hw5
  refine lv_aload_n hx hb dX7_days_8 rfl (lv_at hl 0 rfl) ?_
  refine lv_iload_n hx hb dX7_days_9 rfl (lv_at hl 1 rfl) ?_
  refine lv_iload_n hx hb dX7_days_10 rfl (lv_at hl 2 rfl) ?_
  refine vp_callSi (va_Run.run (va_runV (As := [.int o, .int (nI m0)]) (rest := []) ⟨hx, hb, hml, hown, hts⟩ (c_X7_unitDays l D y Ls ad G ch dr hX nu uo uf ul ug ut uk ud hUs o (nI m0)) (cwV 2 hts gX7_days_X7_unitDays rfl rfl rfl (by decide +kernel) ⟨Nat.le_of_ble_eq_true rfl, Nat.le_of_ble_eq_true rfl⟩) ⟨Wd_blind, Wd_recv hK hP (ci := 9) rfl hX.1 hX.2, Wd_at hP hK hN⟩ rfl rfl hl.1 rfl (lv_room (Nat.le_of_ble_eq_true rfl)) dX7_days_11 ⟨(Nat.le_of_ble_eq_true rfl), (Nat.le_of_ble_eq_true rfl)⟩)) (fun r_11 hr_11 => ?_)
  refine W.widen (k := 2) (n := 12) (Nat.le_of_ble_eq_true rfl) (Nat.le_of_ble_eq_true rfl) ?_
  exact vx_ret (W.iret (v := r_11) hx hb hr (fun t ht hW => ⟨⟨r_11, wl Ls ad G, rfl, ⟨hw1, ⟨m0, hm, rfl, hr_11⟩, rfl⟩, by rw [ht]; exact hP, hD⟩, hS.F ht⟩) hS.2.2 dX7_days_14)

set_option maxHeartbeats 4000000 in
set_option maxRecDepth 100000 in
/-- average -/
theorem c_X7_average (l : Launch) (hl0 : l.stackTraces = false) (D : va_G) (y : Nat → ClassId) (b0 : Nat) (Ls : List Nat) (ad : Nat → Nat) (G : Nat → va_E) (ch dr : Nat) (hX : XAt Ls ad G ch dr) (st ha mi dO dD dP : Nat → Int32) (nd : Nat) (li ow : Int32) (hC : ChargesAt y Ls ad G ch st ha mi dO dD dP nd li ow) (nu : Nat) (uo : Nat → Int32) (uf ul : Nat → Nat) (ug : Nat → Int32) (ut : Nat → Nat) (uk ud : Nat → Nat → Int32) (hUs : UnitsAt y Ls ad G nu uo uf ul ug ut uk ud) (o mo0 : Int32) : vx_Met l yX7_average wsX7_average ({ frames := 7, cells := 3, slots := 18, locals := 118 }) (va_Pc [.ref (ad 0), .int o, .int mo0] (WdM D y b0 (wl Ls ad G))) (va_Qi (fun (r : Int32) (u : va_W) => inR o 7 ∧ (∃ m0, m0 < 120 ∧ mo0 = nI m0 ∧ ¬ sumO uo o (fun q => dTh (nI m0) (uf q) (ul q)) nu = 0 ∧ r = stoA st dO dD dP nd nu uo uf ul ut uk ud o o m0 / sumO uo o (fun q => dTh (nI m0) (uf q) (ul q)) nu) ∧ u = wl Ls ad G) (WB D b0) (fun q => b0 ≤ q)) (XX D b0 (wl Ls ad G) (fun k => (k = 0 ∧ ¬ (inR o 7 ∧ inR mo0 119)) ∨ (k = 4 ∧ inR o 7 ∧ ∃ m0, m0 < 120 ∧ mo0 = nI m0 ∧ sumO uo o (fun q => dTh (nI m0) (uf q) (ul q)) nu = 0))) 3 18 (fun q => b0 ≤ q) := by
  refine vx_ofW (cc := cX7_average) (maxL := 4) (ret := (some .int)) (by decide) rfl ?_
  intro p e s m args below meth c s₁ B hml hno hv
  obtain ⟨rfl, ⟨hP, hK, hN⟩, hD, hb0, hT⟩ := hv
  have hx := B.exec
  have hb := B.bytes
  have hr := B.returns
  have hts := atoms_spec (ws := wsX7_average) B.pre
  have hown : s.vm.findClass RX7 = some m.cls := findClass_of_methodNamed B.named
  have hlocks := B.notSynchronized
  have hS : va_S (fun q => b0 ≤ q) s.heap s.heap [] := va_S.rf
  have hl := lv_entry ([.ref (ad 0), .int o, .int mo0]) (n := 4) (Nat.le_of_ble_eq_true rfl)
  rw [lg_entry_eq]
  generalize (lg_sl ([.ref (ad 0), .int o, .int mo0]) ++ List.replicate (4 - (lg_sl ([.ref (ad 0), .int o, .int mo0])).length) Slot.unset).toArray = ls at hl ⊢
  have hl : lv_has ls 4 [(0, .ref (ad 0)), (1, .int o), (2, .int mo0)] := hl
  refine lv_iload_n hx hb dX7_average_0 rfl (lv_at hl 1 rfl) ?_
  refine vx_callv (vx_runS (As := [.int o]) (rest := []) ⟨hx, hb, hml, hown, hts⟩ (c_X7_checkOwner l hl0 D y b0 (wl Ls ad G) o) (va_cwS 1 hts gX7_average_X7_checkOwner rfl rfl rfl (by decide +kernel) ⟨(Nat.le_of_ble_eq_true rfl), (Nat.le_of_ble_eq_true rfl)⟩) ⟨WdM_blind, WdM_at hP hK hN hD hS hb0 hT⟩ rfl rfl hl.1 rfl (lv_room (Nat.le_of_ble_eq_true rfl)) dX7_average_1 ⟨(Nat.le_of_ble_eq_true rfl), (Nat.le_of_ble_eq_true rfl)⟩) hS (fun _ _ h => h) (fun _ h => h) (fun _ _ h => h) (fun E9 ce9 q9 k9 t9 H9 locs9 ht9 hvm9 hp9 hB9 hz9 hk9 hS9 hce9 hcv9 hcl9 => pv_out (Or.inl ⟨hp9.1, fun h => hp9.2 h.1⟩) hB9 ht9 hS9 hno hlocks hce9 hcv9 hcl9 (Nat.le_of_ble_eq_true rfl) (Nat.le_of_ble_eq_true rfl)) (fun u1 t H locs ht hvm hw1 hB hz1 hk1 hS => ?_)
  obtain ⟨hP, hD⟩ := hB
  rw [ht] at hP
  obtain ⟨hw1, rfl⟩ := hw1
  refine lv_iload_n hx hb dX7_average_4 rfl (lv_at hl 2 rfl) ?_
  refine vx_callv (vx_runS (As := [.int mo0]) (rest := []) ⟨hx, hb, hml, hown, hts⟩ (c_X7_checkMonth l hl0 D y b0 (wl Ls ad G) mo0) (va_cwS 1 hts gX7_average_X7_checkMonth rfl rfl rfl (by decide +kernel) ⟨(Nat.le_of_ble_eq_true rfl), (Nat.le_of_ble_eq_true rfl)⟩) ⟨WdM_blind, WdM_at hP hK hN hD hS hb0 hT⟩ rfl rfl hl.1 rfl (lv_room (Nat.le_of_ble_eq_true rfl)) dX7_average_5 ⟨(Nat.le_of_ble_eq_true rfl), (Nat.le_of_ble_eq_true rfl)⟩) hS (fun _ _ h => h) (fun _ h => h) (fun _ _ h => h) (fun E9 ce9 q9 k9 t9 H9 locs9 ht9 hvm9 hp9 hB9 hz9 hk9 hS9 hce9 hcv9 hcl9 => pv_out (Or.inl ⟨hp9.1, fun h => hp9.2 h.2⟩) hB9 ht9 hS9 hno hlocks hce9 hcv9 hcl9 (Nat.le_of_ble_eq_true rfl) (Nat.le_of_ble_eq_true rfl)) (fun u5 t H locs ht hvm hw5 hB hz1 hk1 hS => ?_)
  obtain ⟨hP, hD⟩ := hB
  rw [ht] at hP
  obtain ⟨hw5, rfl⟩ := hw5
  obtain ⟨m0, hm, rfl⟩ := within_nI (n := 120) (by decide) (by decide) hw5
  refine lv_aload_n hx hb dX7_average_8 rfl (lv_at hl 0 rfl) ?_
  refine lv_iload_n hx hb dX7_average_9 rfl (lv_at hl 1 rfl) ?_
  refine lv_iload_n hx hb dX7_average_10 rfl (lv_at hl 2 rfl) ?_
  refine vp_callSi (va_Run.run (va_runV (As := [.int o, .int (nI m0)]) (rest := []) ⟨hx, hb, hml, hown, hts⟩ (c_X7_unitDays l D y Ls ad G ch dr hX nu uo uf ul ug ut uk ud hUs o (nI m0)) (cwV 2 hts gX7_average_X7_unitDays rfl rfl rfl (by decide +kernel) ⟨Nat.le_of_ble_eq_true rfl, Nat.le_of_ble_eq_true rfl⟩) ⟨Wd_blind, Wd_recv hK hP (ci := 9) rfl hX.1 hX.2, Wd_at hP hK hN⟩ rfl rfl hl.1 rfl (lv_room (Nat.le_of_ble_eq_true rfl)) dX7_average_11 ⟨(Nat.le_of_ble_eq_true rfl), (Nat.le_of_ble_eq_true rfl)⟩)) (fun r_11 hr_11 => ?_)
  refine lv_istore_n (lv' := [(3, .int r_11), (0, .ref (ad 0)), (1, .int o), (2, .int (nI m0))]) hx hb dX7_average_14 rfl hl (by decide) rfl (fun ls hl => ?_)
  refine lv_iload_n hx hb dX7_average_15 rfl (lv_at hl 0 rfl) ?_
  refine lv_if_ne (tgt := 29) hx hb dX7_average_16 (by decide) (fun c_16 => ?_) (fun c_16 => ?_)
  · refine lv_aload_n hx hb dX7_average_29 rfl (lv_at hl 1 rfl) ?_
    refine lv_iload_n hx hb dX7_average_30 rfl (lv_at hl 2 rfl) ?_
    refine lv_iload_n hx hb dX7_average_31 rfl (lv_at hl 2 rfl) ?_
    refine lv_iload_n hx hb dX7_average_32 rfl (lv_at hl 3 rfl) ?_
    refine vp_callSi (va_Run.run (va_runV (As := [.int o, .int o, .int (nI m0)]) (rest := []) ⟨hx, hb, hml, hown, hts⟩ (c_X7_storageBy l D y Ls ad G ch dr hX st ha mi dO dD dP nd li ow hC nu uo uf ul ug ut uk ud hUs o o m0 hm) (cwV 3 hts gX7_average_X7_storageBy rfl rfl rfl (by decide +kernel) ⟨Nat.le_of_ble_eq_true rfl, Nat.le_of_ble_eq_true rfl⟩) ⟨Wd_blind, Wd_recv hK hP (ci := 9) rfl hX.1 hX.2, Wd_at hP hK hN⟩ rfl rfl hl.1 rfl (lv_room (Nat.le_of_ble_eq_true rfl)) dX7_average_33 ⟨(Nat.le_of_ble_eq_true rfl), (Nat.le_of_ble_eq_true rfl)⟩)) (fun r_33 hr_33 => ?_)
    refine lv_iload_n hx hb dX7_average_36 rfl (lv_at hl 0 rfl) ?_
    refine lv_idiv hx hb dX7_average_37 (c_16) ?_
    refine W.widen (k := 3) (n := 18) (Nat.le_of_ble_eq_true rfl) (Nat.le_of_ble_eq_true rfl) ?_
    exact vx_ret (W.iret (v := (r_33 / r_11)) hx hb hr (fun t ht hW => ⟨⟨(r_33 / r_11), wl Ls ad G, rfl, ⟨hw1, ⟨m0, hm, rfl, by rw [← hr_11]; exact c_16, by rw [hr_33, hr_11]⟩, rfl⟩, by rw [ht]; exact hP, hD⟩, hS.F ht⟩) hS.2.2 dX7_average_38)
  · exact pv_thr (text := "no unit-days") hx hb hl0 4 (Or.inr ⟨rfl, hw1, m0, hm, rfl, by rw [← hr_11]; exact c_16⟩) hts hown (by decide +kernel) (by decide +kernel) (by decide +kernel) (by decide +kernel) (by decide +kernel) thr_b4 (by decide +kernel) hT hP hS (hl.1.trans hml.symm) dX7_average_19 dX7_average_22 dX7_average_23 dX7_average_25 dX7_average_28 hno (Nat.le_of_ble_eq_true rfl) (Nat.le_of_ble_eq_true rfl) (Nat.le_of_ble_eq_true rfl) (Nat.le_of_ble_eq_true rfl) hlocks (Nat.le_of_ble_eq_true rfl) (Nat.le_of_ble_eq_true rfl)

set_option maxHeartbeats 4000000 in
set_option maxRecDepth 100000 in
/-- compare -/
theorem c_X7_compare (l : Launch) (hl0 : l.stackTraces = false) (D : va_G) (y : Nat → ClassId) (b0 : Nat) (Ls : List Nat) (ad : Nat → Nat) (G : Nat → va_E) (ch dr : Nat) (hX : XAt Ls ad G ch dr) (st ha mi dO dD dP : Nat → Int32) (nd : Nat) (li ow : Int32) (hC : ChargesAt y Ls ad G ch st ha mi dO dD dP nd li ow) (nu : Nat) (uo : Nat → Int32) (uf ul : Nat → Nat) (ug : Nat → Int32) (ut : Nat → Nat) (uk ud : Nat → Nat → Int32) (hUs : UnitsAt y Ls ad G nu uo uf ul ug ut uk ud) (nm : Nat) (mo mk md mp : Nat → Int32) (hMs : MovesAt y Ls ad G nm mo mk md mp) (o q mo0 : Int32) : vx_Met l yX7_compare wsX7_compare ({ frames := 7, cells := 3, slots := 18, locals := 142 }) (va_Pc [.ref (ad 0), .int o, .int q, .int mo0] (WdM D y b0 (wl Ls ad G))) (va_Qi (fun (r : Int32) (u : va_W) => inR o 7 ∧ inR q 7 ∧ (∃ m0, m0 < 120 ∧ mo0 = nI m0 ∧ r = sumX st ha mi dO dD dP nd nu uo uf ul ut uk ud nm mo mk md mp q o m0 - sumX st ha mi dO dD dP nd nu uo uf ul ut uk ud nm mo mk md mp o o m0) ∧ u = wl Ls ad G) (WB D b0) (fun q => b0 ≤ q)) (XX D b0 (wl Ls ad G) (fun k => k = 0 ∧ ¬ (inR o 7 ∧ inR q 7 ∧ inR mo0 119))) 3 18 (fun q => b0 ≤ q) := by
  refine vx_ofW (cc := cX7_compare) (maxL := 4) (ret := (some .int)) (by decide) rfl ?_
  intro p e s m args below meth c s₁ B hml hno hv
  obtain ⟨rfl, ⟨hP, hK, hN⟩, hD, hb0, hT⟩ := hv
  have hx := B.exec
  have hb := B.bytes
  have hr := B.returns
  have hts := atoms_spec (ws := wsX7_compare) B.pre
  have hown : s.vm.findClass RX7 = some m.cls := findClass_of_methodNamed B.named
  have hlocks := B.notSynchronized
  have hS : va_S (fun q => b0 ≤ q) s.heap s.heap [] := va_S.rf
  have hl := lv_entry ([.ref (ad 0), .int o, .int q, .int mo0]) (n := 4) (Nat.le_of_ble_eq_true rfl)
  rw [lg_entry_eq]
  generalize (lg_sl ([.ref (ad 0), .int o, .int q, .int mo0]) ++ List.replicate (4 - (lg_sl ([.ref (ad 0), .int o, .int q, .int mo0])).length) Slot.unset).toArray = ls at hl ⊢
  have hl : lv_has ls 4 [(0, .ref (ad 0)), (1, .int o), (2, .int q), (3, .int mo0)] := hl
  refine lv_iload_n hx hb dX7_compare_0 rfl (lv_at hl 1 rfl) ?_
  refine vx_callv (vx_runS (As := [.int o]) (rest := []) ⟨hx, hb, hml, hown, hts⟩ (c_X7_checkOwner l hl0 D y b0 (wl Ls ad G) o) (va_cwS 1 hts gX7_compare_X7_checkOwner rfl rfl rfl (by decide +kernel) ⟨(Nat.le_of_ble_eq_true rfl), (Nat.le_of_ble_eq_true rfl)⟩) ⟨WdM_blind, WdM_at hP hK hN hD hS hb0 hT⟩ rfl rfl hl.1 rfl (lv_room (Nat.le_of_ble_eq_true rfl)) dX7_compare_1 ⟨(Nat.le_of_ble_eq_true rfl), (Nat.le_of_ble_eq_true rfl)⟩) hS (fun _ _ h => h) (fun _ h => h) (fun _ _ h => h) (fun E9 ce9 q9 k9 t9 H9 locs9 ht9 hvm9 hp9 hB9 hz9 hk9 hS9 hce9 hcv9 hcl9 => pv_out (⟨hp9.1, fun h => hp9.2 h.1⟩) hB9 ht9 hS9 hno hlocks hce9 hcv9 hcl9 (Nat.le_of_ble_eq_true rfl) (Nat.le_of_ble_eq_true rfl)) (fun u1 t H locs ht hvm hw1 hB hz1 hk1 hS => ?_)
  obtain ⟨hP, hD⟩ := hB
  rw [ht] at hP
  obtain ⟨hw1, rfl⟩ := hw1
  refine lv_iload_n hx hb dX7_compare_4 rfl (lv_at hl 2 rfl) ?_
  refine vx_callv (vx_runS (As := [.int q]) (rest := []) ⟨hx, hb, hml, hown, hts⟩ (c_X7_checkOwner l hl0 D y b0 (wl Ls ad G) q) (va_cwS 1 hts gX7_compare_X7_checkOwner rfl rfl rfl (by decide +kernel) ⟨(Nat.le_of_ble_eq_true rfl), (Nat.le_of_ble_eq_true rfl)⟩) ⟨WdM_blind, WdM_at hP hK hN hD hS hb0 hT⟩ rfl rfl hl.1 rfl (lv_room (Nat.le_of_ble_eq_true rfl)) dX7_compare_5 ⟨(Nat.le_of_ble_eq_true rfl), (Nat.le_of_ble_eq_true rfl)⟩) hS (fun _ _ h => h) (fun _ h => h) (fun _ _ h => h) (fun E9 ce9 q9 k9 t9 H9 locs9 ht9 hvm9 hp9 hB9 hz9 hk9 hS9 hce9 hcv9 hcl9 => pv_out (⟨hp9.1, fun h => hp9.2 h.2.1⟩) hB9 ht9 hS9 hno hlocks hce9 hcv9 hcl9 (Nat.le_of_ble_eq_true rfl) (Nat.le_of_ble_eq_true rfl)) (fun u5 t H locs ht hvm hw5 hB hz1 hk1 hS => ?_)
  obtain ⟨hP, hD⟩ := hB
  rw [ht] at hP
  obtain ⟨hw5, rfl⟩ := hw5
  refine lv_iload_n hx hb dX7_compare_8 rfl (lv_at hl 3 rfl) ?_
  refine vx_callv (vx_runS (As := [.int mo0]) (rest := []) ⟨hx, hb, hml, hown, hts⟩ (c_X7_checkMonth l hl0 D y b0 (wl Ls ad G) mo0) (va_cwS 1 hts gX7_compare_X7_checkMonth rfl rfl rfl (by decide +kernel) ⟨(Nat.le_of_ble_eq_true rfl), (Nat.le_of_ble_eq_true rfl)⟩) ⟨WdM_blind, WdM_at hP hK hN hD hS hb0 hT⟩ rfl rfl hl.1 rfl (lv_room (Nat.le_of_ble_eq_true rfl)) dX7_compare_9 ⟨(Nat.le_of_ble_eq_true rfl), (Nat.le_of_ble_eq_true rfl)⟩) hS (fun _ _ h => h) (fun _ h => h) (fun _ _ h => h) (fun E9 ce9 q9 k9 t9 H9 locs9 ht9 hvm9 hp9 hB9 hz9 hk9 hS9 hce9 hcv9 hcl9 => pv_out (⟨hp9.1, fun h => hp9.2 h.2.2⟩) hB9 ht9 hS9 hno hlocks hce9 hcv9 hcl9 (Nat.le_of_ble_eq_true rfl) (Nat.le_of_ble_eq_true rfl)) (fun u9 t H locs ht hvm hw9 hB hz1 hk1 hS => ?_)
  obtain ⟨hP, hD⟩ := hB
  rw [ht] at hP
  obtain ⟨hw9, rfl⟩ := hw9
  obtain ⟨m0, hm, rfl⟩ := within_nI (n := 120) (by decide) (by decide) hw9
  refine lv_aload_n hx hb dX7_compare_12 rfl (lv_at hl 0 rfl) ?_
  refine lv_iload_n hx hb dX7_compare_13 rfl (lv_at hl 2 rfl) ?_
  refine lv_iload_n hx hb dX7_compare_14 rfl (lv_at hl 1 rfl) ?_
  refine lv_iload_n hx hb dX7_compare_15 rfl (lv_at hl 3 rfl) ?_
  refine vp_callSi (va_Run.run (va_runV (As := [.int q, .int o, .int (nI m0)]) (rest := []) ⟨hx, hb, hml, hown, hts⟩ (c_X7_sumBy l D y Ls ad G ch dr hX st ha mi dO dD dP nd li ow hC nu uo uf ul ug ut uk ud hUs nm mo mk md mp hMs q o m0 hm) (cwV 3 hts gX7_compare_X7_sumBy rfl rfl rfl (by decide +kernel) ⟨Nat.le_of_ble_eq_true rfl, Nat.le_of_ble_eq_true rfl⟩) ⟨Wd_blind, Wd_recv hK hP (ci := 9) rfl hX.1 hX.2, Wd_at hP hK hN⟩ rfl rfl hl.1 rfl (lv_room (Nat.le_of_ble_eq_true rfl)) dX7_compare_16 ⟨(Nat.le_of_ble_eq_true rfl), (Nat.le_of_ble_eq_true rfl)⟩)) (fun r_16 hr_16 => ?_)
  refine lv_aload_n hx hb dX7_compare_19 rfl (lv_at hl 0 rfl) ?_
  refine lv_iload_n hx hb dX7_compare_20 rfl (lv_at hl 1 rfl) ?_
  refine lv_iload_n hx hb dX7_compare_21 rfl (lv_at hl 1 rfl) ?_
  refine lv_iload_n hx hb dX7_compare_22 rfl (lv_at hl 3 rfl) ?_
  refine vp_callSi (va_Run.run (va_runV (As := [.int o, .int o, .int (nI m0)]) (rest := [.int r_16]) ⟨hx, hb, hml, hown, hts⟩ (c_X7_sumBy l D y Ls ad G ch dr hX st ha mi dO dD dP nd li ow hC nu uo uf ul ug ut uk ud hUs nm mo mk md mp hMs o o m0 hm) (cwV 3 hts gX7_compare_X7_sumBy rfl rfl rfl (by decide +kernel) ⟨Nat.le_of_ble_eq_true rfl, Nat.le_of_ble_eq_true rfl⟩) ⟨Wd_blind, Wd_recv hK hP (ci := 9) rfl hX.1 hX.2, Wd_at hP hK hN⟩ rfl rfl hl.1 rfl (lv_room (Nat.le_of_ble_eq_true rfl)) dX7_compare_23 ⟨(Nat.le_of_ble_eq_true rfl), (Nat.le_of_ble_eq_true rfl)⟩)) (fun r_23 hr_23 => ?_)
  refine lv_isub hx hb dX7_compare_26 ?_
  refine W.widen (k := 3) (n := 18) (Nat.le_of_ble_eq_true rfl) (Nat.le_of_ble_eq_true rfl) ?_
  exact vx_ret (W.iret (v := (r_16 - r_23)) hx hb hr (fun t ht hW => ⟨⟨(r_16 - r_23), wl Ls ad G, rfl, ⟨hw1, hw5, ⟨m0, hm, rfl, by rw [hr_16, hr_23]⟩, rfl⟩, by rw [ht]; exact hP, hD⟩, hS.F ht⟩) hS.2.2 dX7_compare_27)

set_option maxHeartbeats 4000000 in
set_option maxRecDepth 100000 in
/-- billed -/
theorem c_X7_billed (l : Launch) (hl0 : l.stackTraces = false) (D : va_G) (y : Nat → ClassId) (b0 : Nat) (Ls : List Nat) (ad : Nat → Nat) (G : Nat → va_E) (ch dr : Nat) (hX : XAt Ls ad G ch dr) (nl : Nat) (bo bm bc bi : Nat → Int32) (hBs : BillsAt y Ls ad G nl bo bm bc bi) (o : Int32) : vx_Met l yX7_billed wsX7_billed ({ frames := 7, cells := 1, slots := 6, locals := 102 }) (va_Pc [.ref (ad 0), .int o] (WdM D y b0 (wl Ls ad G))) (va_Qi (fun (r : Int32) (u : va_W) => inR o 7 ∧ r = sumO bo o bc nl ∧ u = wl Ls ad G) (WB D b0) (fun q => b0 ≤ q)) (XX D b0 (wl Ls ad G) (fun k => k = 0 ∧ ¬ inR o 7)) 1 6 (fun q => b0 ≤ q) := by
  refine vx_ofW (cc := cX7_billed) (maxL := 2) (ret := (some .int)) (by decide) rfl ?_
  intro p e s m args below meth c s₁ B hml hno hv
  obtain ⟨rfl, ⟨hP, hK, hN⟩, hD, hb0, hT⟩ := hv
  have hx := B.exec
  have hb := B.bytes
  have hr := B.returns
  have hts := atoms_spec (ws := wsX7_billed) B.pre
  have hown : s.vm.findClass RX7 = some m.cls := findClass_of_methodNamed B.named
  have hlocks := B.notSynchronized
  have hS : va_S (fun q => b0 ≤ q) s.heap s.heap [] := va_S.rf
  have hinX7 : ∀ w ∈ wsX70, w ∈ wsX7_billed := by decide +kernel
  have hl := lv_entry ([.ref (ad 0), .int o]) (n := 2) (Nat.le_of_ble_eq_true rfl)
  rw [lg_entry_eq]
  generalize (lg_sl ([.ref (ad 0), .int o]) ++ List.replicate (2 - (lg_sl ([.ref (ad 0), .int o])).length) Slot.unset).toArray = ls at hl ⊢
  have hl : lv_has ls 2 [(0, .ref (ad 0)), (1, .int o)] := hl
  refine lv_iload_n hx hb dX7_billed_0 rfl (lv_at hl 1 rfl) ?_
  refine vx_callv (vx_runS (As := [.int o]) (rest := []) ⟨hx, hb, hml, hown, hts⟩ (c_X7_checkOwner l hl0 D y b0 (wl Ls ad G) o) (va_cwS 1 hts gX7_billed_X7_checkOwner rfl rfl rfl (by decide +kernel) ⟨(Nat.le_of_ble_eq_true rfl), (Nat.le_of_ble_eq_true rfl)⟩) ⟨WdM_blind, WdM_at hP hK hN hD hS hb0 hT⟩ rfl rfl hl.1 rfl (lv_room (Nat.le_of_ble_eq_true rfl)) dX7_billed_1 ⟨(Nat.le_of_ble_eq_true rfl), (Nat.le_of_ble_eq_true rfl)⟩) hS (fun _ _ h => h) (fun _ h => h) (fun _ _ h => h) (fun E9 ce9 q9 k9 t9 H9 locs9 ht9 hvm9 hp9 hB9 hz9 hk9 hS9 hce9 hcv9 hcl9 => pv_out (⟨hp9.1, hp9.2⟩) hB9 ht9 hS9 hno hlocks hce9 hcv9 hcl9 (Nat.le_of_ble_eq_true rfl) (Nat.le_of_ble_eq_true rfl)) (fun u1 t H locs ht hvm hw1 hB hz1 hk1 hS => ?_)
  obtain ⟨hP, hD⟩ := hB
  rw [ht] at hP
  obtain ⟨hw1, rfl⟩ := hw1
  refine lv_aload_n hx hb dX7_billed_4 rfl (lv_at hl 0 rfl) ?_
  refine pv_get (ci := 9) (C := RX7) (T := TX7) (N := 7) hx hb hts hinX7 hown hK hP hX.1 hX.2 rfl 5 (by decide) (hts (.fieldLink RX7 39 "StorageCharge" "bills" "LStorageCharge$Bills;") (by decide +kernel)) (fun _ h9 => h9) rfl dX7_billed_5 ?_
  refine lv_iload_n hx hb dX7_billed_8 rfl (lv_at hl 1 rfl) ?_
  refine vp_callSi (va_Run.run (va_runV (As := [.int o]) (rest := []) ⟨hx, hb, hml, hown, hts⟩ (c_X1_centsOfOwner l D y Ls ad G nl bo bm bc bi hBs o) (cwV 1 hts gX7_billed_X1_centsOfOwner rfl rfl rfl (by decide +kernel) ⟨Nat.le_of_ble_eq_true rfl, Nat.le_of_ble_eq_true rfl⟩) ⟨Wd_blind, Wd_recv hK hP (ci := 3) rfl hBs.1.1 hBs.1.2, Wd_at hP hK hN⟩ rfl rfl hl.1 rfl (lv_room (Nat.le_of_ble_eq_true rfl)) dX7_billed_9 ⟨(Nat.le_of_ble_eq_true rfl), (Nat.le_of_ble_eq_true rfl)⟩)) (fun r_9 hr_9 => ?_)
  refine W.widen (k := 1) (n := 6) (Nat.le_of_ble_eq_true rfl) (Nat.le_of_ble_eq_true rfl) ?_
  exact vx_ret (W.iret (v := r_9) hx hb hr (fun t ht hW => ⟨⟨r_9, wl Ls ad G, rfl, ⟨hw1, hr_9, rfl⟩, by rw [ht]; exact hP, hD⟩, hS.F ht⟩) hS.2.2 dX7_billed_12)

set_option maxHeartbeats 4000000 in
set_option maxRecDepth 100000 in
/-- line -/
theorem c_X7_line (l : Launch) (hl0 : l.stackTraces = false) (D : va_G) (y : Nat → ClassId) (b0 : Nat) (Ls : List Nat) (ad : Nat → Nat) (G : Nat → va_E) (ch dr : Nat) (hX : XAt Ls ad G ch dr) (nl : Nat) (bo bm bc bi : Nat → Int32) (hBs : BillsAt y Ls ad G nl bo bm bc bi) (o q0 wh : Int32) : vx_Met l yX7_line wsX7_line ({ frames := 7, cells := 2, slots := 12, locals := 102 }) (va_Pc [.ref (ad 0), .int o, .int q0, .int wh] (WdM D y b0 (wl Ls ad G))) (va_Qi (fun (r : Int32) (u : va_W) => inR o 7 ∧ (∃ k0, k0 < nl ∧ bo k0 = o ∧ nI (cnt bo o k0) = q0 ∧ ((wh = 0 ∧ r = bm k0) ∨ (wh = 1 ∧ r = bc k0) ∨ (wh = 2 ∧ ((bi k0 = 0 ∧ r = 0) ∨ (¬ bi k0 = 0 ∧ r = 1))))) ∧ u = wl Ls ad G) (WB D b0) (fun q => b0 ≤ q)) (XX D b0 (wl Ls ad G) (fun k => (k = 0 ∧ ¬ inR o 7) ∨ (k = 2 ∧ inR o 7 ∧ ∀ k0, k0 < nl → bo k0 = o → nI (cnt bo o k0) ≠ q0) ∨ (k = 0 ∧ inR o 7 ∧ (wh.toInt < 0 ∨ 2 < wh.toInt)))) 2 12 (fun q => b0 ≤ q) := by
  refine vx_ofW (cc := cX7_line) (maxL := 5) (ret := (some .int)) (by decide) rfl ?_
  intro p e s m args below meth c s₁ B hml hno hv
  obtain ⟨rfl, ⟨hP, hK, hN⟩, hD, hb0, hT⟩ := hv
  have hx := B.exec
  have hb := B.bytes
  have hr := B.returns
  have hts := atoms_spec (ws := wsX7_line) B.pre
  have hown : s.vm.findClass RX7 = some m.cls := findClass_of_methodNamed B.named
  have hlocks := B.notSynchronized
  have hS : va_S (fun q => b0 ≤ q) s.heap s.heap [] := va_S.rf
  have hinX0 : ∀ w ∈ wsX00, w ∈ wsX7_line := by decide +kernel
  have hinX7 : ∀ w ∈ wsX70, w ∈ wsX7_line := by decide +kernel
  have hl := lv_entry ([.ref (ad 0), .int o, .int q0, .int wh]) (n := 5) (Nat.le_of_ble_eq_true rfl)
  rw [lg_entry_eq]
  generalize (lg_sl ([.ref (ad 0), .int o, .int q0, .int wh]) ++ List.replicate (5 - (lg_sl ([.ref (ad 0), .int o, .int q0, .int wh])).length) Slot.unset).toArray = ls at hl ⊢
  have hl : lv_has ls 5 [(0, .ref (ad 0)), (1, .int o), (2, .int q0), (3, .int wh)] := hl
  refine lv_iload_n hx hb dX7_line_0 rfl (lv_at hl 1 rfl) ?_
  refine vx_callv (vx_runS (As := [.int o]) (rest := []) ⟨hx, hb, hml, hown, hts⟩ (c_X7_checkOwner l hl0 D y b0 (wl Ls ad G) o) (va_cwS 1 hts gX7_line_X7_checkOwner rfl rfl rfl (by decide +kernel) ⟨(Nat.le_of_ble_eq_true rfl), (Nat.le_of_ble_eq_true rfl)⟩) ⟨WdM_blind, WdM_at hP hK hN hD hS hb0 hT⟩ rfl rfl hl.1 rfl (lv_room (Nat.le_of_ble_eq_true rfl)) dX7_line_1 ⟨(Nat.le_of_ble_eq_true rfl), (Nat.le_of_ble_eq_true rfl)⟩) hS (fun _ _ h => h) (fun _ h => h) (fun _ _ h => h) (fun E9 ce9 q9 k9 t9 H9 locs9 ht9 hvm9 hp9 hB9 hz9 hk9 hS9 hce9 hcv9 hcl9 => pv_out (Or.inl ⟨hp9.1, fun h => hp9.2 h⟩) hB9 ht9 hS9 hno hlocks hce9 hcv9 hcl9 (Nat.le_of_ble_eq_true rfl) (Nat.le_of_ble_eq_true rfl)) (fun u1 t H locs ht hvm hw1 hB hz1 hk1 hS => ?_)
  obtain ⟨hP, hD⟩ := hB
  rw [ht] at hP
  obtain ⟨hw1, rfl⟩ := hw1
  refine lv_aload_n hx hb dX7_line_4 rfl (lv_at hl 0 rfl) ?_
  refine pv_get (ci := 9) (C := RX7) (T := TX7) (N := 7) hx hb hts hinX7 hown hK hP hX.1 hX.2 rfl 5 (by decide) (hts (.fieldLink RX7 39 "StorageCharge" "bills" "LStorageCharge$Bills;") (by decide +kernel)) (fun _ h9 => h9) rfl dX7_line_5 ?_
  refine lv_iload_n hx hb dX7_line_8 rfl (lv_at hl 1 rfl) ?_
  refine lv_iload_n hx hb dX7_line_9 rfl (lv_at hl 2 rfl) ?_
  refine va_csq (va_Run.run (va_runV (As := [.int o, .int q0]) (rest := []) ⟨hx, hb, hml, hown, hts⟩ (c_X1_find l D y Ls ad G nl bo bm bc bi hBs o q0) (cwV 2 hts gX7_line_X1_find rfl rfl rfl (by decide +kernel) ⟨Nat.le_of_ble_eq_true rfl, Nat.le_of_ble_eq_true rfl⟩) ⟨Wd_blind, Wd_recv hK hP (ci := 3) rfl hBs.1.1 hBs.1.2, Wd_at hP hK hN⟩ rfl rfl hl.1 rfl (lv_room (Nat.le_of_ble_eq_true rfl)) dX7_line_10 ⟨(Nat.le_of_ble_eq_true rfl), (Nat.le_of_ble_eq_true rfl)⟩)) (fun r_10 hr_10 => ?_)
  rcases hr_10 with ⟨k0, hk0, ho0, hq0, rfl⟩ | ⟨rfl, hno0⟩
  · show W _ _ _ _ _ _ _ _ _ _ _ _ _ _ _ (F0 m _ ls (.ref (ad (3000 + k0)) :: _))
    refine lv_astore (lv' := [(4, .ref (ad (3000 + k0))), (0, .ref (ad 0)), (1, .int o), (2, .int q0), (3, .int wh)]) hx hb dX7_line_13 hl (by decide) rfl (fun ls hl => ?_)
    refine lv_aload hx hb dX7_line_15 (lv_at hl 0 rfl) ?_
    refine lv_ifnonnull (tgt := 30) hx hb dX7_line_17 (by decide) ?_
    refine lv_iload_n hx hb dX7_line_30 rfl (lv_at hl 4 rfl) ?_
    rcases sw2 wh with hsw | hsw | hsw | hsw
    · refine lv_tableOut (tgt := 82) hx hb dX7_line_31 hsw (by decide) ?_
      exact pv_thr (text := "a line has no such number") hx hb hl0 0 (Or.inr (Or.inr ⟨rfl, hw1, hsw⟩)) hts hown (by decide +kernel) (by decide +kernel) (by decide +kernel) (by decide +kernel) (by decide +kernel) thr_b0 (by decide +kernel) hT hP hS (hl.1.trans hml.symm) dX7_line_82 dX7_line_85 dX7_line_86 dX7_line_88 dX7_line_91 hno (Nat.le_of_ble_eq_true rfl) (Nat.le_of_ble_eq_true rfl) (Nat.le_of_ble_eq_true rfl) (Nat.le_of_ble_eq_true rfl) hlocks (Nat.le_of_ble_eq_true rfl) (Nat.le_of_ble_eq_true rfl)
    · refine lv_tableIn (tgt := 56) (off := 25) hx hb dX7_line_31 (by rw [hsw]; decide) (by rw [hsw]; decide) (by rw [hsw]; rfl) (by decide) ?_
      refine lv_aload hx hb dX7_line_56 (lv_at hl 0 rfl) ?_
      refine pv_getN (ci := 2) (C := RX0) (T := TX0) (N := 4) hx hb hts hinX0 hown hK hP (hBs.2.2 k0 hk0).1 (hBs.2.2 k0 hk0).2 rfl 1 (by decide) hN (by decide +kernel : Cond.fieldLinkNest RX7 198 "StorageCharge$BillLine" "month" "I" "StorageCharge" ∈ nestW) (fun _ h9 => h9) rfl dX7_line_58 ?_
      refine W.widen (k := 2) (n := 12) (Nat.le_of_ble_eq_true rfl) (Nat.le_of_ble_eq_true rfl) ?_
      exact vx_ret (W.iret (v := bm k0) hx hb hr (fun t ht hW => ⟨⟨bm k0, wl Ls ad G, rfl, ⟨hw1, ⟨k0, hk0, ho0, hq0, by first | exact Or.inl ⟨hsw, rfl⟩ | exact Or.inr (Or.inl ⟨hsw, rfl⟩) | exact Or.inr (Or.inr ⟨hsw, by first | exact Or.inl ⟨c_73, rfl⟩ | exact Or.inr ⟨c_73, rfl⟩⟩)⟩, rfl⟩, by rw [ht]; exact hP, hD⟩, hS.F ht⟩) hS.2.2 dX7_line_61)
    · refine lv_tableIn (tgt := 62) (off := 31) hx hb dX7_line_31 (by rw [hsw]; decide) (by rw [hsw]; decide) (by rw [hsw]; rfl) (by decide) ?_
      refine lv_aload hx hb dX7_line_62 (lv_at hl 0 rfl) ?_
      refine pv_getN (ci := 2) (C := RX0) (T := TX0) (N := 4) hx hb hts hinX0 hown hK hP (hBs.2.2 k0 hk0).1 (hBs.2.2 k0 hk0).2 rfl 2 (by decide) hN (by decide +kernel : Cond.fieldLinkNest RX7 201 "StorageCharge$BillLine" "cents" "I" "StorageCharge" ∈ nestW) (fun _ h9 => h9) rfl dX7_line_64 ?_
      refine W.widen (k := 2) (n := 12) (Nat.le_of_ble_eq_true rfl) (Nat.le_of_ble_eq_true rfl) ?_
      exact vx_ret (W.iret (v := bc k0) hx hb hr (fun t ht hW => ⟨⟨bc k0, wl Ls ad G, rfl, ⟨hw1, ⟨k0, hk0, ho0, hq0, by first | exact Or.inl ⟨hsw, rfl⟩ | exact Or.inr (Or.inl ⟨hsw, rfl⟩) | exact Or.inr (Or.inr ⟨hsw, by first | exact Or.inl ⟨c_73, rfl⟩ | exact Or.inr ⟨c_73, rfl⟩⟩)⟩, rfl⟩, by rw [ht]; exact hP, hD⟩, hS.F ht⟩) hS.2.2 dX7_line_67)
    · refine lv_tableIn (tgt := 68) (off := 37) hx hb dX7_line_31 (by rw [hsw]; decide) (by rw [hsw]; decide) (by rw [hsw]; rfl) (by decide) ?_
      refine lv_aload hx hb dX7_line_68 (lv_at hl 0 rfl) ?_
      refine pv_getN (ci := 2) (C := RX0) (T := TX0) (N := 4) hx hb hts hinX0 hown hK hP (hBs.2.2 k0 hk0).1 (hBs.2.2 k0 hk0).2 rfl 3 (by decide) hN (by decide +kernel : Cond.fieldLinkNest RX7 204 "StorageCharge$BillLine" "isCorrection" "Z" "StorageCharge" ∈ nestW) (fun _ h9 => h9) rfl dX7_line_70 ?_
      refine lv_if_eq (tgt := 80) hx hb dX7_line_73 (by decide) (fun c_73 => ?_) (fun c_73 => ?_)
      · refine lv_iconst (v := 0) hx hb dX7_line_80 (by decide) ?_
        refine W.widen (k := 2) (n := 12) (Nat.le_of_ble_eq_true rfl) (Nat.le_of_ble_eq_true rfl) ?_
        exact vx_ret (W.iret (v := 0) hx hb hr (fun t ht hW => ⟨⟨0, wl Ls ad G, rfl, ⟨hw1, ⟨k0, hk0, ho0, hq0, by first | exact Or.inl ⟨hsw, rfl⟩ | exact Or.inr (Or.inl ⟨hsw, rfl⟩) | exact Or.inr (Or.inr ⟨hsw, by first | exact Or.inl ⟨c_73, rfl⟩ | exact Or.inr ⟨c_73, rfl⟩⟩)⟩, rfl⟩, by rw [ht]; exact hP, hD⟩, hS.F ht⟩) hS.2.2 dX7_line_81)
      · refine lv_iconst (v := 1) hx hb dX7_line_76 (by decide) ?_
        refine lv_goto (tgt := 81) hx hb dX7_line_77 (by decide) ?_
        refine W.widen (k := 2) (n := 12) (Nat.le_of_ble_eq_true rfl) (Nat.le_of_ble_eq_true rfl) ?_
        exact vx_ret (W.iret (v := 1) hx hb hr (fun t ht hW => ⟨⟨1, wl Ls ad G, rfl, ⟨hw1, ⟨k0, hk0, ho0, hq0, by first | exact Or.inl ⟨hsw, rfl⟩ | exact Or.inr (Or.inl ⟨hsw, rfl⟩) | exact Or.inr (Or.inr ⟨hsw, by first | exact Or.inl ⟨c_73, rfl⟩ | exact Or.inr ⟨c_73, rfl⟩⟩)⟩, rfl⟩, by rw [ht]; exact hP, hD⟩, hS.F ht⟩) hS.2.2 dX7_line_81)
  · show W _ _ _ _ _ _ _ _ _ _ _ _ _ _ _ (F0 m _ ls (.null :: _))
    refine lv_astoreN (lv' := [(4, .null), (0, .ref (ad 0)), (1, .int o), (2, .int q0), (3, .int wh)]) hx hb dX7_line_13 hl (by decide) rfl (fun ls hl => ?_)
    refine lv_aloadN hx hb dX7_line_15 (lv_at hl 0 rfl) ?_
    refine lv_ifnonnullN hx hb dX7_line_17 ?_
    exact pv_thr (text := "no such line") hx hb hl0 2 (Or.inr (Or.inl ⟨rfl, hw1, hno0⟩)) hts hown (by decide +kernel) (by decide +kernel) (by decide +kernel) (by decide +kernel) (by decide +kernel) thr_b2 (by decide +kernel) hT hP hS (hl.1.trans hml.symm) dX7_line_20 dX7_line_23 dX7_line_24 dX7_line_26 dX7_line_29 hno (Nat.le_of_ble_eq_true rfl) (Nat.le_of_ble_eq_true rfl) (Nat.le_of_ble_eq_true rfl) (Nat.le_of_ble_eq_true rfl) hlocks (Nat.le_of_ble_eq_true rfl) (Nat.le_of_ble_eq_true rfl)
end
section
/-! the text -/
def TextAt (y : Nat → ClassId) (Ls : List Nat) (ad : Nat → Nat) (G : Nat → va_E) (f : Nat → Int32) (len pl : Nat) : Prop :=
  1 ∈ Ls ∧ 2 ∈ Ls ∧ G 1 = .inr (7, [.ref (ad 2), .int (nI len), .int (nI pl)]) ∧ G 2 = .inl (y 1, 400, .inl f) ∧ len ≤ 400 ∧ pl ≤ len ∧ ∀ i, i < len → ¬ f i = -1
def nx (f : Nat → Int32) (len pl : Nat) : Int32 := if pl < len then f pl else -1
theorem wI_len {len pl : Nat} (hl : len < 2 ^ 30) (hp : pl < 2 ^ 30) : (0 ≤ nI pl ∧ nI pl ≤ nI len - 1) ↔ pl < len := by
  have h : (nI len - 1).toInt = (len : Int) - 1 := pk_sub_toInt (a := len) (b := 1) hl (by decide)
  constructor
  · intro ⟨_, h2⟩
    have h3 := Int32.le_iff_toInt_le.mp h2
    rw [h, nI_toInt (by omega)] at h3
    omega
  · intro h2
    refine ⟨nI_pos' (by omega), Int32.le_iff_toInt_le.mpr ?_⟩
    rw [h, nI_toInt (by omega)]
    omega
def ch16 (c : Int32) : Int32 := vp_nar .char ((c.toUInt32 % 65536).toInt32)

set_option maxHeartbeats 4000000 in
set_option maxRecDepth 100000 in
/-- Text.isFull -/
theorem c_X5_isFull (l : Launch) (D : va_G) (y : Nat → ClassId) (Ls : List Nat) (ad : Nat → Nat) (G : Nat → va_E) (f : Nat → Int32) (len pl : Nat) (hTx : TextAt y Ls ad G f len pl) : Met l yX5_isFull wsX5_isFull ({ frames := 0, cells := 0, slots := 0, locals := 0 }) (va_Pc [.ref (ad 1)] (Wd D y (wl Ls ad G))) (vp_Si (fun r => r = if 400 ≤ len then 1 else 0)) 0 0 (fun _ => False) := by
  refine Met.ofW (cc := cX5_isFull) (maxL := 1) (ret := (some .boolean)) (by decide) rfl ?_
  intro p e s m args below meth c s₁ B hml hv
  obtain ⟨rfl, hP, hK, hN⟩ := hv
  have hx := B.exec
  have hb := B.bytes
  have hr := B.returns
  have hts := atoms_spec (ws := wsX5_isFull) B.pre
  have hown : s.vm.findClass RX5 = some m.cls := findClass_of_methodNamed B.named
  have hlocks := B.notSynchronized
  have hinX5 : ∀ w ∈ wsX50, w ∈ wsX5_isFull := by decide +kernel
  obtain ⟨ht1, ht2, et1, et2, hlen, hpl, hne⟩ := id hTx
  have hl := lv_entry ([.ref (ad 1)]) (n := 1) (Nat.le_of_ble_eq_true rfl)
  rw [lg_entry_eq]
  generalize (lg_sl ([.ref (ad 1)]) ++ List.replicate (1 - (lg_sl ([.ref (ad 1)])).length) Slot.unset).toArray = ls at hl ⊢
  have hl : lv_has ls 1 [(0, .ref (ad 1))] := hl
  refine lv_aload_n hx hb dX5_isFull_0 rfl (lv_at hl 0 rfl) ?_
  refine pv_get (ci := 7) (C := RX5) (T := TX5) (N := 3) hx hb hts hinX5 hown hK hP ht1 et1 rfl 1 (by decide) (hts (.fieldLink RX5 15 "StorageCharge$Text" "length" "I") (by decide +kernel)) (fun _ h9 => h9) rfl dX5_isFull_1 ?_
  refine lv_aload_n hx hb dX5_isFull_4 rfl (lv_at hl 0 rfl) ?_
  refine pv_get (ci := 7) (C := RX5) (T := TX5) (N := 3) hx hb hts hinX5 hown hK hP ht1 et1 rfl 0 (by decide) (hts (.fieldLink RX5 9 "StorageCharge$Text" "signs" "[C") (by decide +kernel)) (fun _ h9 => h9) rfl dX5_isFull_5 ?_
  refine pv_alen (n := 400) hx hb hK hP ht2 1 et2 rfl rfl dX5_isFull_8 ?_
  refine lv_icmp_lt (tgt := 16) hx hb dX5_isFull_9 (by decide) (fun c_9 => ?_) (fun c_9 => ?_)
  · refine lv_iconst (v := 0) hx hb dX5_isFull_16 (by decide) ?_
    exact W.zret (v := 0) hx hb hr (by first | rfl | decide | (simp [narrow]; done) | assumption) (fun t ht hW => ⟨0, rfl, (by rw [if_neg]; intro h; exact absurd c_9 (nI_nlt h (by omega))), ht⟩) (fun q h => by cases h) dX5_isFull_17
  · refine lv_iconst (v := 1) hx hb dX5_isFull_12 (by decide) ?_
    refine lv_goto (tgt := 17) hx hb dX5_isFull_13 (by decide) ?_
    exact W.zret (v := 1) hx hb hr (by first | rfl | decide | (simp [narrow]; done) | assumption) (fun t ht hW => ⟨1, rfl, (by rw [if_pos]; exact Nat.le_of_not_lt (fun h => c_9 (nI_lt h (by decide)))), ht⟩) (fun q h => by cases h) dX5_isFull_17

set_option maxHeartbeats 4000000 in
set_option maxRecDepth 100000 in
/-- Text.isRead -/
theorem c_X5_isRead (l : Launch) (D : va_G) (y : Nat → ClassId) (Ls : List Nat) (ad : Nat → Nat) (G : Nat → va_E) (f : Nat → Int32) (len pl : Nat) (hTx : TextAt y Ls ad G f len pl) : Met l yX5_isRead wsX5_isRead ({ frames := 0, cells := 0, slots := 0, locals := 0 }) (va_Pc [.ref (ad 1)] (Wd D y (wl Ls ad G))) (vp_Si (fun r => r = if len ≤ pl then 1 else 0)) 0 0 (fun _ => False) := by
  refine Met.ofW (cc := cX5_isRead) (maxL := 1) (ret := (some .boolean)) (by decide) rfl ?_
  intro p e s m args below meth c s₁ B hml hv
  obtain ⟨rfl, hP, hK, hN⟩ := hv
  have hx := B.exec
  have hb := B.bytes
  have hr := B.returns
  have hts := atoms_spec (ws := wsX5_isRead) B.pre
  have hown : s.vm.findClass RX5 = some m.cls := findClass_of_methodNamed B.named
  have hlocks := B.notSynchronized
  have hinX5 : ∀ w ∈ wsX50, w ∈ wsX5_isRead := by decide +kernel
  obtain ⟨ht1, ht2, et1, et2, hlen, hpl, hne⟩ := id hTx
  have hl := lv_entry ([.ref (ad 1)]) (n := 1) (Nat.le_of_ble_eq_true rfl)
  rw [lg_entry_eq]
  generalize (lg_sl ([.ref (ad 1)]) ++ List.replicate (1 - (lg_sl ([.ref (ad 1)])).length) Slot.unset).toArray = ls at hl ⊢
  have hl : lv_has ls 1 [(0, .ref (ad 1))] := hl
  refine lv_aload_n hx hb dX5_isRead_0 rfl (lv_at hl 0 rfl) ?_
  refine pv_get (ci := 7) (C := RX5) (T := TX5) (N := 3) hx hb hts hinX5 hown hK hP ht1 et1 rfl 2 (by decide) (hts (.fieldLink RX5 19 "StorageCharge$Text" "place" "I") (by decide +kernel)) (fun _ h9 => h9) rfl dX5_isRead_1 ?_
  refine lv_aload_n hx hb dX5_isRead_4 rfl (lv_at hl 0 rfl) ?_
  refine pv_get (ci := 7) (C := RX5) (T := TX5) (N := 3) hx hb hts hinX5 hown hK hP ht1 et1 rfl 1 (by decide) (hts (.fieldLink RX5 15 "StorageCharge$Text" "length" "I") (by decide +kernel)) (fun _ h9 => h9) rfl dX5_isRead_5 ?_
  refine lv_icmp_lt (tgt := 15) hx hb dX5_isRead_8 (by decide) (fun c_8 => ?_) (fun c_8 => ?_)
  · refine lv_iconst (v := 0) hx hb dX5_isRead_15 (by decide) ?_
    exact W.zret (v := 0) hx hb hr (by first | rfl | decide | (simp [narrow]; done) | assumption) (fun t ht hW => ⟨0, rfl, (by rw [if_neg]; intro h; exact absurd c_8 (nI_nlt h (by omega))), ht⟩) (fun q h => by cases h) dX5_isRead_16
  · refine lv_iconst (v := 1) hx hb dX5_isRead_11 (by decide) ?_
    refine lv_goto (tgt := 16) hx hb dX5_isRead_12 (by decide) ?_
    exact W.zret (v := 1) hx hb hr (by first | rfl | decide | (simp [narrow]; done) | assumption) (fun t ht hW => ⟨1, rfl, (by rw [if_pos]; exact Nat.le_of_not_lt (fun h => c_8 (nI_lt h (by omega)))), ht⟩) (fun q h => by cases h) dX5_isRead_16

set_option maxHeartbeats 4000000 in
set_option maxRecDepth 100000 in
/-- Text.nextSign -/
theorem c_X5_nextSign (l : Launch) (D : va_G) (y : Nat → ClassId) (Ls : List Nat) (ad : Nat → Nat) (G : Nat → va_E) (f : Nat → Int32) (len pl : Nat) (hTx : TextAt y Ls ad G f len pl) : Met l yX5_nextSign wsX5_nextSign ({ frames := 1, cells := 0, slots := 0, locals := 22 }) (va_Pc [.ref (ad 1)] (Wd D y (wl Ls ad G))) (vp_Si (fun r => r = nx f len pl)) 0 0 (fun _ => False) := by
  refine Met.ofW (cc := cX5_nextSign) (maxL := 1) (ret := (some .int)) (by decide) rfl ?_
  intro p e s m args below meth c s₁ B hml hv
  obtain ⟨rfl, hP, hK, hN⟩ := hv
  have hx := B.exec
  have hb := B.bytes
  have hr := B.returns
  have hts := atoms_spec (ws := wsX5_nextSign) B.pre
  have hown : s.vm.findClass RX5 = some m.cls := findClass_of_methodNamed B.named
  have hlocks := B.notSynchronized
  have hinX5 : ∀ w ∈ wsX50, w ∈ wsX5_nextSign := by decide +kernel
  obtain ⟨ht1, ht2, et1, et2, hlen, hpl, hne⟩ := id hTx
  have hl := lv_entry ([.ref (ad 1)]) (n := 1) (Nat.le_of_ble_eq_true rfl)
  rw [lg_entry_eq]
  generalize (lg_sl ([.ref (ad 1)]) ++ List.replicate (1 - (lg_sl ([.ref (ad 1)])).length) Slot.unset).toArray = ls at hl ⊢
  have hl : lv_has ls 1 [(0, .ref (ad 1))] := hl
  refine lv_aload_n hx hb dX5_nextSign_0 rfl (lv_at hl 0 rfl) ?_
  refine pv_get (ci := 7) (C := RX5) (T := TX5) (N := 3) hx hb hts hinX5 hown hK hP ht1 et1 rfl 2 (by decide) (hts (.fieldLink RX5 19 "StorageCharge$Text" "place" "I") (by decide +kernel)) (fun _ h9 => h9) rfl dX5_nextSign_1 ?_
  refine lv_iconst (v := 0) hx hb dX5_nextSign_4 (by decide) ?_
  refine lv_aload_n hx hb dX5_nextSign_5 rfl (lv_at hl 0 rfl) ?_
  refine pv_get (ci := 7) (C := RX5) (T := TX5) (N := 3) hx hb hts hinX5 hown hK hP ht1 et1 rfl 1 (by decide) (hts (.fieldLink RX5 15 "StorageCharge$Text" "length" "I") (by decide +kernel)) (fun _ h9 => h9) rfl dX5_nextSign_6 ?_
  refine lv_iconst (v := 1) hx hb dX5_nextSign_9 (by decide) ?_
  refine lv_isub hx hb dX5_nextSign_10 ?_
  refine vp_callSi (va_Run.run (va_runSN (As := [.int (nI pl), .int 0, .int ((nI len) - 1)]) (rest := []) ⟨hx, hb, hml, hown, hts⟩ (c_X7_isWithin l (nI pl) 0 (nI len - 1)) ⟨va_cnB 3 hts gX5_nextSign_X7_isWithin_n26 rfl rfl rfl (hN (.methodLinkNest RX5 26 yX7_isWithin "StorageCharge") (by decide +kernel)) (hts (.initialized RX7) (by decide +kernel)) (by decide +kernel) ⟨Nat.le_of_ble_eq_true rfl, Nat.le_of_ble_eq_true rfl⟩, hts (.static yX7_isWithin) (by decide +kernel), trivial⟩ ⟨fun _ _ _ _ q => q, fun U hU hW => ⟨rfl, trivial⟩⟩ rfl rfl hl.1 rfl (lv_room (Nat.le_of_ble_eq_true rfl)) dX5_nextSign_11 ⟨Nat.zero_le _, Nat.zero_le _⟩)) (fun r_11 hr_11 => ?_)
  refine lv_if_eq (tgt := 29) hx hb dX5_nextSign_14 (by decide) (fun c_14 => ?_) (fun c_14 => ?_)
  · have hge : ¬ pl < len := fun h => wI_eq0.mp (by rw [← hr_11]; exact c_14) ((wI_len (by omega) (by omega)).mpr h)
    refine lv_iconst (v := (-1)) hx hb dX5_nextSign_29 (by decide) ?_
    exact W.iret (v := (-1)) hx hb hr (fun t ht hW => ⟨(-1), rfl, (by rw [nx, if_neg hge]), ht⟩) (fun q h => by cases h) dX5_nextSign_30
  · have hlt : pl < len := (wI_len (by omega) (by omega)).mp (Decidable.byContradiction fun h => c_14 (by rw [hr_11]; exact wI_eq0.mpr h))
    refine lv_aload_n hx hb dX5_nextSign_17 rfl (lv_at hl 0 rfl) ?_
    refine pv_get (ci := 7) (C := RX5) (T := TX5) (N := 3) hx hb hts hinX5 hown hK hP ht1 et1 rfl 0 (by decide) (hts (.fieldLink RX5 9 "StorageCharge$Text" "signs" "[C") (by decide +kernel)) (fun _ h9 => h9) rfl dX5_nextSign_18 ?_
    refine lv_aload_n hx hb dX5_nextSign_21 rfl (lv_at hl 0 rfl) ?_
    refine pv_get (ci := 7) (C := RX5) (T := TX5) (N := 3) hx hb hts hinX5 hown hK hP ht1 et1 rfl 2 (by decide) (hts (.fieldLink RX5 19 "StorageCharge$Text" "place" "I") (by decide +kernel)) (fun _ h9 => h9) rfl dX5_nextSign_22 ?_
    refine pv_cald hx hb hK hP ht2 1 et2 rfl (k := pl) rfl (by omega) (by decide) dX5_nextSign_25 ?_
    refine lv_goto (tgt := 30) hx hb dX5_nextSign_26 (by decide) ?_
    exact W.iret (v := f pl) hx hb hr (fun t ht hW => ⟨f pl, rfl, (by rw [nx, if_pos hlt]), ht⟩) (fun q h => by cases h) dX5_nextSign_30

set_option maxHeartbeats 4000000 in
set_option maxRecDepth 100000 in
/-- Text.clear -/
theorem c_X5_clear (l : Launch) (hl0 : l.stackTraces = false) (D : va_G) (y : Nat → ClassId) (b0 : Nat) (Ls : List Nat) (ad : Nat → Nat) (G : Nat → va_E) (f : Nat → Int32) (len pl : Nat) (hTx : TextAt y Ls ad G f len pl) : Met l yX5_clear wsX5_clear ({ frames := 0, cells := 0, slots := 0, locals := 0 }) (va_Pc [.ref (ad 1)] (WdM D y b0 (wl Ls ad G))) (va_Qv (fun (u : va_W) => ∃ G2, u = wl Ls ad G2 ∧ TextAt y Ls ad G2 f 0 0 ∧ ∀ j, j ≠ 1 → j ≠ 2 → G2 j = G j) (WB D b0) (fun q => b0 ≤ q)) 0 0 (fun q => b0 ≤ q) := by
  refine Met.ofW (cc := cX5_clear) (maxL := 1) (ret := none) (by decide) rfl ?_
  intro p e s m args below meth c s₁ B hml hv
  obtain ⟨rfl, ⟨hP, hK, hN⟩, hD, hb0, hT⟩ := hv
  have hx := B.exec
  have hb := B.bytes
  have hr := B.returns
  have hts := atoms_spec (ws := wsX5_clear) B.pre
  have hown : s.vm.findClass RX5 = some m.cls := findClass_of_methodNamed B.named
  have hlocks := B.notSynchronized
  have hS : va_S (fun q => b0 ≤ q) s.heap s.heap [] := va_S.rf
  have hinX5 : ∀ w ∈ wsX50, w ∈ wsX5_clear := by decide +kernel
  obtain ⟨ht1, ht2, et1, et2, hlen, hpl, hne⟩ := id hTx
  have hl := lv_entry ([.ref (ad 1)]) (n := 1) (Nat.le_of_ble_eq_true rfl)
  rw [lg_entry_eq]
  generalize (lg_sl ([.ref (ad 1)]) ++ List.replicate (1 - (lg_sl ([.ref (ad 1)])).length) Slot.unset).toArray = ls at hl ⊢
  have hl : lv_has ls 1 [(0, .ref (ad 1))] := hl
  refine lv_aload_n hx hb dX5_clear_0 rfl (lv_at hl 0 rfl) ?_
  refine lv_iconst (v := 0) hx hb dX5_clear_1 (by decide) ?_
  refine lv_topi (fun z9 ez9 => ?_)
  obtain rfl : z9 = nI 0 := ez9.trans (nI_0.symm)
  refine pv_put (ci := 7) (v := .int (nI 0)) (ty := .int) (C := RX5) (T := TX5) (N := 3) hx hb hts hinX5 tyX5 tyX5_ok nmX5 hown hK hP hD hS ht1 et1 rfl 1 (by decide) (hts (.fieldLink RX5 15 "StorageCharge$Text" "length" "I") (by decide +kernel)) (fun _ h9 => h9) rfl (by decide +kernel) rfl rfl (Nat.le_of_ble_eq_true rfl) dX5_clear_2 (fun H locs hP hD hS => ?_)
  obtain ⟨G_2, eG_2⟩ : ∃ g9 : Nat → va_E, g9 = va_up G 1 (.inr (7, [.ref (ad 2), .int (nI 0), .int (nI pl)])) := ⟨_, rfl⟩
  have hP : va_P D vwCl (wl Ls ad G_2) H := by rw [eG_2]; exact hP
  have hD : va_D (fun q => b0 ≤ q) (wl Ls ad G_2) := by rw [eG_2]; exact hD
  have et2 : G_2 2 = .inl (y 1, 400, .inl f) := by rw [eG_2, va_up_ne _ _ (by omega)]; exact et2
  have et1 : G_2 1 = .inr (7, [.ref (ad 2), .int (nI 0), .int (nI pl)]) := by rw [eG_2]; exact va_up_self _ _ _
  refine lv_aload_n hx hb dX5_clear_5 rfl (lv_at hl 0 rfl) ?_
  refine lv_iconst (v := 0) hx hb dX5_clear_6 (by decide) ?_
  refine lv_topi (fun z9 ez9 => ?_)
  obtain rfl : z9 = nI 0 := ez9.trans (nI_0.symm)
  refine pv_put (ci := 7) (v := .int (nI 0)) (ty := .int) (C := RX5) (T := TX5) (N := 3) hx hb hts hinX5 tyX5 tyX5_ok nmX5 hown hK hP hD hS ht1 et1 rfl 2 (by decide) (hts (.fieldLink RX5 19 "StorageCharge$Text" "place" "I") (by decide +kernel)) (fun _ h9 => h9) rfl (by decide +kernel) rfl rfl (Nat.le_of_ble_eq_true rfl) dX5_clear_7 (fun H locs hP hD hS => ?_)
  obtain ⟨G_7, eG_7⟩ : ∃ g9 : Nat → va_E, g9 = va_up G_2 1 (.inr (7, [.ref (ad 2), .int (nI 0), .int (nI 0)])) := ⟨_, rfl⟩
  have hP : va_P D vwCl (wl Ls ad G_7) H := by rw [eG_7]; exact hP
  have hD : va_D (fun q => b0 ≤ q) (wl Ls ad G_7) := by rw [eG_7]; exact hD
  have et2 : G_7 2 = .inl (y 1, 400, .inl f) := by rw [eG_7, va_up_ne _ _ (by omega)]; exact et2
  have et1 : G_7 1 = .inr (7, [.ref (ad 2), .int (nI 0), .int (nI 0)]) := by rw [eG_7]; exact va_up_self _ _ _
  refine W.widen (k := 0) (n := 0) (Nat.le_of_ble_eq_true rfl) (Nat.le_of_ble_eq_true rfl) ?_
  exact W.vret hx hb hr (fun t ht hW => ⟨⟨wl Ls ad G_7, rfl, ⟨G_7, rfl, ⟨ht1, ht2, et1, et2, (Nat.zero_le _), (Nat.le_refl 0), (fun i h => absurd h (Nat.not_lt_zero i))⟩, fun j h1 h2 => by rw [eG_7, va_up_ne _ _ (by assumption), eG_2, va_up_ne _ _ (by assumption)]⟩, by rw [ht]; exact hP, hD⟩, hS.F ht⟩) hS.2.2 dX5_clear_10

theorem addne {f : Nat → Int32} {len : Nat} {x : Int32} (h : ∀ i, i < len → ¬ f i = -1) (hx : ¬ x = -1) : ∀ i, i < len + 1 → ¬ upd f len x i = -1 := by
  intro i hi
  by_cases e : i = len
  · subst e; rw [pk_us]; exact hx
  · rw [pk_un e]; exact h i (by omega)

set_option maxHeartbeats 4000000 in
set_option maxRecDepth 100000 in
/-- Text.add -/
theorem c_X5_add (l : Launch) (hl0 : l.stackTraces = false) (D : va_G) (y : Nat → ClassId) (b0 : Nat) (Ls : List Nat) (ad : Nat → Nat) (G : Nat → va_E) (f : Nat → Int32) (len pl : Nat) (hTx : TextAt y Ls ad G f len pl) (c0 : Int32) (hroom : len < 400) (hc16 : ¬ ch16 c0 = -1) : Met l yX5_add wsX5_add ({ frames := 1, cells := 0, slots := 0, locals := 20 }) (va_Pc [.ref (ad 1), .int c0] (WdM D y b0 (wl Ls ad G))) (va_Qv (fun (u : va_W) => ∃ G2, u = wl Ls ad G2 ∧ TextAt y Ls ad G2 (upd f len (ch16 c0)) (len + 1) pl ∧ ∀ j, j ≠ 1 → j ≠ 2 → G2 j = G j) (WB D b0) (fun q => b0 ≤ q)) 0 0 (fun q => b0 ≤ q) := by
  refine Met.ofW (cc := cX5_add) (maxL := 2) (ret := none) (by decide) rfl ?_
  intro p e s m args below meth c s₁ B hml hv
  obtain ⟨rfl, ⟨hP, hK, hN⟩, hD, hb0, hT⟩ := hv
  have hx := B.exec
  have hb := B.bytes
  have hr := B.returns
  have hts := atoms_spec (ws := wsX5_add) B.pre
  have hown : s.vm.findClass RX5 = some m.cls := findClass_of_methodNamed B.named
  have hlocks := B.notSynchronized
  have hS : va_S (fun q => b0 ≤ q) s.heap s.heap [] := va_S.rf
  have hinX5 : ∀ w ∈ wsX50, w ∈ wsX5_add := by decide +kernel
  obtain ⟨ht1, ht2, et1, et2, hlen, hpl, hne⟩ := id hTx
  have hl := lv_entry ([.ref (ad 1), .int c0]) (n := 2) (Nat.le_of_ble_eq_true rfl)
  rw [lg_entry_eq]
  generalize (lg_sl ([.ref (ad 1), .int c0]) ++ List.replicate (2 - (lg_sl ([.ref (ad 1), .int c0])).length) Slot.unset).toArray = ls at hl ⊢
  have hl : lv_has ls 2 [(0, .ref (ad 1)), (1, .int c0)] := hl
  refine lv_aload_n hx hb dX5_add_0 rfl (lv_at hl 0 rfl) ?_
  refine vp_callSi (va_Run.run (va_runV (As := []) (rest := []) ⟨hx, hb, hml, hown, hts⟩ (c_X5_isFull l D y Ls ad G f len pl hTx) (cwV 0 hts gX5_add_X5_isFull rfl rfl rfl (by decide +kernel) ⟨Nat.le_of_ble_eq_true rfl, Nat.le_of_ble_eq_true rfl⟩) ⟨Wd_blind, Wd_recv hK hP (ci := 7) rfl ht1 et1, Wd_at hP hK hN⟩ rfl rfl hl.1 rfl (lv_room (Nat.le_of_ble_eq_true rfl)) dX5_add_1 ⟨(Nat.le_of_ble_eq_true rfl), (Nat.le_of_ble_eq_true rfl)⟩)) (fun r_1 hr_1 => ?_)
  refine lv_if_ne (tgt := 28) hx hb dX5_add_4 (by decide) (fun c_4 => ?_) (fun c_4 => ?_)
  · exact absurd (by rw [hr_1, if_neg (by omega)]) c_4
  · refine lv_aload_n hx hb dX5_add_7 rfl (lv_at hl 0 rfl) ?_
    refine pv_get (ci := 7) (C := RX5) (T := TX5) (N := 3) hx hb hts hinX5 hown hK hP ht1 et1 rfl 0 (by decide) (hts (.fieldLink RX5 9 "StorageCharge$Text" "signs" "[C") (by decide +kernel)) (fun _ h9 => h9) rfl dX5_add_8 ?_
    refine lv_aload_n hx hb dX5_add_11 rfl (lv_at hl 0 rfl) ?_
    refine pv_get (ci := 7) (C := RX5) (T := TX5) (N := 3) hx hb hts hinX5 hown hK hP ht1 et1 rfl 1 (by decide) (hts (.fieldLink RX5 15 "StorageCharge$Text" "length" "I") (by decide +kernel)) (fun _ h9 => h9) rfl dX5_add_12 ?_
    refine lv_iload_n hx hb dX5_add_15 rfl (lv_at hl 1 rfl) ?_
    refine lv_i2c hx hb dX5_add_16 rfl ?_
    refine pv_cast hx hb hK hP hD hS ht2 1 et2 rfl (k := len) rfl (by omega) (by decide) dX5_add_17 (fun H locs hP hD hS => ?_)
    obtain ⟨G_17, eG_17⟩ : ∃ g9 : Nat → va_E, g9 = va_up G 2 (.inl (y 1, 400, .inl (upd f len (vp_nar .char ((c0.toUInt32 % 65536).toInt32))))) := ⟨_, rfl⟩
    have hP : va_P D vwCl (wl Ls ad G_17) H := by rw [eG_17]; exact hP
    have hD : va_D (fun q => b0 ≤ q) (wl Ls ad G_17) := by rw [eG_17]; exact hD
    have et1 : G_17 1 = .inr (7, [.ref (ad 2), .int (nI len), .int (nI pl)]) := by rw [eG_17, va_up_ne _ _ (by omega)]; exact et1
    have et2 : G_17 2 = .inl (y 1, 400, .inl (upd f len (vp_nar .char ((c0.toUInt32 % 65536).toInt32)))) := by rw [eG_17]; exact va_up_self _ _ _
    refine lv_aload_n hx hb dX5_add_18 rfl (lv_at hl 0 rfl) ?_
    refine lv_dup hx hb dX5_add_19 rfl ?_
    refine pv_get (ci := 7) (C := RX5) (T := TX5) (N := 3) hx hb hts hinX5 hown hK hP ht1 et1 rfl 1 (by decide) (hts (.fieldLink RX5 15 "StorageCharge$Text" "length" "I") (by decide +kernel)) (fun _ h9 => h9) rfl dX5_add_20 ?_
    refine lv_iconst (v := 1) hx hb dX5_add_23 (by decide) ?_
    refine lv_iadd hx hb dX5_add_24 ?_
    refine lv_topi (fun z9 ez9 => ?_)
    obtain rfl : z9 = nI (len + 1) := ez9.trans (nI_1 len)
    refine pv_put (ci := 7) (v := .int (nI (len + 1))) (ty := .int) (C := RX5) (T := TX5) (N := 3) hx hb hts hinX5 tyX5 tyX5_ok nmX5 hown hK hP hD hS ht1 et1 rfl 1 (by decide) (hts (.fieldLink RX5 15 "StorageCharge$Text" "length" "I") (by decide +kernel)) (fun _ h9 => h9) rfl (by decide +kernel) rfl rfl (Nat.le_of_ble_eq_true rfl) dX5_add_25 (fun H locs hP hD hS => ?_)
    obtain ⟨G_25, eG_25⟩ : ∃ g9 : Nat → va_E, g9 = va_up G_17 1 (.inr (7, [.ref (ad 2), .int (nI (len + 1)), .int (nI pl)])) := ⟨_, rfl⟩
    have hP : va_P D vwCl (wl Ls ad G_25) H := by rw [eG_25]; exact hP
    have hD : va_D (fun q => b0 ≤ q) (wl Ls ad G_25) := by rw [eG_25]; exact hD
    have et2 : G_25 2 = .inl (y 1, 400, .inl (upd f len (vp_nar .char ((c0.toUInt32 % 65536).toInt32)))) := by rw [eG_25, va_up_ne _ _ (by omega)]; exact et2
    have et1 : G_25 1 = .inr (7, [.ref (ad 2), .int (nI (len + 1)), .int (nI pl)]) := by rw [eG_25]; exact va_up_self _ _ _
    refine W.widen (k := 0) (n := 0) (Nat.le_of_ble_eq_true rfl) (Nat.le_of_ble_eq_true rfl) ?_
    exact W.vret hx hb hr (fun t ht hW => ⟨⟨wl Ls ad G_25, rfl, ⟨G_25, rfl, ⟨ht1, ht2, et1, et2, by omega, by omega, fun i h => addne hne hc16 i h⟩, fun j h1 h2 => by rw [eG_25, va_up_ne _ _ (by assumption), eG_17, va_up_ne _ _ (by assumption)]⟩, by rw [ht]; exact hP, hD⟩, hS.F ht⟩) hS.2.2 dX5_add_28

def nxp (len pl : Nat) : Nat := if pl < len then pl + 1 else pl

set_option maxHeartbeats 4000000 in
set_option maxRecDepth 100000 in
/-- Text.takeSign -/
theorem c_X5_takeSign (l : Launch) (hl0 : l.stackTraces = false) (D : va_G) (y : Nat → ClassId) (b0 : Nat) (Ls : List Nat) (ad : Nat → Nat) (G : Nat → va_E) (f : Nat → Int32) (len pl : Nat) (hTx : TextAt y Ls ad G f len pl) : Met l yX5_takeSign wsX5_takeSign ({ frames := 2, cells := 0, slots := 0, locals := 42 }) (va_Pc [.ref (ad 1)] (WdM D y b0 (wl Ls ad G))) (va_Qi (fun (r : Int32) (u : va_W) => r = nx f len pl ∧ ∃ G2, u = wl Ls ad G2 ∧ TextAt y Ls ad G2 f len (nxp len pl) ∧ ∀ j, j ≠ 1 → j ≠ 2 → G2 j = G j) (WB D b0) (fun q => b0 ≤ q)) 0 0 (fun q => b0 ≤ q) := by
  refine Met.ofW (cc := cX5_takeSign) (maxL := 2) (ret := (some .int)) (by decide) rfl ?_
  intro p e s m args below meth c s₁ B hml hv
  obtain ⟨rfl, ⟨hP, hK, hN⟩, hD, hb0, hT⟩ := hv
  have hx := B.exec
  have hb := B.bytes
  have hr := B.returns
  have hts := atoms_spec (ws := wsX5_takeSign) B.pre
  have hown : s.vm.findClass RX5 = some m.cls := findClass_of_methodNamed B.named
  have hlocks := B.notSynchronized
  have hS : va_S (fun q => b0 ≤ q) s.heap s.heap [] := va_S.rf
  have hinX5 : ∀ w ∈ wsX50, w ∈ wsX5_takeSign := by decide +kernel
  obtain ⟨ht1, ht2, et1, et2, hlen, hpl, hne⟩ := id hTx
  have hl := lv_entry ([.ref (ad 1)]) (n := 2) (Nat.le_of_ble_eq_true rfl)
  rw [lg_entry_eq]
  generalize (lg_sl ([.ref (ad 1)]) ++ List.replicate (2 - (lg_sl ([.ref (ad 1)])).length) Slot.unset).toArray = ls at hl ⊢
  have hl : lv_has ls 2 [(0, .ref (ad 1))] := hl
  refine lv_aload_n hx hb dX5_takeSign_0 rfl (lv_at hl 0 rfl) ?_
  refine vp_callSi (va_Run.run (va_runV (As := []) (rest := []) ⟨hx, hb, hml, hown, hts⟩ (c_X5_nextSign l D y Ls ad G f len pl hTx) (cwV 0 hts gX5_takeSign_X5_nextSign rfl rfl rfl (by decide +kernel) ⟨Nat.le_of_ble_eq_true rfl, Nat.le_of_ble_eq_true rfl⟩) ⟨Wd_blind, Wd_recv hK hP (ci := 7) rfl ht1 et1, Wd_at hP hK hN⟩ rfl rfl hl.1 rfl (lv_room (Nat.le_of_ble_eq_true rfl)) dX5_takeSign_1 ⟨(Nat.le_of_ble_eq_true rfl), (Nat.le_of_ble_eq_true rfl)⟩)) (fun r_1 hr_1 => ?_)
  refine lv_istore_n (lv' := [(1, .int r_1), (0, .ref (ad 1))]) hx hb dX5_takeSign_4 rfl hl (by decide) rfl (fun ls hl => ?_)
  refine lv_iload_n hx hb dX5_takeSign_5 rfl (lv_at hl 0 rfl) ?_
  refine lv_iconst (v := (-1)) hx hb dX5_takeSign_6 (by decide) ?_
  refine lv_icmp_eq (tgt := 20) hx hb dX5_takeSign_7 (by decide) (fun c_7 => ?_) (fun c_7 => ?_)
  · have hge : ¬ pl < len := fun h => hne pl h (by rw [hr_1, nx, if_pos h] at c_7; exact c_7)
    refine lv_iload_n hx hb dX5_takeSign_20 rfl (lv_at hl 0 rfl) ?_
    refine W.widen (k := 0) (n := 0) (Nat.le_of_ble_eq_true rfl) (Nat.le_of_ble_eq_true rfl) ?_
    exact W.iret (v := r_1) hx hb hr (fun t ht hW => ⟨⟨r_1, wl Ls ad G, rfl, ⟨hr_1, G, rfl, ⟨ht1, ht2, by rw [nxp, if_neg hge]; exact et1, et2, hlen, by rw [nxp, if_neg hge]; exact hpl, hne⟩, fun j h1 h2 => rfl⟩, by rw [ht]; exact hP, hD⟩, hS.F ht⟩) hS.2.2 dX5_takeSign_21
  · have hlt : pl < len := Decidable.byContradiction fun h => c_7 (by rw [hr_1, nx, if_neg h])
    refine lv_aload_n hx hb dX5_takeSign_10 rfl (lv_at hl 1 rfl) ?_
    refine lv_dup hx hb dX5_takeSign_11 rfl ?_
    refine pv_get (ci := 7) (C := RX5) (T := TX5) (N := 3) hx hb hts hinX5 hown hK hP ht1 et1 rfl 2 (by decide) (hts (.fieldLink RX5 19 "StorageCharge$Text" "place" "I") (by decide +kernel)) (fun _ h9 => h9) rfl dX5_takeSign_12 ?_
    refine lv_iconst (v := 1) hx hb dX5_takeSign_15 (by decide) ?_
    refine lv_iadd hx hb dX5_takeSign_16 ?_
    refine lv_topi (fun z9 ez9 => ?_)
    obtain rfl : z9 = nI (pl + 1) := ez9.trans (nI_1 pl)
    refine pv_put (ci := 7) (v := .int (nI (pl + 1))) (ty := .int) (C := RX5) (T := TX5) (N := 3) hx hb hts hinX5 tyX5 tyX5_ok nmX5 hown hK hP hD hS ht1 et1 rfl 2 (by decide) (hts (.fieldLink RX5 19 "StorageCharge$Text" "place" "I") (by decide +kernel)) (fun _ h9 => h9) rfl (by decide +kernel) rfl rfl (Nat.le_of_ble_eq_true rfl) dX5_takeSign_17 (fun H locs hP hD hS => ?_)
    obtain ⟨G_17, eG_17⟩ : ∃ g9 : Nat → va_E, g9 = va_up G 1 (.inr (7, [.ref (ad 2), .int (nI len), .int (nI (pl + 1))])) := ⟨_, rfl⟩
    have hP : va_P D vwCl (wl Ls ad G_17) H := by rw [eG_17]; exact hP
    have hD : va_D (fun q => b0 ≤ q) (wl Ls ad G_17) := by rw [eG_17]; exact hD
    have et2 : G_17 2 = .inl (y 1, 400, .inl f) := by rw [eG_17, va_up_ne _ _ (by omega)]; exact et2
    have et1 : G_17 1 = .inr (7, [.ref (ad 2), .int (nI len), .int (nI (pl + 1))]) := by rw [eG_17]; exact va_up_self _ _ _
    refine lv_iload_n hx hb dX5_takeSign_20 rfl (lv_at hl 0 rfl) ?_
    refine W.widen (k := 0) (n := 0) (Nat.le_of_ble_eq_true rfl) (Nat.le_of_ble_eq_true rfl) ?_
    exact W.iret (v := r_1) hx hb hr (fun t ht hW => ⟨⟨r_1, wl Ls ad G_17, rfl, ⟨hr_1, G_17, rfl, ⟨ht1, ht2, by rw [nxp, if_pos hlt]; exact et1, et2, hlen, by rw [nxp, if_pos hlt]; omega, hne⟩, fun j h1 h2 => by rw [eG_17, va_up_ne _ _ (by assumption)]⟩, by rw [ht]; exact hP, hD⟩, hS.F ht⟩) hS.2.2 dX5_takeSign_21
end
