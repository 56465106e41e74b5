section
-- ===== PART A: goes FIRST, ahead of the names: the tables' words, and 'selects' of the private methods out of them =====
/-- a private method of a class that the tables say can be made, by its rows of tables_1 -/
def lw_okq (q : MethodName × Nat) : Prop := (q.1.cls ≠ "java/lang/invoke/MethodHandle" ∧ q.1.cls ≠ "java/lang/invoke/VarHandle") ∧ Cond.instantiable q.1.cls q.2 ∈ tables_1 ∧ Cond.privateMethod q.1 ∈ tables_1 ∧ Cond.instanceMethod q.1 ∈ tables_1
theorem lw_p0 : lw_okq (⟨"java/lang/Throwable", "fillInStackTrace", "(I)Ljava/lang/Throwable;"⟩, 6) := ⟨⟨by decide +kernel, by decide +kernel⟩, List.mem_of_getElem? (i := 127) (by decide +kernel), List.mem_of_getElem? (i := 125) (by decide +kernel), List.mem_of_getElem? (i := 126) (by decide +kernel)⟩
theorem lw_p1 : lw_okq (⟨"java/util/ArrayList", "add", "(Ljava/lang/Object;[Ljava/lang/Object;I)V"⟩, 3) := ⟨⟨by decide +kernel, by decide +kernel⟩, List.mem_of_getElem? (i := 29) (by decide +kernel), List.mem_of_getElem? (i := 229) (by decide +kernel), List.mem_of_getElem? (i := 230) (by decide +kernel)⟩
theorem lw_p2 : lw_okq (⟨"java/util/ArrayList", "grow", "()[Ljava/lang/Object;"⟩, 3) := ⟨⟨by decide +kernel, by decide +kernel⟩, List.mem_of_getElem? (i := 29) (by decide +kernel), List.mem_of_getElem? (i := 233) (by decide +kernel), List.mem_of_getElem? (i := 234) (by decide +kernel)⟩
theorem lw_p3 : lw_okq (⟨"java/util/ArrayList", "grow", "(I)[Ljava/lang/Object;"⟩, 3) := ⟨⟨by decide +kernel, by decide +kernel⟩, List.mem_of_getElem? (i := 29) (by decide +kernel), List.mem_of_getElem? (i := 237) (by decide +kernel), List.mem_of_getElem? (i := 238) (by decide +kernel)⟩
theorem lw_p4 : lw_okq (⟨"BillShares", "placeByRank", "(I)I"⟩, 6) := ⟨⟨by decide +kernel, by decide +kernel⟩, List.mem_of_getElem? (i := 21) (by decide +kernel), List.mem_of_getElem? (i := 280) (by decide +kernel), List.mem_of_getElem? (i := 281) (by decide +kernel)⟩
theorem lw_p5 : lw_okq (⟨"java/util/ArrayList", "rangeCheckForAdd", "(I)V"⟩, 3) := ⟨⟨by decide +kernel, by decide +kernel⟩, List.mem_of_getElem? (i := 29) (by decide +kernel), List.mem_of_getElem? (i := 302) (by decide +kernel), List.mem_of_getElem? (i := 303) (by decide +kernel)⟩
theorem lw_p6 : lw_okq (⟨"BillShares", "flatAt", "(I)LBillShares$Flat;"⟩, 6) := ⟨⟨by decide +kernel, by decide +kernel⟩, List.mem_of_getElem? (i := 21) (by decide +kernel), List.mem_of_getElem? (i := 314) (by decide +kernel), List.mem_of_getElem? (i := 315) (by decide +kernel)⟩
theorem lw_p7 : lw_okq (⟨"BillShares", "addReading", "(IIII)I"⟩, 6) := ⟨⟨by decide +kernel, by decide +kernel⟩, List.mem_of_getElem? (i := 21) (by decide +kernel), List.mem_of_getElem? (i := 367) (by decide +kernel), List.mem_of_getElem? (i := 368) (by decide +kernel)⟩
theorem lw_p8 : lw_okq (⟨"BillShares", "meterAt", "(I)LBillShares$Meter;"⟩, 6) := ⟨⟨by decide +kernel, by decide +kernel⟩, List.mem_of_getElem? (i := 21) (by decide +kernel), List.mem_of_getElem? (i := 371) (by decide +kernel), List.mem_of_getElem? (i := 372) (by decide +kernel)⟩
theorem lw_p9 : lw_okq (⟨"BillShares", "openBills", "(I)V"⟩, 6) := ⟨⟨by decide +kernel, by decide +kernel⟩, List.mem_of_getElem? (i := 21) (by decide +kernel), List.mem_of_getElem? (i := 483) (by decide +kernel), List.mem_of_getElem? (i := 484) (by decide +kernel)⟩
theorem lw_p10 : lw_okq (⟨"BillShares", "shareOut", "(II)V"⟩, 6) := ⟨⟨by decide +kernel, by decide +kernel⟩, List.mem_of_getElem? (i := 21) (by decide +kernel), List.mem_of_getElem? (i := 513) (by decide +kernel), List.mem_of_getElem? (i := 514) (by decide +kernel)⟩
theorem lw_p11 : lw_okq (⟨"BillShares", "weighByArea", "()V"⟩, 6) := ⟨⟨by decide +kernel, by decide +kernel⟩, List.mem_of_getElem? (i := 21) (by decide +kernel), List.mem_of_getElem? (i := 524) (by decide +kernel), List.mem_of_getElem? (i := 525) (by decide +kernel)⟩
theorem lw_p12 : lw_okq (⟨"BillShares", "dealOut", "(J)V"⟩, 6) := ⟨⟨by decide +kernel, by decide +kernel⟩, List.mem_of_getElem? (i := 21) (by decide +kernel), List.mem_of_getElem? (i := 528) (by decide +kernel), List.mem_of_getElem? (i := 529) (by decide +kernel)⟩
theorem lw_p13 : lw_okq (⟨"BillShares", "sumOfWeights", "()J"⟩, 6) := ⟨⟨by decide +kernel, by decide +kernel⟩, List.mem_of_getElem? (i := 21) (by decide +kernel), List.mem_of_getElem? (i := 532) (by decide +kernel), List.mem_of_getElem? (i := 533) (by decide +kernel)⟩
theorem lw_p14 : lw_okq (⟨"BillShares", "weighByUse", "(II)V"⟩, 6) := ⟨⟨by decide +kernel, by decide +kernel⟩, List.mem_of_getElem? (i := 21) (by decide +kernel), List.mem_of_getElem? (i := 536) (by decide +kernel), List.mem_of_getElem? (i := 537) (by decide +kernel)⟩
theorem lw_p15 : lw_okq (⟨"BillShares", "latestBill", "(LBillShares$Flat;I)LBillShares$Bill;"⟩, 6) := ⟨⟨by decide +kernel, by decide +kernel⟩, List.mem_of_getElem? (i := 21) (by decide +kernel), List.mem_of_getElem? (i := 596) (by decide +kernel), List.mem_of_getElem? (i := 597) (by decide +kernel)⟩
def lw_privs_1 : List (MethodName × Nat) := [(⟨"java/lang/Throwable", "fillInStackTrace", "(I)Ljava/lang/Throwable;"⟩, 6), (⟨"java/util/ArrayList", "add", "(Ljava/lang/Object;[Ljava/lang/Object;I)V"⟩, 3), (⟨"java/util/ArrayList", "grow", "()[Ljava/lang/Object;"⟩, 3), (⟨"java/util/ArrayList", "grow", "(I)[Ljava/lang/Object;"⟩, 3), (⟨"BillShares", "placeByRank", "(I)I"⟩, 6), (⟨"java/util/ArrayList", "rangeCheckForAdd", "(I)V"⟩, 3), (⟨"BillShares", "flatAt", "(I)LBillShares$Flat;"⟩, 6), (⟨"BillShares", "addReading", "(IIII)I"⟩, 6), (⟨"BillShares", "meterAt", "(I)LBillShares$Meter;"⟩, 6), (⟨"BillShares", "openBills", "(I)V"⟩, 6), (⟨"BillShares", "shareOut", "(II)V"⟩, 6), (⟨"BillShares", "weighByArea", "()V"⟩, 6), (⟨"BillShares", "dealOut", "(J)V"⟩, 6), (⟨"BillShares", "sumOfWeights", "()J"⟩, 6), (⟨"BillShares", "weighByUse", "(II)V"⟩, 6), (⟨"BillShares", "latestBill", "(LBillShares$Flat;I)LBillShares$Bill;"⟩, 6)]
theorem lw_r1 : ∀ q ∈ lw_privs_1, lw_okq q := List.forall_mem_cons.mpr ⟨lw_p0, List.forall_mem_cons.mpr ⟨lw_p1, List.forall_mem_cons.mpr ⟨lw_p2, List.forall_mem_cons.mpr ⟨lw_p3, List.forall_mem_cons.mpr ⟨lw_p4, List.forall_mem_cons.mpr ⟨lw_p5, List.forall_mem_cons.mpr ⟨lw_p6, List.forall_mem_cons.mpr ⟨lw_p7, List.forall_mem_cons.mpr ⟨lw_p8, List.forall_mem_cons.mpr ⟨lw_p9, List.forall_mem_cons.mpr ⟨lw_p10, List.forall_mem_cons.mpr ⟨lw_p11, List.forall_mem_cons.mpr ⟨lw_p12, List.forall_mem_cons.mpr ⟨lw_p13, List.forall_mem_cons.mpr ⟨lw_p14, List.forall_mem_cons.mpr ⟨lw_p15, fun _ h => absurd h List.not_mem_nil⟩⟩⟩⟩⟩⟩⟩⟩⟩⟩⟩⟩⟩⟩⟩⟩
theorem lw_p16 : lw_okq (⟨"BillSharesModel", "allows", "(ZZ)Z"⟩, 28) := ⟨⟨by decide +kernel, by decide +kernel⟩, List.mem_of_getElem? (i := 656) (by decide +kernel), List.mem_of_getElem? (i := 759) (by decide +kernel), List.mem_of_getElem? (i := 760) (by decide +kernel)⟩
theorem lw_p17 : lw_okq (⟨"BillSharesModel", "isFlat", "(I)Z"⟩, 28) := ⟨⟨by decide +kernel, by decide +kernel⟩, List.mem_of_getElem? (i := 656) (by decide +kernel), List.mem_of_getElem? (i := 767) (by decide +kernel), List.mem_of_getElem? (i := 768) (by decide +kernel)⟩
theorem lw_p18 : lw_okq (⟨"BillSharesModel", "put", "(IIIIZ)I"⟩, 28) := ⟨⟨by decide +kernel, by decide +kernel⟩, List.mem_of_getElem? (i := 656) (by decide +kernel), List.mem_of_getElem? (i := 775) (by decide +kernel), List.mem_of_getElem? (i := 776) (by decide +kernel)⟩
theorem lw_p19 : lw_okq (⟨"BillSharesModel", "isMeter", "(I)Z"⟩, 28) := ⟨⟨by decide +kernel, by decide +kernel⟩, List.mem_of_getElem? (i := 656) (by decide +kernel), List.mem_of_getElem? (i := 779) (by decide +kernel), List.mem_of_getElem? (i := 780) (by decide +kernel)⟩
theorem lw_p20 : lw_okq (⟨"BillSharesModel", "shareOf", "(II)J"⟩, 28) := ⟨⟨by decide +kernel, by decide +kernel⟩, List.mem_of_getElem? (i := 656) (by decide +kernel), List.mem_of_getElem? (i := 820) (by decide +kernel), List.mem_of_getElem? (i := 821) (by decide +kernel)⟩
theorem lw_p21 : lw_okq (⟨"BillSharesModel", "byAreas", "()V"⟩, 28) := ⟨⟨by decide +kernel, by decide +kernel⟩, List.mem_of_getElem? (i := 656) (by decide +kernel), List.mem_of_getElem? (i := 825) (by decide +kernel), List.mem_of_getElem? (i := 826) (by decide +kernel)⟩
theorem lw_p22 : lw_okq (⟨"BillSharesModel", "deal", "(J)V"⟩, 28) := ⟨⟨by decide +kernel, by decide +kernel⟩, List.mem_of_getElem? (i := 656) (by decide +kernel), List.mem_of_getElem? (i := 829) (by decide +kernel), List.mem_of_getElem? (i := 830) (by decide +kernel)⟩
theorem lw_p23 : lw_okq (⟨"BillSharesModel", "before", "(I)I"⟩, 28) := ⟨⟨by decide +kernel, by decide +kernel⟩, List.mem_of_getElem? (i := 656) (by decide +kernel), List.mem_of_getElem? (i := 837) (by decide +kernel), List.mem_of_getElem? (i := 838) (by decide +kernel)⟩
theorem lw_p24 : lw_okq (⟨"BillSharesModel", "byUses", "(II)V"⟩, 28) := ⟨⟨by decide +kernel, by decide +kernel⟩, List.mem_of_getElem? (i := 656) (by decide +kernel), List.mem_of_getElem? (i := 841) (by decide +kernel), List.mem_of_getElem? (i := 842) (by decide +kernel)⟩
theorem lw_p25 : lw_okq (⟨"BillSharesModel", "barredOf", "(III)I"⟩, 28) := ⟨⟨by decide +kernel, by decide +kernel⟩, List.mem_of_getElem? (i := 656) (by decide +kernel), List.mem_of_getElem? (i := 845) (by decide +kernel), List.mem_of_getElem? (i := 846) (by decide +kernel)⟩
theorem lw_p26 : lw_okq (⟨"BillSharesModel", "why", "(II)I"⟩, 28) := ⟨⟨by decide +kernel, by decide +kernel⟩, List.mem_of_getElem? (i := 656) (by decide +kernel), List.mem_of_getElem? (i := 849) (by decide +kernel), List.mem_of_getElem? (i := 850) (by decide +kernel)⟩
theorem lw_p27 : lw_okq (⟨"BillSharesModel", "usedBy", "(IIII)J"⟩, 28) := ⟨⟨by decide +kernel, by decide +kernel⟩, List.mem_of_getElem? (i := 656) (by decide +kernel), List.mem_of_getElem? (i := 853) (by decide +kernel), List.mem_of_getElem? (i := 854) (by decide +kernel)⟩
theorem lw_p28 : lw_okq (⟨"BillSharesModel", "useOf", "(III)J"⟩, 28) := ⟨⟨by decide +kernel, by decide +kernel⟩, List.mem_of_getElem? (i := 656) (by decide +kernel), List.mem_of_getElem? (i := 857) (by decide +kernel), List.mem_of_getElem? (i := 858) (by decide +kernel)⟩
theorem lw_p29 : lw_okq (⟨"BillSharesModel", "has", "(ZII)Z"⟩, 28) := ⟨⟨by decide +kernel, by decide +kernel⟩, List.mem_of_getElem? (i := 656) (by decide +kernel), List.mem_of_getElem? (i := 874) (by decide +kernel), List.mem_of_getElem? (i := 875) (by decide +kernel)⟩
theorem lw_p30 : lw_okq (⟨"BillSharesModel", "days", "(III)I"⟩, 28) := ⟨⟨by decide +kernel, by decide +kernel⟩, List.mem_of_getElem? (i := 656) (by decide +kernel), List.mem_of_getElem? (i := 886) (by decide +kernel), List.mem_of_getElem? (i := 887) (by decide +kernel)⟩
theorem lw_p31 : lw_okq (⟨"BillSharesModel", "end", "(III)I"⟩, 28) := ⟨⟨by decide +kernel, by decide +kernel⟩, List.mem_of_getElem? (i := 656) (by decide +kernel), List.mem_of_getElem? (i := 890) (by decide +kernel), List.mem_of_getElem? (i := 891) (by decide +kernel)⟩
def lw_privs_2 : List (MethodName × Nat) := [(⟨"BillSharesModel", "allows", "(ZZ)Z"⟩, 28), (⟨"BillSharesModel", "isFlat", "(I)Z"⟩, 28), (⟨"BillSharesModel", "put", "(IIIIZ)I"⟩, 28), (⟨"BillSharesModel", "isMeter", "(I)Z"⟩, 28), (⟨"BillSharesModel", "shareOf", "(II)J"⟩, 28), (⟨"BillSharesModel", "byAreas", "()V"⟩, 28), (⟨"BillSharesModel", "deal", "(J)V"⟩, 28), (⟨"BillSharesModel", "before", "(I)I"⟩, 28), (⟨"BillSharesModel", "byUses", "(II)V"⟩, 28), (⟨"BillSharesModel", "barredOf", "(III)I"⟩, 28), (⟨"BillSharesModel", "why", "(II)I"⟩, 28), (⟨"BillSharesModel", "usedBy", "(IIII)J"⟩, 28), (⟨"BillSharesModel", "useOf", "(III)J"⟩, 28), (⟨"BillSharesModel", "has", "(ZII)Z"⟩, 28), (⟨"BillSharesModel", "days", "(III)I"⟩, 28), (⟨"BillSharesModel", "end", "(III)I"⟩, 28)]
theorem lw_r2 : ∀ q ∈ lw_privs_2, lw_okq q := List.forall_mem_cons.mpr ⟨lw_p16, List.forall_mem_cons.mpr ⟨lw_p17, List.forall_mem_cons.mpr ⟨lw_p18, List.forall_mem_cons.mpr ⟨lw_p19, List.forall_mem_cons.mpr ⟨lw_p20, List.forall_mem_cons.mpr ⟨lw_p21, List.forall_mem_cons.mpr ⟨lw_p22, List.forall_mem_cons.mpr ⟨lw_p23, List.forall_mem_cons.mpr ⟨lw_p24, List.forall_mem_cons.mpr ⟨lw_p25, List.forall_mem_cons.mpr ⟨lw_p26, List.forall_mem_cons.mpr ⟨lw_p27, List.forall_mem_cons.mpr ⟨lw_p28, List.forall_mem_cons.mpr ⟨lw_p29, List.forall_mem_cons.mpr ⟨lw_p30, List.forall_mem_cons.mpr ⟨lw_p31, fun _ h => absurd h List.not_mem_nil⟩⟩⟩⟩⟩⟩⟩⟩⟩⟩⟩⟩⟩⟩⟩⟩
theorem lw_p32 : lw_okq (⟨"BillSharesModel", "begin", "(III)I"⟩, 28) := ⟨⟨by decide +kernel, by decide +kernel⟩, List.mem_of_getElem? (i := 656) (by decide +kernel), List.mem_of_getElem? (i := 894) (by decide +kernel), List.mem_of_getElem? (i := 895) (by decide +kernel)⟩
theorem lw_p33 : lw_okq (⟨"BillSharesModel", "own", "(IIII)J"⟩, 28) := ⟨⟨by decide +kernel, by decide +kernel⟩, List.mem_of_getElem? (i := 656) (by decide +kernel), List.mem_of_getElem? (i := 898) (by decide +kernel), List.mem_of_getElem? (i := 899) (by decide +kernel)⟩
def lw_privs_3 : List (MethodName × Nat) := [(⟨"BillSharesModel", "begin", "(III)I"⟩, 28), (⟨"BillSharesModel", "own", "(IIII)J"⟩, 28)]
theorem lw_r3 : ∀ q ∈ lw_privs_3, lw_okq q := List.forall_mem_cons.mpr ⟨lw_p32, List.forall_mem_cons.mpr ⟨lw_p33, fun _ h => absurd h List.not_mem_nil⟩⟩
def lw_privs : List (MethodName × Nat) := lw_privs_1 ++ (lw_privs_2 ++ (lw_privs_3))
def lw_tbl : List Cond := k2_sels lw_privs ++ tables_1
theorem lw_privs_ok : ∀ q ∈ lw_privs, lw_okq q := by
  show ∀ q ∈ lw_privs_1 ++ (lw_privs_2 ++ (lw_privs_3)), lw_okq q
  exact List.forall_mem_append.mpr ⟨lw_r1, List.forall_mem_append.mpr ⟨lw_r2, lw_r3⟩⟩
end
section
/-! names of classes and fields (written by wip/whole/mknames.py) -/
def zR_S : String := "BillShares"
def zF_S : u_T := fun k => match k with
  | 0 => ("BillShares", "flats", "Ljava/util/ArrayList;", true)
  | 1 => ("BillShares", "flatsByRank", "Ljava/util/ArrayList;", true)
  | 2 => ("BillShares", "meters", "Ljava/util/ArrayList;", true)
  | 3 => ("BillShares", "costs", "[I", true)
  | 4 => ("BillShares", "bases", "[I", true)
  | _ => ("BillShares", "editions", "[I", true)
def zt_S : Nat → FieldType := fun k => match k with
  | 0 => .object "java/util/ArrayList"
  | 1 => .object "java/util/ArrayList"
  | 2 => .object "java/util/ArrayList"
  | 3 => .array (.int)
  | 4 => .array (.int)
  | _ => .array (.int)
theorem zn_S : ∀ a, a < 6 → ∀ b, b < 6 → a ≠ b → (zF_S a).2.1 ≠ (zF_S b).2.1 := by decide +kernel
theorem zk_S : ∀ k, k < 6 → parseFieldDescriptor (zF_S k).2.2.1 = some (zt_S k) := by decide +kernel
theorem zi_S : ∀ w ∈ u_ws zR_S zF_S 6, w ∈ lw_tbl := by decide +kernel
def zR_F : String := "BillShares$Flat"
def zF_F : u_T := fun k => match k with
  | 0 => ("BillShares$Flat", "area", "I", true)
  | 1 => ("BillShares$Flat", "rank", "I", true)
  | 2 => ("BillShares$Flat", "meters", "Ljava/util/ArrayList;", true)
  | 3 => ("BillShares$Flat", "moveDays", "[I", true)
  | 4 => ("BillShares$Flat", "dwellers", "I", false)
  | 5 => ("BillShares$Flat", "paid", "[J", true)
  | 6 => ("BillShares$Flat", "bills", "[LBillShares$Bill;", true)
  | 7 => ("BillShares$Flat", "told", "Z", false)
  | 8 => ("BillShares$Flat", "weight", "J", false)
  | _ => ("BillShares$Flat", "dealt", "J", false)
def zt_F : Nat → FieldType := fun k => match k with
  | 0 => .int
  | 1 => .int
  | 2 => .object "java/util/ArrayList"
  | 3 => .array (.int)
  | 4 => .int
  | 5 => .array (.long)
  | 6 => .array (.object "BillShares$Bill")
  | 7 => .boolean
  | 8 => .long
  | _ => .long
theorem zn_F : ∀ a, a < 10 → ∀ b, b < 10 → a ≠ b → (zF_F a).2.1 ≠ (zF_F b).2.1 := by decide +kernel
theorem zk_F : ∀ k, k < 10 → parseFieldDescriptor (zF_F k).2.2.1 = some (zt_F k) := by decide +kernel
theorem zi_F : ∀ w ∈ u_ws zR_F zF_F 10, w ∈ lw_tbl := by decide +kernel
def zR_T : String := "BillShares$Meter"
def zF_T : u_T := fun k => match k with
  | 0 => ("BillShares$Meter", "kind", "I", true)
  | 1 => ("BillShares$Meter", "above", "I", true)
  | 2 => ("BillShares$Meter", "below", "I", true)
  | 3 => ("BillShares$Meter", "testedTo", "I", false)
  | 4 => ("BillShares$Meter", "readings", "I", false)
  | 5 => ("BillShares$Meter", "days", "[I", true)
  | 6 => ("BillShares$Meter", "values", "[I", true)
  | _ => ("BillShares$Meter", "starts", "[I", true)
def zt_T : Nat → FieldType := fun k => match k with
  | 0 => .int
  | 1 => .int
  | 2 => .int
  | 3 => .int
  | 4 => .int
  | 5 => .array (.int)
  | 6 => .array (.int)
  | _ => .array (.int)
theorem zn_T : ∀ a, a < 8 → ∀ b, b < 8 → a ≠ b → (zF_T a).2.1 ≠ (zF_T b).2.1 := by decide +kernel
theorem zk_T : ∀ k, k < 8 → parseFieldDescriptor (zF_T k).2.2.1 = some (zt_T k) := by decide +kernel
theorem zi_T : ∀ w ∈ u_ws zR_T zF_T 8, w ∈ lw_tbl := by decide +kernel
def zR_B : String := "BillShares$Bill"
def zF_B : u_T := fun k => match k with
  | 0 => ("BillShares$Bill", "base", "[J", true)
  | 1 => ("BillShares$Bill", "used", "[J", true)
  | _ => ("BillShares$Bill", "before", "J", false)
def zt_B : Nat → FieldType := fun k => match k with
  | 0 => .array (.long)
  | 1 => .array (.long)
  | _ => .long
theorem zn_B : ∀ a, a < 3 → ∀ b, b < 3 → a ≠ b → (zF_B a).2.1 ≠ (zF_B b).2.1 := by decide +kernel
theorem zk_B : ∀ k, k < 3 → parseFieldDescriptor (zF_B k).2.2.1 = some (zt_B k) := by decide +kernel
theorem zi_B : ∀ w ∈ u_ws zR_B zF_B 3, w ∈ lw_tbl := by decide +kernel
def zR_M : String := "BillSharesModel"
def zF_M : u_T := fun k => match k with
  | 0 => ("BillSharesModel", "code", "I", false)
  | 1 => ("BillSharesModel", "flats", "I", false)
  | 2 => ("BillSharesModel", "area", "[I", true)
  | 3 => ("BillSharesModel", "rank", "[I", true)
  | 4 => ("BillSharesModel", "lives", "[I", true)
  | 5 => ("BillSharesModel", "since", "[I", true)
  | 6 => ("BillSharesModel", "paid", "[J", true)
  | 7 => ("BillSharesModel", "meters", "I", false)
  | 8 => ("BillSharesModel", "flatOf", "[I", true)
  | 9 => ("BillSharesModel", "kindOf", "[I", true)
  | 10 => ("BillSharesModel", "above", "[I", true)
  | 11 => ("BillSharesModel", "below", "[I", true)
  | 12 => ("BillSharesModel", "tested", "[I", true)
  | 13 => ("BillSharesModel", "readings", "[I", true)
  | 14 => ("BillSharesModel", "day", "[I", true)
  | 15 => ("BillSharesModel", "value", "[I", true)
  | 16 => ("BillSharesModel", "goes", "[I", true)
  | 17 => ("BillSharesModel", "renewed", "[Z", true)
  | 18 => ("BillSharesModel", "cost", "[I", true)
  | 19 => ("BillSharesModel", "base", "[I", true)
  | 20 => ("BillSharesModel", "edition", "[I", true)
  | 21 => ("BillSharesModel", "there", "[I", true)
  | 22 => ("BillSharesModel", "thereBefore", "[I", true)
  | 23 => ("BillSharesModel", "basePart", "[J", true)
  | 24 => ("BillSharesModel", "usedPart", "[J", true)
  | 25 => ("BillSharesModel", "shareBefore", "[J", true)
  | 26 => ("BillSharesModel", "numbers", "[J", true)
  | _ => ("BillSharesModel", "gets", "[J", true)
def zt_M : Nat → FieldType := fun k => match k with
  | 0 => .int
  | 1 => .int
  | 2 => .array (.int)
  | 3 => .array (.int)
  | 4 => .array (.int)
  | 5 => .array (.int)
  | 6 => .array (.long)
  | 7 => .int
  | 8 => .array (.int)
  | 9 => .array (.int)
  | 10 => .array (.int)
  | 11 => .array (.int)
  | 12 => .array (.int)
  | 13 => .array (.int)
  | 14 => .array (.int)
  | 15 => .array (.int)
  | 16 => .array (.int)
  | 17 => .array (.boolean)
  | 18 => .array (.int)
  | 19 => .array (.int)
  | 20 => .array (.int)
  | 21 => .array (.int)
  | 22 => .array (.int)
  | 23 => .array (.long)
  | 24 => .array (.long)
  | 25 => .array (.long)
  | 26 => .array (.long)
  | _ => .array (.long)
theorem zn_M : ∀ a, a < 28 → ∀ b, b < 28 → a ≠ b → (zF_M a).2.1 ≠ (zF_M b).2.1 := by decide +kernel
theorem zk_M : ∀ k, k < 28 → parseFieldDescriptor (zF_M k).2.2.1 = some (zt_M k) := by decide +kernel
theorem zi_M : ∀ w ∈ u_ws zR_M zF_M 28, w ∈ lw_tbl := by decide +kernel
def zR_A : String := "java/util/ArrayList"
def zF_A : u_T := fun k => match k with
  | 0 => ("java/util/ArrayList", "elementData", "[Ljava/lang/Object;", false)
  | 1 => ("java/util/ArrayList", "size", "I", false)
  | _ => ("java/util/AbstractList", "modCount", "I", false)
def zt_A : Nat → FieldType := fun k => match k with
  | 0 => .array (.object "java/lang/Object")
  | 1 => .int
  | _ => .int
theorem zn_A : ∀ a, a < 3 → ∀ b, b < 3 → a ≠ b → (zF_A a).2.1 ≠ (zF_A b).2.1 := by decide +kernel
theorem zk_A : ∀ k, k < 3 → parseFieldDescriptor (zF_A k).2.2.1 = some (zt_A k) := by decide +kernel
theorem zi_A : ∀ w ∈ u_ws zR_A zF_A 3, w ∈ lw_tbl := by decide +kernel
def zR_IA : String := "java/lang/IllegalArgumentException"
def zF_IA : u_T := fun k => match k with
  | 0 => ("java/lang/Throwable", "cause", "Ljava/lang/Throwable;", false)
  | 1 => ("java/lang/Throwable", "stackTrace", "[Ljava/lang/StackTraceElement;", false)
  | 2 => ("java/lang/Throwable", "suppressedExceptions", "Ljava/util/List;", false)
  | 3 => ("java/lang/Throwable", "detailMessage", "Ljava/lang/String;", false)
  | 4 => ("java/lang/Throwable", "backtrace", "Ljava/lang/Object;", false)
  | _ => ("java/lang/Throwable", "depth", "I", false)
def zt_IA : Nat → FieldType := fun k => match k with
  | 0 => .object "java/lang/Throwable"
  | 1 => .array (.object "java/lang/StackTraceElement")
  | 2 => .object "java/util/List"
  | 3 => .object "java/lang/String"
  | 4 => .object "java/lang/Object"
  | _ => .int
theorem zn_IA : ∀ a, a < 6 → ∀ b, b < 6 → a ≠ b → (zF_IA a).2.1 ≠ (zF_IA b).2.1 := by decide +kernel
theorem zk_IA : ∀ k, k < 6 → parseFieldDescriptor (zF_IA k).2.2.1 = some (zt_IA k) := by decide +kernel
theorem zi_IA : ∀ w ∈ u_ws zR_IA zF_IA 6, w ∈ lw_tbl := by decide +kernel
def zR_IS : String := "java/lang/IllegalStateException"
def zF_IS : u_T := fun k => match k with
  | 0 => ("java/lang/Throwable", "cause", "Ljava/lang/Throwable;", false)
  | 1 => ("java/lang/Throwable", "stackTrace", "[Ljava/lang/StackTraceElement;", false)
  | 2 => ("java/lang/Throwable", "suppressedExceptions", "Ljava/util/List;", false)
  | 3 => ("java/lang/Throwable", "detailMessage", "Ljava/lang/String;", false)
  | 4 => ("java/lang/Throwable", "backtrace", "Ljava/lang/Object;", false)
  | _ => ("java/lang/Throwable", "depth", "I", false)
def zt_IS : Nat → FieldType := fun k => match k with
  | 0 => .object "java/lang/Throwable"
  | 1 => .array (.object "java/lang/StackTraceElement")
  | 2 => .object "java/util/List"
  | 3 => .object "java/lang/String"
  | 4 => .object "java/lang/Object"
  | _ => .int
theorem zn_IS : ∀ a, a < 6 → ∀ b, b < 6 → a ≠ b → (zF_IS a).2.1 ≠ (zF_IS b).2.1 := by decide +kernel
theorem zk_IS : ∀ k, k < 6 → parseFieldDescriptor (zF_IS k).2.2.1 = some (zt_IS k) := by decide +kernel
theorem zi_IS : ∀ w ∈ u_ws zR_IS zF_IS 6, w ∈ lw_tbl := by decide +kernel
abbrev am_cl : List vw_C := [(zR_S, zF_S, 6), (zR_F, zF_F, 10), (zR_T, zF_T, 8), (zR_B, zF_B, 3), (zR_M, zF_M, 28), (zR_A, zF_A, 3), (zR_IA, zF_IA, 6), (zR_IS, zF_IS, 6)]
abbrev am_ty : List (Nat × FieldType) := [(0, .int), (1, .long), (2, .object "java/lang/Object"), (3, .object "BillShares$Bill"), (4, .boolean)]
end
section
/-! THE ABSTRACT MACHINE (part am, written by wip/whole/mkam.py). Ints and longs of the machine stand as Ints (iV, lV); the heap since the law's start H0 is a map from addresses to cells (am_H), the next new address is nx; V is the kit's W for every heap, every list of written places and every array of locals that the map and the list L allow. -/
abbrev iV (z : Int) : Value := .int (Int32.ofInt z)
abbrev lV (z : Int) : Value := .long (Int64.ofInt z)
abbrev am_E : Type := (Nat × Nat × (Nat → Value)) ⊕ (Nat × List Value)
abbrev am_H : Type := Nat → Option am_E
def am_up (h : am_H) (a : Nat) (e : am_E) : am_H := fun b => if b = a then some e else h b
theorem am_up_s {h : am_H} {a : Nat} {e : am_E} : am_up h a e a = some e := if_pos rfl
theorem am_up_n {h : am_H} {a b : Nat} {e : am_E} (hne : b ≠ a) : am_up h a e b = h b := if_neg hne
/-- what is fixed: class numbers and slots, array classes, the heap at the start, the address of ArrayList's empty array -/
abbrev am_X : Type := va_G × (Nat → ClassId) × Heap × Nat
abbrev am_sz (X : am_X) : Nat := X.2.2.1.size
/-- the cell e stands at the address a -/
def am_at (X : am_X) (a : Nat) (e : am_E) (H : Heap) : Prop := match e with
  | .inl x => H[a]? = some (arrV (X.2.1 x.1) x.2.1 x.2.2)
  | .inr o => ∃ r : vw_C, am_cl[o.1]? = some r ∧ t_OB a (X.1.1 o.1) r.2.2 (X.1.2 o.1) H (vp_V o.2)
/-- the heap H holds the map h, its next address is nx, and below the law's start it is as it was -/
def am_R (X : am_X) (h : am_H) (nx : Nat) (H : Heap) : Prop := H.size = nx ∧ am_sz X ≤ nx ∧ (∀ q : Nat, q < am_sz X → H[q]? = X.2.2.1[q]?) ∧ ∀ (a : Nat) (e : am_E), h a = some e → am_sz X ≤ a ∧ am_at X a e H
/-- the good words of the tables -/
def am_tb : List Cond := lw_tbl.filter goodWord
theorem am_in {w : Cond} (h : w ∈ lw_tbl) (g : goodWord w = true) : w ∈ am_tb := List.mem_filter.mpr ⟨h, g⟩
theorem am_lays {C : String} {T : u_T} {N : Nat} (h : ∀ w ∈ u_ws C T N, w ∈ lw_tbl) : ∀ w ∈ u_ws C T N, w ∈ am_tb := fun w hw => am_in (h w hw) (by
  obtain ⟨k, -, rfl⟩ := List.mem_map.mp hw
  unfold u_lay
  split <;> rfl)
/-- words that stay for a reason of their own -/
def am_xt : Cond → Bool
  | .castable _ _ => true
  | .declares _ => true
  | .methodLinkNest _ _ _ _ => true
  | .arrayOver (.object _) => true
  | _ => false
theorem am_xt_warm {w : Cond} {s U : State} (hx : am_xt w = true) (hW : s.WarmedH U.vm) (h : va_Nw w s) : va_Nw w U := by
  cases w <;> first
    | exact va_Nw.warmC hW h
    | exact va_Nw.warmD hW h
    | exact va_Nw.warmM hW h
    | (rename_i ty; cases ty <;> first | exact va_AO.moved hW.alike h | cases hx)
    | cases hx
abbrev am_DE : String := "DEFAULTCAPACITY_EMPTY_ELEMENTDATA"
def am_K (X : am_X) (U : State) : Prop :=
  va_K X.1 am_cl (am_ty.map (fun q => (X.2.1 q.1, q.2))) U ∧ (∀ w ∈ lw_tbl, am_xt w = true → va_Nw w U) ∧ (∀ (o : String) (k : Nat) (tx : String), Cond.stringRef o k tx ∈ lw_tbl → ∃ a : Nat, vk_R o k tx a U) ∧
  va_Z "java/util/ArrayList" am_DE "[Ljava/lang/Object;" (.ref X.2.2.2) (fun q => am_sz X ≤ q) U X.2.2.1 ∧ va_T (.object "java/lang/Object") X.2.2.2 0 (fun _ => .null) (fun q => am_sz X ≤ q) U X.2.2.1 ∧
  va_Zq "java/lang/Throwable" "UNASSIGNED_STACK" "[Ljava/lang/StackTraceElement;" (fun q => am_sz X ≤ q) U X.2.2.1 ∧ va_Zq "java/lang/Throwable" "SUPPRESSED_SENTINEL" "Ljava/util/List;" (fun q => am_sz X ≤ q) U X.2.2.1 ∧
  (∃ mi : Nat, va_Mi "[Ljava/lang/Object;" mi U) ∧ va_Nc "java/lang/IllegalStateException" "java/lang/IllegalArgumentException" U
theorem am_K_warm {X : am_X} {s U : State} (hW : s.WarmedH U.vm) (h : am_K X s) : am_K X U := by
  obtain ⟨h1, h2, h3, h4, h5, h6, h7, ⟨mi, h8⟩, h9⟩ := h
  exact ⟨h1.moved hW.alike, fun w hw hx => am_xt_warm hx hW (h2 w hw hx), fun o k tx hm => (by obtain ⟨a, ha⟩ := h3 o k tx hm; exact ⟨a, ha.warm hW⟩), h4.moved hW.alike, h5.moved hW.alike, h6.moved hW.alike, h7.moved hW.alike, ⟨mi, h8.moved hW.alike⟩, h9.moved hW.alike⟩
def am_Fx (p : Program) (s : State) (m : MethodId) (args : Array Value) (meth : Method) (c : Code) (y : MethodName) (cc : ByteArray) (nL : Nat) (ret : Option FieldType) (et : List (Nat × Nat × Nat × Nat)) (X : am_X) : Prop :=
  p.tables.exec = Jvm.exec ∧ c.code = cc ∧ c.maxLocals = nL ∧ s.vm.findClass y.cls = some m.cls ∧ (∀ w ∈ am_tb, w.before args s = true) ∧ am_K X s ∧ meth.locks = false ∧ meth.sig.returnType = ret ∧ meth.name = y.name ∧ c.exceptionTable.toList.map (fun h => (h.startPc, h.endPc, h.handlerPc, h.catchType)) = et
def am_L (ls : Array Slot) (nL : Nat) (L : List (Option Value)) : Prop := ls.size = nL ∧ lv_wf ls ∧ ∀ (i : Nat) (v : Value), L[i]? = some (some v) → ls[i]? = some (.val v)
def V (p : Program) (l : Launch) (e : Env) (R : Room) (s : State) (m : MethodId) (args : Array Value) (below : List Frame) (meth : Method) (c : Code) (nL : Nat) (X : am_X) (Q : State → Prop) (h : am_H) (nx cells slots pc : Nat) (L : List (Option Value)) (st : List Value) : Prop :=
  ∀ (H : Heap) (locs : List Loc) (ls : Array Slot), am_R X h nx H → (∀ q ∈ locs, am_sz X ≤ q.base) → am_L ls nL L → W p l e R s m args below meth c H locs cells slots Q (F0 m pc ls st)
/-! the variables of a frame -/
def am_li (L : List (Option Value)) : List (Nat × Value) := (List.range L.length).filterMap (fun i => match L[i]? with | some (some v) => some (i, v) | _ => none)
theorem am_li_mem {L : List (Option Value)} {q : Nat × Value} : q ∈ am_li L ↔ L[q.1]? = some (some q.2) := by
  unfold am_li
  rw [List.mem_filterMap]
  constructor
  · rintro ⟨i, -, hi⟩
    split at hi
    next v hv => cases hi; exact hv
    next => cases hi
  · intro hq
    refine ⟨q.1, List.mem_range.mpr ?_, ?_⟩
    · exact (List.getElem?_eq_some_iff.mp hq).1
    · rw [hq]
theorem am_L_has {ls : Array Slot} {nL : Nat} {L : List (Option Value)} : am_L ls nL L ↔ lv_has ls nL (am_li L) := by
  constructor
  · rintro ⟨h1, h2, h3⟩
    exact ⟨h1, h2, fun q hq => h3 q.1 q.2 (am_li_mem.mp hq)⟩
  · rintro ⟨h1, h2, h3⟩
    exact ⟨h1, h2, fun i v hv => h3 (i, v) (am_li_mem.mpr hv)⟩
def am_nl (L : List (Option Value)) (k : Nat) : Bool := match k with
  | 0 => true
  | k + 1 => match L[k]? with
    | some (some v) => v.category != 2
    | _ => true
theorem am_nl_ne {L : List (Option Value)} {k j : Nat} {v : Value} (hk : am_nl L k = true) (hj : j + 1 = k) (hv : L[j]? = some (some v)) : (v.category == 2) = false := by
  subst hj
  simp only [am_nl, hv] at hk
  simpa using hk
theorem am_store1 {ls : Array Slot} {nL : Nat} {L : List (Option Value)} {k : Nat} {v : Value} (h : am_L ls nL L) (hk : k < nL) (hc : v.category = 1) (hn : am_nl L k = true) : ∃ ls', storeLocals ls k v = some ls' ∧ am_L ls' nL (L.set k (some v)) := by
  obtain ⟨ls', e1, h1, h2, h3⟩ := lv_store1 (v := v) (am_L_has.mp h) hk hc
  refine ⟨ls', e1, h1, h2, fun i w hw => ?_⟩
  by_cases hi : i = k
  · subst hi
    rw [List.getElem?_set] at hw
    simp only [if_true] at hw
    split at hw
    · cases hw; exact h3 (i, v) List.mem_cons_self
    · cases hw
  · rw [List.getElem?_set, if_neg (fun q => hi q.symm)] at hw
    refine h3 (i, w) (List.mem_cons_of_mem _ (List.mem_filter.mpr ⟨am_li_mem.mpr hw, ?_⟩))
    have a1 : (i == k) = false := by simpa using hi
    by_cases h5 : i + 1 = k
    · simp [a1, am_nl_ne hn h5 hw]
    · have a2 : (i + 1 == k) = false := by simpa using h5
      simp [a1, a2]
theorem am_store2 {ls : Array Slot} {nL : Nat} {L : List (Option Value)} {k : Nat} {v : Value} (h : am_L ls nL L) (hk : k + 1 < nL) (hc : v.category = 2) (hn : am_nl L k = true) : ∃ ls', storeLocals ls k v = some ls' ∧ am_L ls' nL ((L.set k (some v)).set (k + 1) none) := by
  obtain ⟨ls', e1, h1, h2, h3⟩ := lv_store2 (v := v) (am_L_has.mp h) hk hc
  refine ⟨ls', e1, h1, h2, fun i w hw => ?_⟩
  rw [List.getElem?_set] at hw
  by_cases hj : k + 1 = i
  · rw [if_pos hj] at hw
    split at hw <;> cases hw
  · rw [if_neg hj, List.getElem?_set] at hw
    by_cases hi : k = i
    · rw [if_pos hi] at hw
      subst hi
      split at hw
      · cases hw; exact h3 (k, v) List.mem_cons_self
      · cases hw
    · rw [if_neg hi] at hw
      refine h3 (i, w) (List.mem_cons_of_mem _ (List.mem_filter.mpr ⟨am_li_mem.mpr hw, ?_⟩))
      have a1 : (i == k) = false := by simpa using (fun q : i = k => hi q.symm)
      have a3 : (i == k + 1) = false := by simpa using (fun q : i = k + 1 => hj q.symm)
      by_cases h5 : i + 1 = k
      · simp [a1, a3, am_nl_ne hn h5 hw]
      · have a2 : (i + 1 == k) = false := by simpa using h5
        simp [a1, a2, a3]
theorem am_L_sub {ls : Array Slot} {nL : Nat} {L L' : List (Option Value)} (h : am_L ls nL L) (hs : ∀ (i : Nat) (v : Value), L'[i]? = some (some v) → L[i]? = some (some v)) : am_L ls nL L' := ⟨h.1, h.2.1, fun i v hv => h.2.2 i v (hs i v hv)⟩
/-! numbers -/
theorem i32_toInt {a : Int} (ha : -2147483648 ≤ a ∧ a < 2147483648) : (Int32.ofInt a).toInt = a := Int32.toInt_ofInt_of_le (by omega) (by omega)
theorem i32_lt {a b : Int} (ha : -2147483648 ≤ a ∧ a < 2147483648) (hb : -2147483648 ≤ b ∧ b < 2147483648) : Int32.ofInt a < Int32.ofInt b ↔ a < b := by rw [Int32.lt_iff_toInt_lt, i32_toInt ha, i32_toInt hb]
theorem i32_le {a b : Int} (ha : -2147483648 ≤ a ∧ a < 2147483648) (hb : -2147483648 ≤ b ∧ b < 2147483648) : Int32.ofInt a ≤ Int32.ofInt b ↔ a ≤ b := by rw [Int32.le_iff_toInt_le, i32_toInt ha, i32_toInt hb]
theorem i64_toInt {a : Int} (ha : -9223372036854775808 ≤ a ∧ a < 9223372036854775808) : (Int64.ofInt a).toInt = a := Int64.toInt_ofInt_of_le (by omega) (by omega)
theorem i32_eq {a b : Int} (ha : -2147483648 ≤ a ∧ a < 2147483648) (hb : -2147483648 ≤ b ∧ b < 2147483648) : Int32.ofInt a = Int32.ofInt b ↔ a = b := ⟨fun h => by rw [← i32_toInt ha, ← i32_toInt hb, h], fun h => by rw [h]⟩
theorem i64_eq {a b : Int} (ha : -9223372036854775808 ≤ a ∧ a < 9223372036854775808) (hb : -9223372036854775808 ≤ b ∧ b < 9223372036854775808) : Int64.ofInt a = Int64.ofInt b ↔ a = b := ⟨fun h => by rw [← i64_toInt ha, ← i64_toInt hb, h], fun h => by rw [h]⟩
theorem i64_lt {a b : Int} (ha : -9223372036854775808 ≤ a ∧ a < 9223372036854775808) (hb : -9223372036854775808 ≤ b ∧ b < 9223372036854775808) : Int64.ofInt a < Int64.ofInt b ↔ a < b := by rw [Int64.lt_iff_toInt_lt, i64_toInt ha, i64_toInt hb]
theorem i32_clamp {n : Nat} (hn : n < 2147483648) : (Int32.ofInt (n : Int)).toNatClampNeg = n := by
  show (Int32.ofInt (n : Int)).toInt.toNat = n
  rw [i32_toInt (by omega)]
  rfl
theorem i32_div {a b : Int} (ha : -2147483648 < a ∧ a < 2147483648) (hb : -2147483648 ≤ b ∧ b < 2147483648) : Int32.ofInt a / Int32.ofInt b = Int32.ofInt (a.tdiv b) := by
  apply Int32.toInt_inj.mp
  rw [Int32.toInt_div_of_ne_left _ _ (by intro h; have := congrArg Int32.toInt h; rw [i32_toInt (by omega)] at this; simp at this; omega), i32_toInt (by omega), i32_toInt hb, i32_toInt]
  have h1 := Int.natAbs_tdiv_le_natAbs a b
  omega
theorem i64_div {a b : Int} (ha : -9223372036854775808 < a ∧ a < 9223372036854775808) (hb : -9223372036854775808 ≤ b ∧ b < 9223372036854775808) : Int64.ofInt a / Int64.ofInt b = Int64.ofInt (a.tdiv b) := by
  apply Int64.toInt_inj.mp
  rw [Int64.toInt_div_of_ne_left _ _ (by intro h; have := congrArg Int64.toInt h; rw [i64_toInt (by omega)] at this; simp at this; omega), i64_toInt (by omega), i64_toInt hb, i64_toInt]
  have h1 := Int.natAbs_tdiv_le_natAbs a b
  omega
theorem i64_of32 {a : Int} (ha : -2147483648 ≤ a ∧ a < 2147483648) : (Int32.ofInt a).toInt64 = Int64.ofInt a := by
  apply Int64.toInt_inj.mp
  rw [Int32.toInt_toInt64, i32_toInt ha, i64_toInt (by omega)]
theorem i32_of64 {a : Int} : (Int64.ofInt a).toInt32 = Int32.ofInt a := by simp

section AM
variable {p : Program} {l : Launch} {e : Env} {R : Room} {s : State} {m : MethodId} {args : Array Value} {below : List Frame} {meth : Method} {c : Code} {nL : Nat} {X : am_X} {Q : State → Prop}
variable {cc : ByteArray} {y : MethodName} {ret : Option FieldType} {et : List (Nat × Nat × Nat × Nat)} {h : am_H} {nx cells slots pc pc' : Nat} {L : List (Option Value)} {st : List Value}
theorem v_sub {L' : List (Option Value)} (hs : ∀ (i : Nat) (v : Value), L'[i]? = some (some v) → L[i]? = some (some v)) (k : V p l e R s m args below meth c nL X Q h nx cells slots pc L' st) : V p l e R s m args below meth c nL X Q h nx cells slots pc L st := fun H locs ls hR hL hl => k H locs ls hR hL (am_L_sub hl hs)
theorem v_widen {cells' slots' : Nat} (hc : cells ≤ cells') (hs : slots ≤ slots') (k : V p l e R s m args below meth c nL X Q h nx cells' slots' pc L st) : V p l e R s m args below meth c nL X Q h nx cells slots pc L st := fun H locs ls hR hL hl => W.widen hc hs (k H locs ls hR hL hl)
theorem v_iconst (F : am_Fx p s m args meth c y cc nL ret et X) {n : Int} (d : decode cc pc = .ok (.iconst n, 1)) (hp : pc + 1 = pc')  (k : V p l e R s m args below meth c nL X Q h nx cells slots pc' L (iV n :: st)) : V p l e R s m args below meth c nL X Q h nx cells slots pc L st := by
  subst hp
  intro H locs ls hR hL hl
  exact lv_iconst F.1 F.2.1 d rfl (k H locs ls hR hL hl)
theorem v_bipush (F : am_Fx p s m args meth c y cc nL ret et X) {n : Int} (d : decode cc pc = .ok (.bipush n, 2)) (hp : pc + 2 = pc') (hv : (Int8.ofInt n).toInt32 = Int32.ofInt n) (k : V p l e R s m args below meth c nL X Q h nx cells slots pc' L (iV n :: st)) : V p l e R s m args below meth c nL X Q h nx cells slots pc L st := by
  subst hp
  intro H locs ls hR hL hl
  exact lv_bipush F.1 F.2.1 d hv (k H locs ls hR hL hl)
theorem v_sipush (F : am_Fx p s m args meth c y cc nL ret et X) {n : Int} (d : decode cc pc = .ok (.sipush n, 3)) (hp : pc + 3 = pc') (hv : (Int16.ofInt n).toInt32 = Int32.ofInt n) (k : V p l e R s m args below meth c nL X Q h nx cells slots pc' L (iV n :: st)) : V p l e R s m args below meth c nL X Q h nx cells slots pc L st := by
  subst hp
  intro H locs ls hR hL hl
  exact lv_sipush F.1 F.2.1 d hv (k H locs ls hR hL hl)
theorem v_lconst (F : am_Fx p s m args meth c y cc nL ret et X) {n : Fin 2} {z : Int} (d : decode cc pc = .ok (.lconst n, 1)) (hp : pc + 1 = pc') (hv : Int64.ofNat (n : Nat) = Int64.ofInt z) (k : V p l e R s m args below meth c nL X Q h nx cells slots pc' L (lV z :: st)) : V p l e R s m args below meth c nL X Q h nx cells slots pc L st := by
  subst hp
  intro H locs ls hR hL hl
  exact lv_lconst F.1 F.2.1 d hv (k H locs ls hR hL hl)
theorem v_null (F : am_Fx p s m args meth c y cc nL ret et X)  (d : decode cc pc = .ok (.aconst_null, 1)) (hp : pc + 1 = pc')  (k : V p l e R s m args below meth c nL X Q h nx cells slots pc' L (.null :: st)) : V p l e R s m args below meth c nL X Q h nx cells slots pc L st := by
  subst hp
  intro H locs ls hR hL hl
  exact lv_null F.1 F.2.1 d  (k H locs ls hR hL hl)
theorem v_iload_n (F : am_Fx p s m args meth c y cc nL ret et X) {i : Fin 4} {j : Nat} {z : Int} (d : decode cc pc = .ok (.iload_n i, 1)) (hp : pc + 1 = pc') (hi : (i : Nat) = j) (hv : L[j]? = some (some (iV z))) (k : V p l e R s m args below meth c nL X Q h nx cells slots pc' L (iV z :: st)) : V p l e R s m args below meth c nL X Q h nx cells slots pc L st := by
  subst hp
  intro H locs ls hR hL hl
  exact lv_iload_n F.1 F.2.1 d hi (hl.2.2 _ _ hv) (k H locs ls hR hL hl)
theorem v_iload (F : am_Fx p s m args meth c y cc nL ret et X) {j : Nat} {z : Int} (d : decode cc pc = .ok (.iload j, 2)) (hp : pc + 2 = pc') (hv : L[j]? = some (some (iV z))) (k : V p l e R s m args below meth c nL X Q h nx cells slots pc' L (iV z :: st)) : V p l e R s m args below meth c nL X Q h nx cells slots pc L st := by
  subst hp
  intro H locs ls hR hL hl
  exact lv_iload F.1 F.2.1 d (hl.2.2 _ _ hv) (k H locs ls hR hL hl)
theorem v_lload_n (F : am_Fx p s m args meth c y cc nL ret et X) {i : Fin 4} {j : Nat} {z : Int} (d : decode cc pc = .ok (.lload_n i, 1)) (hp : pc + 1 = pc') (hi : (i : Nat) = j) (hv : L[j]? = some (some (lV z))) (k : V p l e R s m args below meth c nL X Q h nx cells slots pc' L (lV z :: st)) : V p l e R s m args below meth c nL X Q h nx cells slots pc L st := by
  subst hp
  intro H locs ls hR hL hl
  exact lv_lload_n F.1 F.2.1 d hi (hl.2.2 _ _ hv) (k H locs ls hR hL hl)
theorem v_lload (F : am_Fx p s m args meth c y cc nL ret et X) {j : Nat} {z : Int} (d : decode cc pc = .ok (.lload j, 2)) (hp : pc + 2 = pc') (hv : L[j]? = some (some (lV z))) (k : V p l e R s m args below meth c nL X Q h nx cells slots pc' L (lV z :: st)) : V p l e R s m args below meth c nL X Q h nx cells slots pc L st := by
  subst hp
  intro H locs ls hR hL hl
  exact lv_lload F.1 F.2.1 d (hl.2.2 _ _ hv) (k H locs ls hR hL hl)
theorem v_aload_n (F : am_Fx p s m args meth c y cc nL ret et X) {i : Fin 4} {j : Nat} {z : Nat} (d : decode cc pc = .ok (.aload_n i, 1)) (hp : pc + 1 = pc') (hi : (i : Nat) = j) (hv : L[j]? = some (some (.ref z))) (k : V p l e R s m args below meth c nL X Q h nx cells slots pc' L (.ref z :: st)) : V p l e R s m args below meth c nL X Q h nx cells slots pc L st := by
  subst hp
  intro H locs ls hR hL hl
  exact lv_aload_n F.1 F.2.1 d hi (hl.2.2 _ _ hv) (k H locs ls hR hL hl)
theorem v_aload (F : am_Fx p s m args meth c y cc nL ret et X) {j : Nat} {z : Nat} (d : decode cc pc = .ok (.aload j, 2)) (hp : pc + 2 = pc') (hv : L[j]? = some (some (.ref z))) (k : V p l e R s m args below meth c nL X Q h nx cells slots pc' L (.ref z :: st)) : V p l e R s m args below meth c nL X Q h nx cells slots pc L st := by
  subst hp
  intro H locs ls hR hL hl
  exact lv_aload F.1 F.2.1 d (hl.2.2 _ _ hv) (k H locs ls hR hL hl)
theorem v_istore_nG (F : am_Fx p s m args meth c y cc nL ret et X) {i : Fin 4} {j : Nat} {z : Int} (d : decode cc pc = .ok (.istore_n i, 1)) (hp : pc + 1 = pc') (hi : (i : Nat) = j) (hn : am_nl L j = true) (hb : j < nL) (k : V p l e R s m args below meth c nL X Q h nx cells slots pc' (L.set j (some (iV z))) st) : V p l e R s m args below meth c nL X Q h nx cells slots pc L (iV z :: st) := by
  subst hp
  intro H locs ls hR hL hl
  subst hi
  obtain ⟨ls', e', h'⟩ := am_store1 (v := iV z) hl hb rfl hn
  intro T hT X
  obtain ⟨t, a, b⟩ := k H locs ls' hR hL h' T hT X
  refine ⟨t, ?_, b⟩
  jvm_step X.here [X.here.top, ↓top_set X.here.top, F.1, F.2.1, d, e']
  exact a
theorem v_istore_0 (F : am_Fx p s m args meth c y cc nL ret et X) {z : Int} {x0 : Option Value} {T : List (Option Value)} (d : decode cc pc = .ok (.istore_n 0, 1)) (hp : pc + 1 = pc') (hn : am_nl (x0 :: T) 0 = true) (hb : 0 < nL) (k : V p l e R s m args below meth c nL X Q h nx cells slots pc' (some (iV z) :: T) st) : V p l e R s m args below meth c nL X Q h nx cells slots pc (x0 :: T) (iV z :: st) := v_istore_nG F (j := 0) d hp rfl hn hb k
theorem v_istore_1 (F : am_Fx p s m args meth c y cc nL ret et X) {z : Int} {x0 x1 : Option Value} {T : List (Option Value)} (d : decode cc pc = .ok (.istore_n 1, 1)) (hp : pc + 1 = pc') (hn : am_nl (x0 :: x1 :: T) 1 = true) (hb : 1 < nL) (k : V p l e R s m args below meth c nL X Q h nx cells slots pc' (x0 :: some (iV z) :: T) st) : V p l e R s m args below meth c nL X Q h nx cells slots pc (x0 :: x1 :: T) (iV z :: st) := v_istore_nG F (j := 1) d hp rfl hn hb k
theorem v_istore_2 (F : am_Fx p s m args meth c y cc nL ret et X) {z : Int} {x0 x1 x2 : Option Value} {T : List (Option Value)} (d : decode cc pc = .ok (.istore_n 2, 1)) (hp : pc + 1 = pc') (hn : am_nl (x0 :: x1 :: x2 :: T) 2 = true) (hb : 2 < nL) (k : V p l e R s m args below meth c nL X Q h nx cells slots pc' (x0 :: x1 :: some (iV z) :: T) st) : V p l e R s m args below meth c nL X Q h nx cells slots pc (x0 :: x1 :: x2 :: T) (iV z :: st) := v_istore_nG F (j := 2) d hp rfl hn hb k
theorem v_istore_3 (F : am_Fx p s m args meth c y cc nL ret et X) {z : Int} {x0 x1 x2 x3 : Option Value} {T : List (Option Value)} (d : decode cc pc = .ok (.istore_n 3, 1)) (hp : pc + 1 = pc') (hn : am_nl (x0 :: x1 :: x2 :: x3 :: T) 3 = true) (hb : 3 < nL) (k : V p l e R s m args below meth c nL X Q h nx cells slots pc' (x0 :: x1 :: x2 :: some (iV z) :: T) st) : V p l e R s m args below meth c nL X Q h nx cells slots pc (x0 :: x1 :: x2 :: x3 :: T) (iV z :: st) := v_istore_nG F (j := 3) d hp rfl hn hb k
theorem v_istoreG (F : am_Fx p s m args meth c y cc nL ret et X) {j : Nat} {z : Int} (d : decode cc pc = .ok (.istore j, 2)) (hp : pc + 2 = pc') (hn : am_nl L j = true) (hb : j < nL) (k : V p l e R s m args below meth c nL X Q h nx cells slots pc' (L.set j (some (iV z))) st) : V p l e R s m args below meth c nL X Q h nx cells slots pc L (iV z :: st) := by
  subst hp
  intro H locs ls hR hL hl
  skip
  obtain ⟨ls', e', h'⟩ := am_store1 (v := iV z) hl hb rfl hn
  intro T hT X
  obtain ⟨t, a, b⟩ := k H locs ls' hR hL h' T hT X
  refine ⟨t, ?_, b⟩
  jvm_step X.here [X.here.top, ↓top_set X.here.top, F.1, F.2.1, d, e']
  exact a
theorem v_istore_4 (F : am_Fx p s m args meth c y cc nL ret et X) {z : Int} {x0 x1 x2 x3 x4 : Option Value} {T : List (Option Value)} (d : decode cc pc = .ok (.istore 4, 2)) (hp : pc + 2 = pc') (hn : am_nl (x0 :: x1 :: x2 :: x3 :: x4 :: T) 4 = true) (hb : 4 < nL) (k : V p l e R s m args below meth c nL X Q h nx cells slots pc' (x0 :: x1 :: x2 :: x3 :: some (iV z) :: T) st) : V p l e R s m args below meth c nL X Q h nx cells slots pc (x0 :: x1 :: x2 :: x3 :: x4 :: T) (iV z :: st) := v_istoreG F (j := 4) d hp hn hb k
theorem v_istore_5 (F : am_Fx p s m args meth c y cc nL ret et X) {z : Int} {x0 x1 x2 x3 x4 x5 : Option Value} {T : List (Option Value)} (d : decode cc pc = .ok (.istore 5, 2)) (hp : pc + 2 = pc') (hn : am_nl (x0 :: x1 :: x2 :: x3 :: x4 :: x5 :: T) 5 = true) (hb : 5 < nL) (k : V p l e R s m args below meth c nL X Q h nx cells slots pc' (x0 :: x1 :: x2 :: x3 :: x4 :: some (iV z) :: T) st) : V p l e R s m args below meth c nL X Q h nx cells slots pc (x0 :: x1 :: x2 :: x3 :: x4 :: x5 :: T) (iV z :: st) := v_istoreG F (j := 5) d hp hn hb k
theorem v_istore_6 (F : am_Fx p s m args meth c y cc nL ret et X) {z : Int} {x0 x1 x2 x3 x4 x5 x6 : Option Value} {T : List (Option Value)} (d : decode cc pc = .ok (.istore 6, 2)) (hp : pc + 2 = pc') (hn : am_nl (x0 :: x1 :: x2 :: x3 :: x4 :: x5 :: x6 :: T) 6 = true) (hb : 6 < nL) (k : V p l e R s m args below meth c nL X Q h nx cells slots pc' (x0 :: x1 :: x2 :: x3 :: x4 :: x5 :: some (iV z) :: T) st) : V p l e R s m args below meth c nL X Q h nx cells slots pc (x0 :: x1 :: x2 :: x3 :: x4 :: x5 :: x6 :: T) (iV z :: st) := v_istoreG F (j := 6) d hp hn hb k
theorem v_istore_7 (F : am_Fx p s m args meth c y cc nL ret et X) {z : Int} {x0 x1 x2 x3 x4 x5 x6 x7 : Option Value} {T : List (Option Value)} (d : decode cc pc = .ok (.istore 7, 2)) (hp : pc + 2 = pc') (hn : am_nl (x0 :: x1 :: x2 :: x3 :: x4 :: x5 :: x6 :: x7 :: T) 7 = true) (hb : 7 < nL) (k : V p l e R s m args below meth c nL X Q h nx cells slots pc' (x0 :: x1 :: x2 :: x3 :: x4 :: x5 :: x6 :: some (iV z) :: T) st) : V p l e R s m args below meth c nL X Q h nx cells slots pc (x0 :: x1 :: x2 :: x3 :: x4 :: x5 :: x6 :: x7 :: T) (iV z :: st) := v_istoreG F (j := 7) d hp hn hb k
theorem v_istore_8 (F : am_Fx p s m args meth c y cc nL ret et X) {z : Int} {x0 x1 x2 x3 x4 x5 x6 x7 x8 : Option Value} {T : List (Option Value)} (d : decode cc pc = .ok (.istore 8, 2)) (hp : pc + 2 = pc') (hn : am_nl (x0 :: x1 :: x2 :: x3 :: x4 :: x5 :: x6 :: x7 :: x8 :: T) 8 = true) (hb : 8 < nL) (k : V p l e R s m args below meth c nL X Q h nx cells slots pc' (x0 :: x1 :: x2 :: x3 :: x4 :: x5 :: x6 :: x7 :: some (iV z) :: T) st) : V p l e R s m args below meth c nL X Q h nx cells slots pc (x0 :: x1 :: x2 :: x3 :: x4 :: x5 :: x6 :: x7 :: x8 :: T) (iV z :: st) := v_istoreG F (j := 8) d hp hn hb k
theorem v_istore_9 (F : am_Fx p s m args meth c y cc nL ret et X) {z : Int} {x0 x1 x2 x3 x4 x5 x6 x7 x8 x9 : Option Value} {T : List (Option Value)} (d : decode cc pc = .ok (.istore 9, 2)) (hp : pc + 2 = pc') (hn : am_nl (x0 :: x1 :: x2 :: x3 :: x4 :: x5 :: x6 :: x7 :: x8 :: x9 :: T) 9 = true) (hb : 9 < nL) (k : V p l e R s m args below meth c nL X Q h nx cells slots pc' (x0 :: x1 :: x2 :: x3 :: x4 :: x5 :: x6 :: x7 :: x8 :: some (iV z) :: T) st) : V p l e R s m args below meth c nL X Q h nx cells slots pc (x0 :: x1 :: x2 :: x3 :: x4 :: x5 :: x6 :: x7 :: x8 :: x9 :: T) (iV z :: st) := v_istoreG F (j := 9) d hp hn hb k
theorem v_istore_10 (F : am_Fx p s m args meth c y cc nL ret et X) {z : Int} {x0 x1 x2 x3 x4 x5 x6 x7 x8 x9 x10 : Option Value} {T : List (Option Value)} (d : decode cc pc = .ok (.istore 10, 2)) (hp : pc + 2 = pc') (hn : am_nl (x0 :: x1 :: x2 :: x3 :: x4 :: x5 :: x6 :: x7 :: x8 :: x9 :: x10 :: T) 10 = true) (hb : 10 < nL) (k : V p l e R s m args below meth c nL X Q h nx cells slots pc' (x0 :: x1 :: x2 :: x3 :: x4 :: x5 :: x6 :: x7 :: x8 :: x9 :: some (iV z) :: T) st) : V p l e R s m args below meth c nL X Q h nx cells slots pc (x0 :: x1 :: x2 :: x3 :: x4 :: x5 :: x6 :: x7 :: x8 :: x9 :: x10 :: T) (iV z :: st) := v_istoreG F (j := 10) d hp hn hb k
theorem v_istore_11 (F : am_Fx p s m args meth c y cc nL ret et X) {z : Int} {x0 x1 x2 x3 x4 x5 x6 x7 x8 x9 x10 x11 : Option Value} {T : List (Option Value)} (d : decode cc pc = .ok (.istore 11, 2)) (hp : pc + 2 = pc') (hn : am_nl (x0 :: x1 :: x2 :: x3 :: x4 :: x5 :: x6 :: x7 :: x8 :: x9 :: x10 :: x11 :: T) 11 = true) (hb : 11 < nL) (k : V p l e R s m args below meth c nL X Q h nx cells slots pc' (x0 :: x1 :: x2 :: x3 :: x4 :: x5 :: x6 :: x7 :: x8 :: x9 :: x10 :: some (iV z) :: T) st) : V p l e R s m args below meth c nL X Q h nx cells slots pc (x0 :: x1 :: x2 :: x3 :: x4 :: x5 :: x6 :: x7 :: x8 :: x9 :: x10 :: x11 :: T) (iV z :: st) := v_istoreG F (j := 11) d hp hn hb k
theorem v_istore_12 (F : am_Fx p s m args meth c y cc nL ret et X) {z : Int} {x0 x1 x2 x3 x4 x5 x6 x7 x8 x9 x10 x11 x12 : Option Value} {T : List (Option Value)} (d : decode cc pc = .ok (.istore 12, 2)) (hp : pc + 2 = pc') (hn : am_nl (x0 :: x1 :: x2 :: x3 :: x4 :: x5 :: x6 :: x7 :: x8 :: x9 :: x10 :: x11 :: x12 :: T) 12 = true) (hb : 12 < nL) (k : V p l e R s m args below meth c nL X Q h nx cells slots pc' (x0 :: x1 :: x2 :: x3 :: x4 :: x5 :: x6 :: x7 :: x8 :: x9 :: x10 :: x11 :: some (iV z) :: T) st) : V p l e R s m args below meth c nL X Q h nx cells slots pc (x0 :: x1 :: x2 :: x3 :: x4 :: x5 :: x6 :: x7 :: x8 :: x9 :: x10 :: x11 :: x12 :: T) (iV z :: st) := v_istoreG F (j := 12) d hp hn hb k
theorem v_istore_13 (F : am_Fx p s m args meth c y cc nL ret et X) {z : Int} {x0 x1 x2 x3 x4 x5 x6 x7 x8 x9 x10 x11 x12 x13 : Option Value} {T : List (Option Value)} (d : decode cc pc = .ok (.istore 13, 2)) (hp : pc + 2 = pc') (hn : am_nl (x0 :: x1 :: x2 :: x3 :: x4 :: x5 :: x6 :: x7 :: x8 :: x9 :: x10 :: x11 :: x12 :: x13 :: T) 13 = true) (hb : 13 < nL) (k : V p l e R s m args below meth c nL X Q h nx cells slots pc' (x0 :: x1 :: x2 :: x3 :: x4 :: x5 :: x6 :: x7 :: x8 :: x9 :: x10 :: x11 :: x12 :: some (iV z) :: T) st) : V p l e R s m args below meth c nL X Q h nx cells slots pc (x0 :: x1 :: x2 :: x3 :: x4 :: x5 :: x6 :: x7 :: x8 :: x9 :: x10 :: x11 :: x12 :: x13 :: T) (iV z :: st) := v_istoreG F (j := 13) d hp hn hb k
theorem v_istore_14 (F : am_Fx p s m args meth c y cc nL ret et X) {z : Int} {x0 x1 x2 x3 x4 x5 x6 x7 x8 x9 x10 x11 x12 x13 x14 : Option Value} {T : List (Option Value)} (d : decode cc pc = .ok (.istore 14, 2)) (hp : pc + 2 = pc') (hn : am_nl (x0 :: x1 :: x2 :: x3 :: x4 :: x5 :: x6 :: x7 :: x8 :: x9 :: x10 :: x11 :: x12 :: x13 :: x14 :: T) 14 = true) (hb : 14 < nL) (k : V p l e R s m args below meth c nL X Q h nx cells slots pc' (x0 :: x1 :: x2 :: x3 :: x4 :: x5 :: x6 :: x7 :: x8 :: x9 :: x10 :: x11 :: x12 :: x13 :: some (iV z) :: T) st) : V p l e R s m args below meth c nL X Q h nx cells slots pc (x0 :: x1 :: x2 :: x3 :: x4 :: x5 :: x6 :: x7 :: x8 :: x9 :: x10 :: x11 :: x12 :: x13 :: x14 :: T) (iV z :: st) := v_istoreG F (j := 14) d hp hn hb k
theorem v_istore_15 (F : am_Fx p s m args meth c y cc nL ret et X) {z : Int} {x0 x1 x2 x3 x4 x5 x6 x7 x8 x9 x10 x11 x12 x13 x14 x15 : Option Value} {T : List (Option Value)} (d : decode cc pc = .ok (.istore 15, 2)) (hp : pc + 2 = pc') (hn : am_nl (x0 :: x1 :: x2 :: x3 :: x4 :: x5 :: x6 :: x7 :: x8 :: x9 :: x10 :: x11 :: x12 :: x13 :: x14 :: x15 :: T) 15 = true) (hb : 15 < nL) (k : V p l e R s m args below meth c nL X Q h nx cells slots pc' (x0 :: x1 :: x2 :: x3 :: x4 :: x5 :: x6 :: x7 :: x8 :: x9 :: x10 :: x11 :: x12 :: x13 :: x14 :: some (iV z) :: T) st) : V p l e R s m args below meth c nL X Q h nx cells slots pc (x0 :: x1 :: x2 :: x3 :: x4 :: x5 :: x6 :: x7 :: x8 :: x9 :: x10 :: x11 :: x12 :: x13 :: x14 :: x15 :: T) (iV z :: st) := v_istoreG F (j := 15) d hp hn hb k
theorem v_istore_16 (F : am_Fx p s m args meth c y cc nL ret et X) {z : Int} {x0 x1 x2 x3 x4 x5 x6 x7 x8 x9 x10 x11 x12 x13 x14 x15 x16 : Option Value} {T : List (Option Value)} (d : decode cc pc = .ok (.istore 16, 2)) (hp : pc + 2 = pc') (hn : am_nl (x0 :: x1 :: x2 :: x3 :: x4 :: x5 :: x6 :: x7 :: x8 :: x9 :: x10 :: x11 :: x12 :: x13 :: x14 :: x15 :: x16 :: T) 16 = true) (hb : 16 < nL) (k : V p l e R s m args below meth c nL X Q h nx cells slots pc' (x0 :: x1 :: x2 :: x3 :: x4 :: x5 :: x6 :: x7 :: x8 :: x9 :: x10 :: x11 :: x12 :: x13 :: x14 :: x15 :: some (iV z) :: T) st) : V p l e R s m args below meth c nL X Q h nx cells slots pc (x0 :: x1 :: x2 :: x3 :: x4 :: x5 :: x6 :: x7 :: x8 :: x9 :: x10 :: x11 :: x12 :: x13 :: x14 :: x15 :: x16 :: T) (iV z :: st) := v_istoreG F (j := 16) d hp hn hb k
theorem v_istore_17 (F : am_Fx p s m args meth c y cc nL ret et X) {z : Int} {x0 x1 x2 x3 x4 x5 x6 x7 x8 x9 x10 x11 x12 x13 x14 x15 x16 x17 : Option Value} {T : List (Option Value)} (d : decode cc pc = .ok (.istore 17, 2)) (hp : pc + 2 = pc') (hn : am_nl (x0 :: x1 :: x2 :: x3 :: x4 :: x5 :: x6 :: x7 :: x8 :: x9 :: x10 :: x11 :: x12 :: x13 :: x14 :: x15 :: x16 :: x17 :: T) 17 = true) (hb : 17 < nL) (k : V p l e R s m args below meth c nL X Q h nx cells slots pc' (x0 :: x1 :: x2 :: x3 :: x4 :: x5 :: x6 :: x7 :: x8 :: x9 :: x10 :: x11 :: x12 :: x13 :: x14 :: x15 :: x16 :: some (iV z) :: T) st) : V p l e R s m args below meth c nL X Q h nx cells slots pc (x0 :: x1 :: x2 :: x3 :: x4 :: x5 :: x6 :: x7 :: x8 :: x9 :: x10 :: x11 :: x12 :: x13 :: x14 :: x15 :: x16 :: x17 :: T) (iV z :: st) := v_istoreG F (j := 17) d hp hn hb k
theorem v_lstore_nG (F : am_Fx p s m args meth c y cc nL ret et X) {i : Fin 4} {j : Nat} {z : Int} (d : decode cc pc = .ok (.lstore_n i, 1)) (hp : pc + 1 = pc') (hi : (i : Nat) = j) (hn : am_nl L j = true) (hb : j + 1 < nL) (k : V p l e R s m args below meth c nL X Q h nx cells slots pc' ((L.set j (some (lV z))).set (j + 1) none) st) : V p l e R s m args below meth c nL X Q h nx cells slots pc L (lV z :: st) := by
  subst hp
  intro H locs ls hR hL hl
  subst hi
  obtain ⟨ls', e', h'⟩ := am_store2 (v := lV z) hl hb rfl hn
  intro T hT X
  obtain ⟨t, a, b⟩ := k H locs ls' hR hL h' T hT X
  refine ⟨t, ?_, b⟩
  jvm_step X.here [X.here.top, ↓top_set X.here.top, F.1, F.2.1, d, e']
  exact a
theorem v_lstore_0 (F : am_Fx p s m args meth c y cc nL ret et X) {z : Int} {x0 x1 : Option Value} {T : List (Option Value)} (d : decode cc pc = .ok (.lstore_n 0, 1)) (hp : pc + 1 = pc') (hn : am_nl (x0 :: x1 :: T) 0 = true) (hb : 0 + 1 < nL) (k : V p l e R s m args below meth c nL X Q h nx cells slots pc' (some (lV z) :: none :: T) st) : V p l e R s m args below meth c nL X Q h nx cells slots pc (x0 :: x1 :: T) (lV z :: st) := v_lstore_nG F (j := 0) d hp rfl hn hb k
theorem v_lstore_1 (F : am_Fx p s m args meth c y cc nL ret et X) {z : Int} {x0 x1 x2 : Option Value} {T : List (Option Value)} (d : decode cc pc = .ok (.lstore_n 1, 1)) (hp : pc + 1 = pc') (hn : am_nl (x0 :: x1 :: x2 :: T) 1 = true) (hb : 1 + 1 < nL) (k : V p l e R s m args below meth c nL X Q h nx cells slots pc' (x0 :: some (lV z) :: none :: T) st) : V p l e R s m args below meth c nL X Q h nx cells slots pc (x0 :: x1 :: x2 :: T) (lV z :: st) := v_lstore_nG F (j := 1) d hp rfl hn hb k
theorem v_lstore_2 (F : am_Fx p s m args meth c y cc nL ret et X) {z : Int} {x0 x1 x2 x3 : Option Value} {T : List (Option Value)} (d : decode cc pc = .ok (.lstore_n 2, 1)) (hp : pc + 1 = pc') (hn : am_nl (x0 :: x1 :: x2 :: x3 :: T) 2 = true) (hb : 2 + 1 < nL) (k : V p l e R s m args below meth c nL X Q h nx cells slots pc' (x0 :: x1 :: some (lV z) :: none :: T) st) : V p l e R s m args below meth c nL X Q h nx cells slots pc (x0 :: x1 :: x2 :: x3 :: T) (lV z :: st) := v_lstore_nG F (j := 2) d hp rfl hn hb k
theorem v_lstore_3 (F : am_Fx p s m args meth c y cc nL ret et X) {z : Int} {x0 x1 x2 x3 x4 : Option Value} {T : List (Option Value)} (d : decode cc pc = .ok (.lstore_n 3, 1)) (hp : pc + 1 = pc') (hn : am_nl (x0 :: x1 :: x2 :: x3 :: x4 :: T) 3 = true) (hb : 3 + 1 < nL) (k : V p l e R s m args below meth c nL X Q h nx cells slots pc' (x0 :: x1 :: x2 :: some (lV z) :: none :: T) st) : V p l e R s m args below meth c nL X Q h nx cells slots pc (x0 :: x1 :: x2 :: x3 :: x4 :: T) (lV z :: st) := v_lstore_nG F (j := 3) d hp rfl hn hb k
theorem v_lstoreG (F : am_Fx p s m args meth c y cc nL ret et X) {j : Nat} {z : Int} (d : decode cc pc = .ok (.lstore j, 2)) (hp : pc + 2 = pc') (hn : am_nl L j = true) (hb : j + 1 < nL) (k : V p l e R s m args below meth c nL X Q h nx cells slots pc' ((L.set j (some (lV z))).set (j + 1) none) st) : V p l e R s m args below meth c nL X Q h nx cells slots pc L (lV z :: st) := by
  subst hp
  intro H locs ls hR hL hl
  skip
  obtain ⟨ls', e', h'⟩ := am_store2 (v := lV z) hl hb rfl hn
  intro T hT X
  obtain ⟨t, a, b⟩ := k H locs ls' hR hL h' T hT X
  refine ⟨t, ?_, b⟩
  jvm_step X.here [X.here.top, ↓top_set X.here.top, F.1, F.2.1, d, e']
  exact a
theorem v_lstore_4 (F : am_Fx p s m args meth c y cc nL ret et X) {z : Int} {x0 x1 x2 x3 x4 x5 : Option Value} {T : List (Option Value)} (d : decode cc pc = .ok (.lstore 4, 2)) (hp : pc + 2 = pc') (hn : am_nl (x0 :: x1 :: x2 :: x3 :: x4 :: x5 :: T) 4 = true) (hb : 4 + 1 < nL) (k : V p l e R s m args below meth c nL X Q h nx cells slots pc' (x0 :: x1 :: x2 :: x3 :: some (lV z) :: none :: T) st) : V p l e R s m args below meth c nL X Q h nx cells slots pc (x0 :: x1 :: x2 :: x3 :: x4 :: x5 :: T) (lV z :: st) := v_lstoreG F (j := 4) d hp hn hb k
theorem v_lstore_5 (F : am_Fx p s m args meth c y cc nL ret et X) {z : Int} {x0 x1 x2 x3 x4 x5 x6 : Option Value} {T : List (Option Value)} (d : decode cc pc = .ok (.lstore 5, 2)) (hp : pc + 2 = pc') (hn : am_nl (x0 :: x1 :: x2 :: x3 :: x4 :: x5 :: x6 :: T) 5 = true) (hb : 5 + 1 < nL) (k : V p l e R s m args below meth c nL X Q h nx cells slots pc' (x0 :: x1 :: x2 :: x3 :: x4 :: some (lV z) :: none :: T) st) : V p l e R s m args below meth c nL X Q h nx cells slots pc (x0 :: x1 :: x2 :: x3 :: x4 :: x5 :: x6 :: T) (lV z :: st) := v_lstoreG F (j := 5) d hp hn hb k
theorem v_lstore_6 (F : am_Fx p s m args meth c y cc nL ret et X) {z : Int} {x0 x1 x2 x3 x4 x5 x6 x7 : Option Value} {T : List (Option Value)} (d : decode cc pc = .ok (.lstore 6, 2)) (hp : pc + 2 = pc') (hn : am_nl (x0 :: x1 :: x2 :: x3 :: x4 :: x5 :: x6 :: x7 :: T) 6 = true) (hb : 6 + 1 < nL) (k : V p l e R s m args below meth c nL X Q h nx cells slots pc' (x0 :: x1 :: x2 :: x3 :: x4 :: x5 :: some (lV z) :: none :: T) st) : V p l e R s m args below meth c nL X Q h nx cells slots pc (x0 :: x1 :: x2 :: x3 :: x4 :: x5 :: x6 :: x7 :: T) (lV z :: st) := v_lstoreG F (j := 6) d hp hn hb k
theorem v_lstore_7 (F : am_Fx p s m args meth c y cc nL ret et X) {z : Int} {x0 x1 x2 x3 x4 x5 x6 x7 x8 : Option Value} {T : List (Option Value)} (d : decode cc pc = .ok (.lstore 7, 2)) (hp : pc + 2 = pc') (hn : am_nl (x0 :: x1 :: x2 :: x3 :: x4 :: x5 :: x6 :: x7 :: x8 :: T) 7 = true) (hb : 7 + 1 < nL) (k : V p l e R s m args below meth c nL X Q h nx cells slots pc' (x0 :: x1 :: x2 :: x3 :: x4 :: x5 :: x6 :: some (lV z) :: none :: T) st) : V p l e R s m args below meth c nL X Q h nx cells slots pc (x0 :: x1 :: x2 :: x3 :: x4 :: x5 :: x6 :: x7 :: x8 :: T) (lV z :: st) := v_lstoreG F (j := 7) d hp hn hb k
theorem v_lstore_8 (F : am_Fx p s m args meth c y cc nL ret et X) {z : Int} {x0 x1 x2 x3 x4 x5 x6 x7 x8 x9 : Option Value} {T : List (Option Value)} (d : decode cc pc = .ok (.lstore 8, 2)) (hp : pc + 2 = pc') (hn : am_nl (x0 :: x1 :: x2 :: x3 :: x4 :: x5 :: x6 :: x7 :: x8 :: x9 :: T) 8 = true) (hb : 8 + 1 < nL) (k : V p l e R s m args below meth c nL X Q h nx cells slots pc' (x0 :: x1 :: x2 :: x3 :: x4 :: x5 :: x6 :: x7 :: some (lV z) :: none :: T) st) : V p l e R s m args below meth c nL X Q h nx cells slots pc (x0 :: x1 :: x2 :: x3 :: x4 :: x5 :: x6 :: x7 :: x8 :: x9 :: T) (lV z :: st) := v_lstoreG F (j := 8) d hp hn hb k
theorem v_lstore_9 (F : am_Fx p s m args meth c y cc nL ret et X) {z : Int} {x0 x1 x2 x3 x4 x5 x6 x7 x8 x9 x10 : Option Value} {T : List (Option Value)} (d : decode cc pc = .ok (.lstore 9, 2)) (hp : pc + 2 = pc') (hn : am_nl (x0 :: x1 :: x2 :: x3 :: x4 :: x5 :: x6 :: x7 :: x8 :: x9 :: x10 :: T) 9 = true) (hb : 9 + 1 < nL) (k : V p l e R s m args below meth c nL X Q h nx cells slots pc' (x0 :: x1 :: x2 :: x3 :: x4 :: x5 :: x6 :: x7 :: x8 :: some (lV z) :: none :: T) st) : V p l e R s m args below meth c nL X Q h nx cells slots pc (x0 :: x1 :: x2 :: x3 :: x4 :: x5 :: x6 :: x7 :: x8 :: x9 :: x10 :: T) (lV z :: st) := v_lstoreG F (j := 9) d hp hn hb k
theorem v_lstore_10 (F : am_Fx p s m args meth c y cc nL ret et X) {z : Int} {x0 x1 x2 x3 x4 x5 x6 x7 x8 x9 x10 x11 : Option Value} {T : List (Option Value)} (d : decode cc pc = .ok (.lstore 10, 2)) (hp : pc + 2 = pc') (hn : am_nl (x0 :: x1 :: x2 :: x3 :: x4 :: x5 :: x6 :: x7 :: x8 :: x9 :: x10 :: x11 :: T) 10 = true) (hb : 10 + 1 < nL) (k : V p l e R s m args below meth c nL X Q h nx cells slots pc' (x0 :: x1 :: x2 :: x3 :: x4 :: x5 :: x6 :: x7 :: x8 :: x9 :: some (lV z) :: none :: T) st) : V p l e R s m args below meth c nL X Q h nx cells slots pc (x0 :: x1 :: x2 :: x3 :: x4 :: x5 :: x6 :: x7 :: x8 :: x9 :: x10 :: x11 :: T) (lV z :: st) := v_lstoreG F (j := 10) d hp hn hb k
theorem v_lstore_11 (F : am_Fx p s m args meth c y cc nL ret et X) {z : Int} {x0 x1 x2 x3 x4 x5 x6 x7 x8 x9 x10 x11 x12 : Option Value} {T : List (Option Value)} (d : decode cc pc = .ok (.lstore 11, 2)) (hp : pc + 2 = pc') (hn : am_nl (x0 :: x1 :: x2 :: x3 :: x4 :: x5 :: x6 :: x7 :: x8 :: x9 :: x10 :: x11 :: x12 :: T) 11 = true) (hb : 11 + 1 < nL) (k : V p l e R s m args below meth c nL X Q h nx cells slots pc' (x0 :: x1 :: x2 :: x3 :: x4 :: x5 :: x6 :: x7 :: x8 :: x9 :: x10 :: some (lV z) :: none :: T) st) : V p l e R s m args below meth c nL X Q h nx cells slots pc (x0 :: x1 :: x2 :: x3 :: x4 :: x5 :: x6 :: x7 :: x8 :: x9 :: x10 :: x11 :: x12 :: T) (lV z :: st) := v_lstoreG F (j := 11) d hp hn hb k
theorem v_lstore_12 (F : am_Fx p s m args meth c y cc nL ret et X) {z : Int} {x0 x1 x2 x3 x4 x5 x6 x7 x8 x9 x10 x11 x12 x13 : Option Value} {T : List (Option Value)} (d : decode cc pc = .ok (.lstore 12, 2)) (hp : pc + 2 = pc') (hn : am_nl (x0 :: x1 :: x2 :: x3 :: x4 :: x5 :: x6 :: x7 :: x8 :: x9 :: x10 :: x11 :: x12 :: x13 :: T) 12 = true) (hb : 12 + 1 < nL) (k : V p l e R s m args below meth c nL X Q h nx cells slots pc' (x0 :: x1 :: x2 :: x3 :: x4 :: x5 :: x6 :: x7 :: x8 :: x9 :: x10 :: x11 :: some (lV z) :: none :: T) st) : V p l e R s m args below meth c nL X Q h nx cells slots pc (x0 :: x1 :: x2 :: x3 :: x4 :: x5 :: x6 :: x7 :: x8 :: x9 :: x10 :: x11 :: x12 :: x13 :: T) (lV z :: st) := v_lstoreG F (j := 12) d hp hn hb k
theorem v_lstore_13 (F : am_Fx p s m args meth c y cc nL ret et X) {z : Int} {x0 x1 x2 x3 x4 x5 x6 x7 x8 x9 x10 x11 x12 x13 x14 : Option Value} {T : List (Option Value)} (d : decode cc pc = .ok (.lstore 13, 2)) (hp : pc + 2 = pc') (hn : am_nl (x0 :: x1 :: x2 :: x3 :: x4 :: x5 :: x6 :: x7 :: x8 :: x9 :: x10 :: x11 :: x12 :: x13 :: x14 :: T) 13 = true) (hb : 13 + 1 < nL) (k : V p l e R s m args below meth c nL X Q h nx cells slots pc' (x0 :: x1 :: x2 :: x3 :: x4 :: x5 :: x6 :: x7 :: x8 :: x9 :: x10 :: x11 :: x12 :: some (lV z) :: none :: T) st) : V p l e R s m args below meth c nL X Q h nx cells slots pc (x0 :: x1 :: x2 :: x3 :: x4 :: x5 :: x6 :: x7 :: x8 :: x9 :: x10 :: x11 :: x12 :: x13 :: x14 :: T) (lV z :: st) := v_lstoreG F (j := 13) d hp hn hb k
theorem v_lstore_14 (F : am_Fx p s m args meth c y cc nL ret et X) {z : Int} {x0 x1 x2 x3 x4 x5 x6 x7 x8 x9 x10 x11 x12 x13 x14 x15 : Option Value} {T : List (Option Value)} (d : decode cc pc = .ok (.lstore 14, 2)) (hp : pc + 2 = pc') (hn : am_nl (x0 :: x1 :: x2 :: x3 :: x4 :: x5 :: x6 :: x7 :: x8 :: x9 :: x10 :: x11 :: x12 :: x13 :: x14 :: x15 :: T) 14 = true) (hb : 14 + 1 < nL) (k : V p l e R s m args below meth c nL X Q h nx cells slots pc' (x0 :: x1 :: x2 :: x3 :: x4 :: x5 :: x6 :: x7 :: x8 :: x9 :: x10 :: x11 :: x12 :: x13 :: some (lV z) :: none :: T) st) : V p l e R s m args below meth c nL X Q h nx cells slots pc (x0 :: x1 :: x2 :: x3 :: x4 :: x5 :: x6 :: x7 :: x8 :: x9 :: x10 :: x11 :: x12 :: x13 :: x14 :: x15 :: T) (lV z :: st) := v_lstoreG F (j := 14) d hp hn hb k
theorem v_lstore_15 (F : am_Fx p s m args meth c y cc nL ret et X) {z : Int} {x0 x1 x2 x3 x4 x5 x6 x7 x8 x9 x10 x11 x12 x13 x14 x15 x16 : Option Value} {T : List (Option Value)} (d : decode cc pc = .ok (.lstore 15, 2)) (hp : pc + 2 = pc') (hn : am_nl (x0 :: x1 :: x2 :: x3 :: x4 :: x5 :: x6 :: x7 :: x8 :: x9 :: x10 :: x11 :: x12 :: x13 :: x14 :: x15 :: x16 :: T) 15 = true) (hb : 15 + 1 < nL) (k : V p l e R s m args below meth c nL X Q h nx cells slots pc' (x0 :: x1 :: x2 :: x3 :: x4 :: x5 :: x6 :: x7 :: x8 :: x9 :: x10 :: x11 :: x12 :: x13 :: x14 :: some (lV z) :: none :: T) st) : V p l e R s m args below meth c nL X Q h nx cells slots pc (x0 :: x1 :: x2 :: x3 :: x4 :: x5 :: x6 :: x7 :: x8 :: x9 :: x10 :: x11 :: x12 :: x13 :: x14 :: x15 :: x16 :: T) (lV z :: st) := v_lstoreG F (j := 15) d hp hn hb k
theorem v_lstore_16 (F : am_Fx p s m args meth c y cc nL ret et X) {z : Int} {x0 x1 x2 x3 x4 x5 x6 x7 x8 x9 x10 x11 x12 x13 x14 x15 x16 x17 : Option Value} {T : List (Option Value)} (d : decode cc pc = .ok (.lstore 16, 2)) (hp : pc + 2 = pc') (hn : am_nl (x0 :: x1 :: x2 :: x3 :: x4 :: x5 :: x6 :: x7 :: x8 :: x9 :: x10 :: x11 :: x12 :: x13 :: x14 :: x15 :: x16 :: x17 :: T) 16 = true) (hb : 16 + 1 < nL) (k : V p l e R s m args below meth c nL X Q h nx cells slots pc' (x0 :: x1 :: x2 :: x3 :: x4 :: x5 :: x6 :: x7 :: x8 :: x9 :: x10 :: x11 :: x12 :: x13 :: x14 :: x15 :: some (lV z) :: none :: T) st) : V p l e R s m args below meth c nL X Q h nx cells slots pc (x0 :: x1 :: x2 :: x3 :: x4 :: x5 :: x6 :: x7 :: x8 :: x9 :: x10 :: x11 :: x12 :: x13 :: x14 :: x15 :: x16 :: x17 :: T) (lV z :: st) := v_lstoreG F (j := 16) d hp hn hb k
theorem v_lstore_17 (F : am_Fx p s m args meth c y cc nL ret et X) {z : Int} {x0 x1 x2 x3 x4 x5 x6 x7 x8 x9 x10 x11 x12 x13 x14 x15 x16 x17 x18 : Option Value} {T : List (Option Value)} (d : decode cc pc = .ok (.lstore 17, 2)) (hp : pc + 2 = pc') (hn : am_nl (x0 :: x1 :: x2 :: x3 :: x4 :: x5 :: x6 :: x7 :: x8 :: x9 :: x10 :: x11 :: x12 :: x13 :: x14 :: x15 :: x16 :: x17 :: x18 :: T) 17 = true) (hb : 17 + 1 < nL) (k : V p l e R s m args below meth c nL X Q h nx cells slots pc' (x0 :: x1 :: x2 :: x3 :: x4 :: x5 :: x6 :: x7 :: x8 :: x9 :: x10 :: x11 :: x12 :: x13 :: x14 :: x15 :: x16 :: some (lV z) :: none :: T) st) : V p l e R s m args below meth c nL X Q h nx cells slots pc (x0 :: x1 :: x2 :: x3 :: x4 :: x5 :: x6 :: x7 :: x8 :: x9 :: x10 :: x11 :: x12 :: x13 :: x14 :: x15 :: x16 :: x17 :: x18 :: T) (lV z :: st) := v_lstoreG F (j := 17) d hp hn hb k
theorem v_astore_nG (F : am_Fx p s m args meth c y cc nL ret et X) {i : Fin 4} {j : Nat} {z : Nat} (d : decode cc pc = .ok (.astore_n i, 1)) (hp : pc + 1 = pc') (hi : (i : Nat) = j) (hn : am_nl L j = true) (hb : j < nL) (k : V p l e R s m args below meth c nL X Q h nx cells slots pc' (L.set j (some (.ref z))) st) : V p l e R s m args below meth c nL X Q h nx cells slots pc L (.ref z :: st) := by
  subst hp
  intro H locs ls hR hL hl
  subst hi
  obtain ⟨ls', e', h'⟩ := am_store1 (v := .ref z) hl hb rfl hn
  intro T hT X
  obtain ⟨t, a, b⟩ := k H locs ls' hR hL h' T hT X
  refine ⟨t, ?_, b⟩
  jvm_step X.here [X.here.top, ↓top_set X.here.top, F.1, F.2.1, d, e', Value.isRef]
  exact a
theorem v_astore_0 (F : am_Fx p s m args meth c y cc nL ret et X) {z : Nat} {x0 : Option Value} {T : List (Option Value)} (d : decode cc pc = .ok (.astore_n 0, 1)) (hp : pc + 1 = pc') (hn : am_nl (x0 :: T) 0 = true) (hb : 0 < nL) (k : V p l e R s m args below meth c nL X Q h nx cells slots pc' (some (.ref z) :: T) st) : V p l e R s m args below meth c nL X Q h nx cells slots pc (x0 :: T) (.ref z :: st) := v_astore_nG F (j := 0) d hp rfl hn hb k
theorem v_astore_1 (F : am_Fx p s m args meth c y cc nL ret et X) {z : Nat} {x0 x1 : Option Value} {T : List (Option Value)} (d : decode cc pc = .ok (.astore_n 1, 1)) (hp : pc + 1 = pc') (hn : am_nl (x0 :: x1 :: T) 1 = true) (hb : 1 < nL) (k : V p l e R s m args below meth c nL X Q h nx cells slots pc' (x0 :: some (.ref z) :: T) st) : V p l e R s m args below meth c nL X Q h nx cells slots pc (x0 :: x1 :: T) (.ref z :: st) := v_astore_nG F (j := 1) d hp rfl hn hb k
theorem v_astore_2 (F : am_Fx p s m args meth c y cc nL ret et X) {z : Nat} {x0 x1 x2 : Option Value} {T : List (Option Value)} (d : decode cc pc = .ok (.astore_n 2, 1)) (hp : pc + 1 = pc') (hn : am_nl (x0 :: x1 :: x2 :: T) 2 = true) (hb : 2 < nL) (k : V p l e R s m args below meth c nL X Q h nx cells slots pc' (x0 :: x1 :: some (.ref z) :: T) st) : V p l e R s m args below meth c nL X Q h nx cells slots pc (x0 :: x1 :: x2 :: T) (.ref z :: st) := v_astore_nG F (j := 2) d hp rfl hn hb k
theorem v_astore_3 (F : am_Fx p s m args meth c y cc nL ret et X) {z : Nat} {x0 x1 x2 x3 : Option Value} {T : List (Option Value)} (d : decode cc pc = .ok (.astore_n 3, 1)) (hp : pc + 1 = pc') (hn : am_nl (x0 :: x1 :: x2 :: x3 :: T) 3 = true) (hb : 3 < nL) (k : V p l e R s m args below meth c nL X Q h nx cells slots pc' (x0 :: x1 :: x2 :: some (.ref z) :: T) st) : V p l e R s m args below meth c nL X Q h nx cells slots pc (x0 :: x1 :: x2 :: x3 :: T) (.ref z :: st) := v_astore_nG F (j := 3) d hp rfl hn hb k
theorem v_astoreG (F : am_Fx p s m args meth c y cc nL ret et X) {j : Nat} {z : Nat} (d : decode cc pc = .ok (.astore j, 2)) (hp : pc + 2 = pc') (hn : am_nl L j = true) (hb : j < nL) (k : V p l e R s m args below meth c nL X Q h nx cells slots pc' (L.set j (some (.ref z))) st) : V p l e R s m args below meth c nL X Q h nx cells slots pc L (.ref z :: st) := by
  subst hp
  intro H locs ls hR hL hl
  skip
  obtain ⟨ls', e', h'⟩ := am_store1 (v := .ref z) hl hb rfl hn
  intro T hT X
  obtain ⟨t, a, b⟩ := k H locs ls' hR hL h' T hT X
  refine ⟨t, ?_, b⟩
  jvm_step X.here [X.here.top, ↓top_set X.here.top, F.1, F.2.1, d, e', Value.isRef]
  exact a
theorem v_astore_4 (F : am_Fx p s m args meth c y cc nL ret et X) {z : Nat} {x0 x1 x2 x3 x4 : Option Value} {T : List (Option Value)} (d : decode cc pc = .ok (.astore 4, 2)) (hp : pc + 2 = pc') (hn : am_nl (x0 :: x1 :: x2 :: x3 :: x4 :: T) 4 = true) (hb : 4 < nL) (k : V p l e R s m args below meth c nL X Q h nx cells slots pc' (x0 :: x1 :: x2 :: x3 :: some (.ref z) :: T) st) : V p l e R s m args below meth c nL X Q h nx cells slots pc (x0 :: x1 :: x2 :: x3 :: x4 :: T) (.ref z :: st) := v_astoreG F (j := 4) d hp hn hb k
theorem v_astore_5 (F : am_Fx p s m args meth c y cc nL ret et X) {z : Nat} {x0 x1 x2 x3 x4 x5 : Option Value} {T : List (Option Value)} (d : decode cc pc = .ok (.astore 5, 2)) (hp : pc + 2 = pc') (hn : am_nl (x0 :: x1 :: x2 :: x3 :: x4 :: x5 :: T) 5 = true) (hb : 5 < nL) (k : V p l e R s m args below meth c nL X Q h nx cells slots pc' (x0 :: x1 :: x2 :: x3 :: x4 :: some (.ref z) :: T) st) : V p l e R s m args below meth c nL X Q h nx cells slots pc (x0 :: x1 :: x2 :: x3 :: x4 :: x5 :: T) (.ref z :: st) := v_astoreG F (j := 5) d hp hn hb k
theorem v_astore_6 (F : am_Fx p s m args meth c y cc nL ret et X) {z : Nat} {x0 x1 x2 x3 x4 x5 x6 : Option Value} {T : List (Option Value)} (d : decode cc pc = .ok (.astore 6, 2)) (hp : pc + 2 = pc') (hn : am_nl (x0 :: x1 :: x2 :: x3 :: x4 :: x5 :: x6 :: T) 6 = true) (hb : 6 < nL) (k : V p l e R s m args below meth c nL X Q h nx cells slots pc' (x0 :: x1 :: x2 :: x3 :: x4 :: x5 :: some (.ref z) :: T) st) : V p l e R s m args below meth c nL X Q h nx cells slots pc (x0 :: x1 :: x2 :: x3 :: x4 :: x5 :: x6 :: T) (.ref z :: st) := v_astoreG F (j := 6) d hp hn hb k
theorem v_astore_7 (F : am_Fx p s m args meth c y cc nL ret et X) {z : Nat} {x0 x1 x2 x3 x4 x5 x6 x7 : Option Value} {T : List (Option Value)} (d : decode cc pc = .ok (.astore 7, 2)) (hp : pc + 2 = pc') (hn : am_nl (x0 :: x1 :: x2 :: x3 :: x4 :: x5 :: x6 :: x7 :: T) 7 = true) (hb : 7 < nL) (k : V p l e R s m args below meth c nL X Q h nx cells slots pc' (x0 :: x1 :: x2 :: x3 :: x4 :: x5 :: x6 :: some (.ref z) :: T) st) : V p l e R s m args below meth c nL X Q h nx cells slots pc (x0 :: x1 :: x2 :: x3 :: x4 :: x5 :: x6 :: x7 :: T) (.ref z :: st) := v_astoreG F (j := 7) d hp hn hb k
theorem v_astore_8 (F : am_Fx p s m args meth c y cc nL ret et X) {z : Nat} {x0 x1 x2 x3 x4 x5 x6 x7 x8 : Option Value} {T : List (Option Value)} (d : decode cc pc = .ok (.astore 8, 2)) (hp : pc + 2 = pc') (hn : am_nl (x0 :: x1 :: x2 :: x3 :: x4 :: x5 :: x6 :: x7 :: x8 :: T) 8 = true) (hb : 8 < nL) (k : V p l e R s m args below meth c nL X Q h nx cells slots pc' (x0 :: x1 :: x2 :: x3 :: x4 :: x5 :: x6 :: x7 :: some (.ref z) :: T) st) : V p l e R s m args below meth c nL X Q h nx cells slots pc (x0 :: x1 :: x2 :: x3 :: x4 :: x5 :: x6 :: x7 :: x8 :: T) (.ref z :: st) := v_astoreG F (j := 8) d hp hn hb k
theorem v_astore_9 (F : am_Fx p s m args meth c y cc nL ret et X) {z : Nat} {x0 x1 x2 x3 x4 x5 x6 x7 x8 x9 : Option Value} {T : List (Option Value)} (d : decode cc pc = .ok (.astore 9, 2)) (hp : pc + 2 = pc') (hn : am_nl (x0 :: x1 :: x2 :: x3 :: x4 :: x5 :: x6 :: x7 :: x8 :: x9 :: T) 9 = true) (hb : 9 < nL) (k : V p l e R s m args below meth c nL X Q h nx cells slots pc' (x0 :: x1 :: x2 :: x3 :: x4 :: x5 :: x6 :: x7 :: x8 :: some (.ref z) :: T) st) : V p l e R s m args below meth c nL X Q h nx cells slots pc (x0 :: x1 :: x2 :: x3 :: x4 :: x5 :: x6 :: x7 :: x8 :: x9 :: T) (.ref z :: st) := v_astoreG F (j := 9) d hp hn hb k
theorem v_astore_10 (F : am_Fx p s m args meth c y cc nL ret et X) {z : Nat} {x0 x1 x2 x3 x4 x5 x6 x7 x8 x9 x10 : Option Value} {T : List (Option Value)} (d : decode cc pc = .ok (.astore 10, 2)) (hp : pc + 2 = pc') (hn : am_nl (x0 :: x1 :: x2 :: x3 :: x4 :: x5 :: x6 :: x7 :: x8 :: x9 :: x10 :: T) 10 = true) (hb : 10 < nL) (k : V p l e R s m args below meth c nL X Q h nx cells slots pc' (x0 :: x1 :: x2 :: x3 :: x4 :: x5 :: x6 :: x7 :: x8 :: x9 :: some (.ref z) :: T) st) : V p l e R s m args below meth c nL X Q h nx cells slots pc (x0 :: x1 :: x2 :: x3 :: x4 :: x5 :: x6 :: x7 :: x8 :: x9 :: x10 :: T) (.ref z :: st) := v_astoreG F (j := 10) d hp hn hb k
theorem v_astore_11 (F : am_Fx p s m args meth c y cc nL ret et X) {z : Nat} {x0 x1 x2 x3 x4 x5 x6 x7 x8 x9 x10 x11 : Option Value} {T : List (Option Value)} (d : decode cc pc = .ok (.astore 11, 2)) (hp : pc + 2 = pc') (hn : am_nl (x0 :: x1 :: x2 :: x3 :: x4 :: x5 :: x6 :: x7 :: x8 :: x9 :: x10 :: x11 :: T) 11 = true) (hb : 11 < nL) (k : V p l e R s m args below meth c nL X Q h nx cells slots pc' (x0 :: x1 :: x2 :: x3 :: x4 :: x5 :: x6 :: x7 :: x8 :: x9 :: x10 :: some (.ref z) :: T) st) : V p l e R s m args below meth c nL X Q h nx cells slots pc (x0 :: x1 :: x2 :: x3 :: x4 :: x5 :: x6 :: x7 :: x8 :: x9 :: x10 :: x11 :: T) (.ref z :: st) := v_astoreG F (j := 11) d hp hn hb k
theorem v_astore_12 (F : am_Fx p s m args meth c y cc nL ret et X) {z : Nat} {x0 x1 x2 x3 x4 x5 x6 x7 x8 x9 x10 x11 x12 : Option Value} {T : List (Option Value)} (d : decode cc pc = .ok (.astore 12, 2)) (hp : pc + 2 = pc') (hn : am_nl (x0 :: x1 :: x2 :: x3 :: x4 :: x5 :: x6 :: x7 :: x8 :: x9 :: x10 :: x11 :: x12 :: T) 12 = true) (hb : 12 < nL) (k : V p l e R s m args below meth c nL X Q h nx cells slots pc' (x0 :: x1 :: x2 :: x3 :: x4 :: x5 :: x6 :: x7 :: x8 :: x9 :: x10 :: x11 :: some (.ref z) :: T) st) : V p l e R s m args below meth c nL X Q h nx cells slots pc (x0 :: x1 :: x2 :: x3 :: x4 :: x5 :: x6 :: x7 :: x8 :: x9 :: x10 :: x11 :: x12 :: T) (.ref z :: st) := v_astoreG F (j := 12) d hp hn hb k
theorem v_astore_13 (F : am_Fx p s m args meth c y cc nL ret et X) {z : Nat} {x0 x1 x2 x3 x4 x5 x6 x7 x8 x9 x10 x11 x12 x13 : Option Value} {T : List (Option Value)} (d : decode cc pc = .ok (.astore 13, 2)) (hp : pc + 2 = pc') (hn : am_nl (x0 :: x1 :: x2 :: x3 :: x4 :: x5 :: x6 :: x7 :: x8 :: x9 :: x10 :: x11 :: x12 :: x13 :: T) 13 = true) (hb : 13 < nL) (k : V p l e R s m args below meth c nL X Q h nx cells slots pc' (x0 :: x1 :: x2 :: x3 :: x4 :: x5 :: x6 :: x7 :: x8 :: x9 :: x10 :: x11 :: x12 :: some (.ref z) :: T) st) : V p l e R s m args below meth c nL X Q h nx cells slots pc (x0 :: x1 :: x2 :: x3 :: x4 :: x5 :: x6 :: x7 :: x8 :: x9 :: x10 :: x11 :: x12 :: x13 :: T) (.ref z :: st) := v_astoreG F (j := 13) d hp hn hb k
theorem v_astore_14 (F : am_Fx p s m args meth c y cc nL ret et X) {z : Nat} {x0 x1 x2 x3 x4 x5 x6 x7 x8 x9 x10 x11 x12 x13 x14 : Option Value} {T : List (Option Value)} (d : decode cc pc = .ok (.astore 14, 2)) (hp : pc + 2 = pc') (hn : am_nl (x0 :: x1 :: x2 :: x3 :: x4 :: x5 :: x6 :: x7 :: x8 :: x9 :: x10 :: x11 :: x12 :: x13 :: x14 :: T) 14 = true) (hb : 14 < nL) (k : V p l e R s m args below meth c nL X Q h nx cells slots pc' (x0 :: x1 :: x2 :: x3 :: x4 :: x5 :: x6 :: x7 :: x8 :: x9 :: x10 :: x11 :: x12 :: x13 :: some (.ref z) :: T) st) : V p l e R s m args below meth c nL X Q h nx cells slots pc (x0 :: x1 :: x2 :: x3 :: x4 :: x5 :: x6 :: x7 :: x8 :: x9 :: x10 :: x11 :: x12 :: x13 :: x14 :: T) (.ref z :: st) := v_astoreG F (j := 14) d hp hn hb k
theorem v_astore_15 (F : am_Fx p s m args meth c y cc nL ret et X) {z : Nat} {x0 x1 x2 x3 x4 x5 x6 x7 x8 x9 x10 x11 x12 x13 x14 x15 : Option Value} {T : List (Option Value)} (d : decode cc pc = .ok (.astore 15, 2)) (hp : pc + 2 = pc') (hn : am_nl (x0 :: x1 :: x2 :: x3 :: x4 :: x5 :: x6 :: x7 :: x8 :: x9 :: x10 :: x11 :: x12 :: x13 :: x14 :: x15 :: T) 15 = true) (hb : 15 < nL) (k : V p l e R s m args below meth c nL X Q h nx cells slots pc' (x0 :: x1 :: x2 :: x3 :: x4 :: x5 :: x6 :: x7 :: x8 :: x9 :: x10 :: x11 :: x12 :: x13 :: x14 :: some (.ref z) :: T) st) : V p l e R s m args below meth c nL X Q h nx cells slots pc (x0 :: x1 :: x2 :: x3 :: x4 :: x5 :: x6 :: x7 :: x8 :: x9 :: x10 :: x11 :: x12 :: x13 :: x14 :: x15 :: T) (.ref z :: st) := v_astoreG F (j := 15) d hp hn hb k
theorem v_astore_16 (F : am_Fx p s m args meth c y cc nL ret et X) {z : Nat} {x0 x1 x2 x3 x4 x5 x6 x7 x8 x9 x10 x11 x12 x13 x14 x15 x16 : Option Value} {T : List (Option Value)} (d : decode cc pc = .ok (.astore 16, 2)) (hp : pc + 2 = pc') (hn : am_nl (x0 :: x1 :: x2 :: x3 :: x4 :: x5 :: x6 :: x7 :: x8 :: x9 :: x10 :: x11 :: x12 :: x13 :: x14 :: x15 :: x16 :: T) 16 = true) (hb : 16 < nL) (k : V p l e R s m args below meth c nL X Q h nx cells slots pc' (x0 :: x1 :: x2 :: x3 :: x4 :: x5 :: x6 :: x7 :: x8 :: x9 :: x10 :: x11 :: x12 :: x13 :: x14 :: x15 :: some (.ref z) :: T) st) : V p l e R s m args below meth c nL X Q h nx cells slots pc (x0 :: x1 :: x2 :: x3 :: x4 :: x5 :: x6 :: x7 :: x8 :: x9 :: x10 :: x11 :: x12 :: x13 :: x14 :: x15 :: x16 :: T) (.ref z :: st) := v_astoreG F (j := 16) d hp hn hb k
theorem v_astore_17 (F : am_Fx p s m args meth c y cc nL ret et X) {z : Nat} {x0 x1 x2 x3 x4 x5 x6 x7 x8 x9 x10 x11 x12 x13 x14 x15 x16 x17 : Option Value} {T : List (Option Value)} (d : decode cc pc = .ok (.astore 17, 2)) (hp : pc + 2 = pc') (hn : am_nl (x0 :: x1 :: x2 :: x3 :: x4 :: x5 :: x6 :: x7 :: x8 :: x9 :: x10 :: x11 :: x12 :: x13 :: x14 :: x15 :: x16 :: x17 :: T) 17 = true) (hb : 17 < nL) (k : V p l e R s m args below meth c nL X Q h nx cells slots pc' (x0 :: x1 :: x2 :: x3 :: x4 :: x5 :: x6 :: x7 :: x8 :: x9 :: x10 :: x11 :: x12 :: x13 :: x14 :: x15 :: x16 :: some (.ref z) :: T) st) : V p l e R s m args below meth c nL X Q h nx cells slots pc (x0 :: x1 :: x2 :: x3 :: x4 :: x5 :: x6 :: x7 :: x8 :: x9 :: x10 :: x11 :: x12 :: x13 :: x14 :: x15 :: x16 :: x17 :: T) (.ref z :: st) := v_astoreG F (j := 17) d hp hn hb k
theorem v_iincG (F : am_Fx p s m args meth c y cc nL ret et X) {j : Nat} {n z : Int} (d : decode cc pc = .ok (.iinc j n, 3)) (hp : pc + 3 = pc') (hv : L[j]? = some (some (iV z))) (hn : am_nl L j = true) (hb : j < nL) (k : V p l e R s m args below meth c nL X Q h nx cells slots pc' (L.set j (some (iV (z + n)))) st) : V p l e R s m args below meth c nL X Q h nx cells slots pc L st := by
  subst hp
  intro H locs ls hR hL hl
  have hg := hl.2.2 _ _ hv
  obtain ⟨ls', e', h'⟩ := am_store1 (v := iV (z + n)) hl hb rfl hn
  rw [show iV (z + n) = Value.int (Int32.ofInt z + Int32.ofInt n) by rw [← Int32.ofInt_add]] at e'
  intro T hT X
  obtain ⟨t, a, b⟩ := k H locs ls' hR hL h' T hT X
  refine ⟨t, ?_, b⟩
  jvm_step X.here [X.here.top, ↓top_set X.here.top, F.1, F.2.1, d, hg, e']
  exact a
theorem v_iinc_0 (F : am_Fx p s m args meth c y cc nL ret et X) {n z : Int} {T : List (Option Value)} (d : decode cc pc = .ok (.iinc 0 n, 3)) (hp : pc + 3 = pc') (hn : am_nl (some (iV z) :: T) 0 = true) (hb : 0 < nL) (k : V p l e R s m args below meth c nL X Q h nx cells slots pc' (some (iV (z + n)) :: T) st) : V p l e R s m args below meth c nL X Q h nx cells slots pc (some (iV z) :: T) st := v_iincG F (j := 0) d hp rfl hn hb k
theorem v_iinc_1 (F : am_Fx p s m args meth c y cc nL ret et X) {n z : Int} {x0 : Option Value} {T : List (Option Value)} (d : decode cc pc = .ok (.iinc 1 n, 3)) (hp : pc + 3 = pc') (hn : am_nl (x0 :: some (iV z) :: T) 1 = true) (hb : 1 < nL) (k : V p l e R s m args below meth c nL X Q h nx cells slots pc' (x0 :: some (iV (z + n)) :: T) st) : V p l e R s m args below meth c nL X Q h nx cells slots pc (x0 :: some (iV z) :: T) st := v_iincG F (j := 1) d hp rfl hn hb k
theorem v_iinc_2 (F : am_Fx p s m args meth c y cc nL ret et X) {n z : Int} {x0 x1 : Option Value} {T : List (Option Value)} (d : decode cc pc = .ok (.iinc 2 n, 3)) (hp : pc + 3 = pc') (hn : am_nl (x0 :: x1 :: some (iV z) :: T) 2 = true) (hb : 2 < nL) (k : V p l e R s m args below meth c nL X Q h nx cells slots pc' (x0 :: x1 :: some (iV (z + n)) :: T) st) : V p l e R s m args below meth c nL X Q h nx cells slots pc (x0 :: x1 :: some (iV z) :: T) st := v_iincG F (j := 2) d hp rfl hn hb k
theorem v_iinc_3 (F : am_Fx p s m args meth c y cc nL ret et X) {n z : Int} {x0 x1 x2 : Option Value} {T : List (Option Value)} (d : decode cc pc = .ok (.iinc 3 n, 3)) (hp : pc + 3 = pc') (hn : am_nl (x0 :: x1 :: x2 :: some (iV z) :: T) 3 = true) (hb : 3 < nL) (k : V p l e R s m args below meth c nL X Q h nx cells slots pc' (x0 :: x1 :: x2 :: some (iV (z + n)) :: T) st) : V p l e R s m args below meth c nL X Q h nx cells slots pc (x0 :: x1 :: x2 :: some (iV z) :: T) st := v_iincG F (j := 3) d hp rfl hn hb k
theorem v_iinc_4 (F : am_Fx p s m args meth c y cc nL ret et X) {n z : Int} {x0 x1 x2 x3 : Option Value} {T : List (Option Value)} (d : decode cc pc = .ok (.iinc 4 n, 3)) (hp : pc + 3 = pc') (hn : am_nl (x0 :: x1 :: x2 :: x3 :: some (iV z) :: T) 4 = true) (hb : 4 < nL) (k : V p l e R s m args below meth c nL X Q h nx cells slots pc' (x0 :: x1 :: x2 :: x3 :: some (iV (z + n)) :: T) st) : V p l e R s m args below meth c nL X Q h nx cells slots pc (x0 :: x1 :: x2 :: x3 :: some (iV z) :: T) st := v_iincG F (j := 4) d hp rfl hn hb k
theorem v_iinc_5 (F : am_Fx p s m args meth c y cc nL ret et X) {n z : Int} {x0 x1 x2 x3 x4 : Option Value} {T : List (Option Value)} (d : decode cc pc = .ok (.iinc 5 n, 3)) (hp : pc + 3 = pc') (hn : am_nl (x0 :: x1 :: x2 :: x3 :: x4 :: some (iV z) :: T) 5 = true) (hb : 5 < nL) (k : V p l e R s m args below meth c nL X Q h nx cells slots pc' (x0 :: x1 :: x2 :: x3 :: x4 :: some (iV (z + n)) :: T) st) : V p l e R s m args below meth c nL X Q h nx cells slots pc (x0 :: x1 :: x2 :: x3 :: x4 :: some (iV z) :: T) st := v_iincG F (j := 5) d hp rfl hn hb k
theorem v_iinc_6 (F : am_Fx p s m args meth c y cc nL ret et X) {n z : Int} {x0 x1 x2 x3 x4 x5 : Option Value} {T : List (Option Value)} (d : decode cc pc = .ok (.iinc 6 n, 3)) (hp : pc + 3 = pc') (hn : am_nl (x0 :: x1 :: x2 :: x3 :: x4 :: x5 :: some (iV z) :: T) 6 = true) (hb : 6 < nL) (k : V p l e R s m args below meth c nL X Q h nx cells slots pc' (x0 :: x1 :: x2 :: x3 :: x4 :: x5 :: some (iV (z + n)) :: T) st) : V p l e R s m args below meth c nL X Q h nx cells slots pc (x0 :: x1 :: x2 :: x3 :: x4 :: x5 :: some (iV z) :: T) st := v_iincG F (j := 6) d hp rfl hn hb k
theorem v_iinc_7 (F : am_Fx p s m args meth c y cc nL ret et X) {n z : Int} {x0 x1 x2 x3 x4 x5 x6 : Option Value} {T : List (Option Value)} (d : decode cc pc = .ok (.iinc 7 n, 3)) (hp : pc + 3 = pc') (hn : am_nl (x0 :: x1 :: x2 :: x3 :: x4 :: x5 :: x6 :: some (iV z) :: T) 7 = true) (hb : 7 < nL) (k : V p l e R s m args below meth c nL X Q h nx cells slots pc' (x0 :: x1 :: x2 :: x3 :: x4 :: x5 :: x6 :: some (iV (z + n)) :: T) st) : V p l e R s m args below meth c nL X Q h nx cells slots pc (x0 :: x1 :: x2 :: x3 :: x4 :: x5 :: x6 :: some (iV z) :: T) st := v_iincG F (j := 7) d hp rfl hn hb k
theorem v_iinc_8 (F : am_Fx p s m args meth c y cc nL ret et X) {n z : Int} {x0 x1 x2 x3 x4 x5 x6 x7 : Option Value} {T : List (Option Value)} (d : decode cc pc = .ok (.iinc 8 n, 3)) (hp : pc + 3 = pc') (hn : am_nl (x0 :: x1 :: x2 :: x3 :: x4 :: x5 :: x6 :: x7 :: some (iV z) :: T) 8 = true) (hb : 8 < nL) (k : V p l e R s m args below meth c nL X Q h nx cells slots pc' (x0 :: x1 :: x2 :: x3 :: x4 :: x5 :: x6 :: x7 :: some (iV (z + n)) :: T) st) : V p l e R s m args below meth c nL X Q h nx cells slots pc (x0 :: x1 :: x2 :: x3 :: x4 :: x5 :: x6 :: x7 :: some (iV z) :: T) st := v_iincG F (j := 8) d hp rfl hn hb k
theorem v_iinc_9 (F : am_Fx p s m args meth c y cc nL ret et X) {n z : Int} {x0 x1 x2 x3 x4 x5 x6 x7 x8 : Option Value} {T : List (Option Value)} (d : decode cc pc = .ok (.iinc 9 n, 3)) (hp : pc + 3 = pc') (hn : am_nl (x0 :: x1 :: x2 :: x3 :: x4 :: x5 :: x6 :: x7 :: x8 :: some (iV z) :: T) 9 = true) (hb : 9 < nL) (k : V p l e R s m args below meth c nL X Q h nx cells slots pc' (x0 :: x1 :: x2 :: x3 :: x4 :: x5 :: x6 :: x7 :: x8 :: some (iV (z + n)) :: T) st) : V p l e R s m args below meth c nL X Q h nx cells slots pc (x0 :: x1 :: x2 :: x3 :: x4 :: x5 :: x6 :: x7 :: x8 :: some (iV z) :: T) st := v_iincG F (j := 9) d hp rfl hn hb k
theorem v_iinc_10 (F : am_Fx p s m args meth c y cc nL ret et X) {n z : Int} {x0 x1 x2 x3 x4 x5 x6 x7 x8 x9 : Option Value} {T : List (Option Value)} (d : decode cc pc = .ok (.iinc 10 n, 3)) (hp : pc + 3 = pc') (hn : am_nl (x0 :: x1 :: x2 :: x3 :: x4 :: x5 :: x6 :: x7 :: x8 :: x9 :: some (iV z) :: T) 10 = true) (hb : 10 < nL) (k : V p l e R s m args below meth c nL X Q h nx cells slots pc' (x0 :: x1 :: x2 :: x3 :: x4 :: x5 :: x6 :: x7 :: x8 :: x9 :: some (iV (z + n)) :: T) st) : V p l e R s m args below meth c nL X Q h nx cells slots pc (x0 :: x1 :: x2 :: x3 :: x4 :: x5 :: x6 :: x7 :: x8 :: x9 :: some (iV z) :: T) st := v_iincG F (j := 10) d hp rfl hn hb k
theorem v_iinc_11 (F : am_Fx p s m args meth c y cc nL ret et X) {n z : Int} {x0 x1 x2 x3 x4 x5 x6 x7 x8 x9 x10 : Option Value} {T : List (Option Value)} (d : decode cc pc = .ok (.iinc 11 n, 3)) (hp : pc + 3 = pc') (hn : am_nl (x0 :: x1 :: x2 :: x3 :: x4 :: x5 :: x6 :: x7 :: x8 :: x9 :: x10 :: some (iV z) :: T) 11 = true) (hb : 11 < nL) (k : V p l e R s m args below meth c nL X Q h nx cells slots pc' (x0 :: x1 :: x2 :: x3 :: x4 :: x5 :: x6 :: x7 :: x8 :: x9 :: x10 :: some (iV (z + n)) :: T) st) : V p l e R s m args below meth c nL X Q h nx cells slots pc (x0 :: x1 :: x2 :: x3 :: x4 :: x5 :: x6 :: x7 :: x8 :: x9 :: x10 :: some (iV z) :: T) st := v_iincG F (j := 11) d hp rfl hn hb k
theorem v_iinc_12 (F : am_Fx p s m args meth c y cc nL ret et X) {n z : Int} {x0 x1 x2 x3 x4 x5 x6 x7 x8 x9 x10 x11 : Option Value} {T : List (Option Value)} (d : decode cc pc = .ok (.iinc 12 n, 3)) (hp : pc + 3 = pc') (hn : am_nl (x0 :: x1 :: x2 :: x3 :: x4 :: x5 :: x6 :: x7 :: x8 :: x9 :: x10 :: x11 :: some (iV z) :: T) 12 = true) (hb : 12 < nL) (k : V p l e R s m args below meth c nL X Q h nx cells slots pc' (x0 :: x1 :: x2 :: x3 :: x4 :: x5 :: x6 :: x7 :: x8 :: x9 :: x10 :: x11 :: some (iV (z + n)) :: T) st) : V p l e R s m args below meth c nL X Q h nx cells slots pc (x0 :: x1 :: x2 :: x3 :: x4 :: x5 :: x6 :: x7 :: x8 :: x9 :: x10 :: x11 :: some (iV z) :: T) st := v_iincG F (j := 12) d hp rfl hn hb k
theorem v_iinc_13 (F : am_Fx p s m args meth c y cc nL ret et X) {n z : Int} {x0 x1 x2 x3 x4 x5 x6 x7 x8 x9 x10 x11 x12 : Option Value} {T : List (Option Value)} (d : decode cc pc = .ok (.iinc 13 n, 3)) (hp : pc + 3 = pc') (hn : am_nl (x0 :: x1 :: x2 :: x3 :: x4 :: x5 :: x6 :: x7 :: x8 :: x9 :: x10 :: x11 :: x12 :: some (iV z) :: T) 13 = true) (hb : 13 < nL) (k : V p l e R s m args below meth c nL X Q h nx cells slots pc' (x0 :: x1 :: x2 :: x3 :: x4 :: x5 :: x6 :: x7 :: x8 :: x9 :: x10 :: x11 :: x12 :: some (iV (z + n)) :: T) st) : V p l e R s m args below meth c nL X Q h nx cells slots pc (x0 :: x1 :: x2 :: x3 :: x4 :: x5 :: x6 :: x7 :: x8 :: x9 :: x10 :: x11 :: x12 :: some (iV z) :: T) st := v_iincG F (j := 13) d hp rfl hn hb k
theorem v_iinc_14 (F : am_Fx p s m args meth c y cc nL ret et X) {n z : Int} {x0 x1 x2 x3 x4 x5 x6 x7 x8 x9 x10 x11 x12 x13 : Option Value} {T : List (Option Value)} (d : decode cc pc = .ok (.iinc 14 n, 3)) (hp : pc + 3 = pc') (hn : am_nl (x0 :: x1 :: x2 :: x3 :: x4 :: x5 :: x6 :: x7 :: x8 :: x9 :: x10 :: x11 :: x12 :: x13 :: some (iV z) :: T) 14 = true) (hb : 14 < nL) (k : V p l e R s m args below meth c nL X Q h nx cells slots pc' (x0 :: x1 :: x2 :: x3 :: x4 :: x5 :: x6 :: x7 :: x8 :: x9 :: x10 :: x11 :: x12 :: x13 :: some (iV (z + n)) :: T) st) : V p l e R s m args below meth c nL X Q h nx cells slots pc (x0 :: x1 :: x2 :: x3 :: x4 :: x5 :: x6 :: x7 :: x8 :: x9 :: x10 :: x11 :: x12 :: x13 :: some (iV z) :: T) st := v_iincG F (j := 14) d hp rfl hn hb k
theorem v_iinc_15 (F : am_Fx p s m args meth c y cc nL ret et X) {n z : Int} {x0 x1 x2 x3 x4 x5 x6 x7 x8 x9 x10 x11 x12 x13 x14 : Option Value} {T : List (Option Value)} (d : decode cc pc = .ok (.iinc 15 n, 3)) (hp : pc + 3 = pc') (hn : am_nl (x0 :: x1 :: x2 :: x3 :: x4 :: x5 :: x6 :: x7 :: x8 :: x9 :: x10 :: x11 :: x12 :: x13 :: x14 :: some (iV z) :: T) 15 = true) (hb : 15 < nL) (k : V p l e R s m args below meth c nL X Q h nx cells slots pc' (x0 :: x1 :: x2 :: x3 :: x4 :: x5 :: x6 :: x7 :: x8 :: x9 :: x10 :: x11 :: x12 :: x13 :: x14 :: some (iV (z + n)) :: T) st) : V p l e R s m args below meth c nL X Q h nx cells slots pc (x0 :: x1 :: x2 :: x3 :: x4 :: x5 :: x6 :: x7 :: x8 :: x9 :: x10 :: x11 :: x12 :: x13 :: x14 :: some (iV z) :: T) st := v_iincG F (j := 15) d hp rfl hn hb k
theorem v_iinc_16 (F : am_Fx p s m args meth c y cc nL ret et X) {n z : Int} {x0 x1 x2 x3 x4 x5 x6 x7 x8 x9 x10 x11 x12 x13 x14 x15 : Option Value} {T : List (Option Value)} (d : decode cc pc = .ok (.iinc 16 n, 3)) (hp : pc + 3 = pc') (hn : am_nl (x0 :: x1 :: x2 :: x3 :: x4 :: x5 :: x6 :: x7 :: x8 :: x9 :: x10 :: x11 :: x12 :: x13 :: x14 :: x15 :: some (iV z) :: T) 16 = true) (hb : 16 < nL) (k : V p l e R s m args below meth c nL X Q h nx cells slots pc' (x0 :: x1 :: x2 :: x3 :: x4 :: x5 :: x6 :: x7 :: x8 :: x9 :: x10 :: x11 :: x12 :: x13 :: x14 :: x15 :: some (iV (z + n)) :: T) st) : V p l e R s m args below meth c nL X Q h nx cells slots pc (x0 :: x1 :: x2 :: x3 :: x4 :: x5 :: x6 :: x7 :: x8 :: x9 :: x10 :: x11 :: x12 :: x13 :: x14 :: x15 :: some (iV z) :: T) st := v_iincG F (j := 16) d hp rfl hn hb k
theorem v_iinc_17 (F : am_Fx p s m args meth c y cc nL ret et X) {n z : Int} {x0 x1 x2 x3 x4 x5 x6 x7 x8 x9 x10 x11 x12 x13 x14 x15 x16 : Option Value} {T : List (Option Value)} (d : decode cc pc = .ok (.iinc 17 n, 3)) (hp : pc + 3 = pc') (hn : am_nl (x0 :: x1 :: x2 :: x3 :: x4 :: x5 :: x6 :: x7 :: x8 :: x9 :: x10 :: x11 :: x12 :: x13 :: x14 :: x15 :: x16 :: some (iV z) :: T) 17 = true) (hb : 17 < nL) (k : V p l e R s m args below meth c nL X Q h nx cells slots pc' (x0 :: x1 :: x2 :: x3 :: x4 :: x5 :: x6 :: x7 :: x8 :: x9 :: x10 :: x11 :: x12 :: x13 :: x14 :: x15 :: x16 :: some (iV (z + n)) :: T) st) : V p l e R s m args below meth c nL X Q h nx cells slots pc (x0 :: x1 :: x2 :: x3 :: x4 :: x5 :: x6 :: x7 :: x8 :: x9 :: x10 :: x11 :: x12 :: x13 :: x14 :: x15 :: x16 :: some (iV z) :: T) st := v_iincG F (j := 17) d hp rfl hn hb k
theorem v_iadd (F : am_Fx p s m args meth c y cc nL ret et X) {a b : Int} (d : decode cc pc = .ok (.iadd, 1)) (hp : pc + 1 = pc') (k : V p l e R s m args below meth c nL X Q h nx cells slots pc' L (iV (a + b) :: st)) : V p l e R s m args below meth c nL X Q h nx cells slots pc L (iV b :: iV a :: st) := by
  subst hp
  intro H locs ls hR hL hl
  have k := k H locs ls hR hL hl
  refine lv_iadd F.1 F.2.1 d ?_
  rw [← Int32.ofInt_add]
  exact k
theorem v_isub (F : am_Fx p s m args meth c y cc nL ret et X) {a b : Int} (d : decode cc pc = .ok (.isub, 1)) (hp : pc + 1 = pc') (k : V p l e R s m args below meth c nL X Q h nx cells slots pc' L (iV (a - b) :: st)) : V p l e R s m args below meth c nL X Q h nx cells slots pc L (iV b :: iV a :: st) := by
  subst hp
  intro H locs ls hR hL hl
  have k := k H locs ls hR hL hl
  refine lv_isub F.1 F.2.1 d ?_
  rw [← Int32.ofInt_sub]
  exact k
theorem v_imul (F : am_Fx p s m args meth c y cc nL ret et X) {a b : Int} (d : decode cc pc = .ok (.imul, 1)) (hp : pc + 1 = pc') (k : V p l e R s m args below meth c nL X Q h nx cells slots pc' L (iV (a * b) :: st)) : V p l e R s m args below meth c nL X Q h nx cells slots pc L (iV b :: iV a :: st) := by
  subst hp
  intro H locs ls hR hL hl
  have k := k H locs ls hR hL hl
  refine lv_imul F.1 F.2.1 d ?_
  rw [← Int32.ofInt_mul]
  exact k
theorem v_idiv (F : am_Fx p s m args meth c y cc nL ret et X) {a b : Int} (d : decode cc pc = .ok (.idiv, 1)) (hp : pc + 1 = pc') (hb : b ≠ 0) (ra : -2147483648 < a ∧ a < 2147483648) (rb : -2147483648 ≤ b ∧ b < 2147483648) (k : V p l e R s m args below meth c nL X Q h nx cells slots pc' L (iV (a.tdiv b) :: st)) : V p l e R s m args below meth c nL X Q h nx cells slots pc L (iV b :: iV a :: st) := by
  subst hp
  intro H locs ls hR hL hl
  have k := k H locs ls hR hL hl
  refine lv_idiv F.1 F.2.1 d (fun q => hb (by have := congrArg Int32.toInt q; rw [i32_toInt rb] at this; simpa using this)) ?_
  rw [i32_div ra rb]
  exact k
theorem v_ladd (F : am_Fx p s m args meth c y cc nL ret et X) {a b : Int} (d : decode cc pc = .ok (.ladd, 1)) (hp : pc + 1 = pc') (k : V p l e R s m args below meth c nL X Q h nx cells slots pc' L (lV (a + b) :: st)) : V p l e R s m args below meth c nL X Q h nx cells slots pc L (lV b :: lV a :: st) := by
  subst hp
  intro H locs ls hR hL hl
  have k := k H locs ls hR hL hl
  refine lv_ladd F.1 F.2.1 d ?_
  rw [← Int64.ofInt_add]
  exact k
theorem v_lsub (F : am_Fx p s m args meth c y cc nL ret et X) {a b : Int} (d : decode cc pc = .ok (.lsub, 1)) (hp : pc + 1 = pc') (k : V p l e R s m args below meth c nL X Q h nx cells slots pc' L (lV (a - b) :: st)) : V p l e R s m args below meth c nL X Q h nx cells slots pc L (lV b :: lV a :: st) := by
  subst hp
  intro H locs ls hR hL hl
  have k := k H locs ls hR hL hl
  refine lv_lsub F.1 F.2.1 d ?_
  rw [← Int64.ofInt_sub]
  exact k
theorem v_lmul (F : am_Fx p s m args meth c y cc nL ret et X) {a b : Int} (d : decode cc pc = .ok (.lmul, 1)) (hp : pc + 1 = pc') (k : V p l e R s m args below meth c nL X Q h nx cells slots pc' L (lV (a * b) :: st)) : V p l e R s m args below meth c nL X Q h nx cells slots pc L (lV b :: lV a :: st) := by
  subst hp
  intro H locs ls hR hL hl
  have k := k H locs ls hR hL hl
  refine lv_lmul F.1 F.2.1 d ?_
  rw [← Int64.ofInt_mul]
  exact k
theorem v_ldiv (F : am_Fx p s m args meth c y cc nL ret et X) {a b : Int} (d : decode cc pc = .ok (.ldiv, 1)) (hp : pc + 1 = pc') (hb : b ≠ 0) (ra : -9223372036854775808 < a ∧ a < 9223372036854775808) (rb : -9223372036854775808 ≤ b ∧ b < 9223372036854775808) (k : V p l e R s m args below meth c nL X Q h nx cells slots pc' L (lV (a.tdiv b) :: st)) : V p l e R s m args below meth c nL X Q h nx cells slots pc L (lV b :: lV a :: st) := by
  subst hp
  intro H locs ls hR hL hl
  have k := k H locs ls hR hL hl
  refine lv_ldiv F.1 F.2.1 d (fun q => hb (by have := congrArg Int64.toInt q; rw [i64_toInt rb] at this; simpa using this)) ?_
  rw [i64_div ra rb]
  exact k
theorem v_lrem (F : am_Fx p s m args meth c y cc nL ret et X) {a b : Int} (d : decode cc pc = .ok (.lrem, 1)) (hp : pc + 1 = pc') (hb : b ≠ 0) (ra : -9223372036854775808 < a ∧ a < 9223372036854775808) (rb : -9223372036854775808 ≤ b ∧ b < 9223372036854775808) (k : V p l e R s m args below meth c nL X Q h nx cells slots pc' L (lV (a.tmod b) :: st)) : V p l e R s m args below meth c nL X Q h nx cells slots pc L (lV b :: lV a :: st) := by
  subst hp
  intro H locs ls hR hL hl
  refine lv_lrem F.1 F.2.1 d (fun q => hb (by have := congrArg Int64.toInt q; rw [i64_toInt rb] at this; simpa using this)) ?_
  rw [i64_div ra rb, ← Int64.ofInt_mul, ← Int64.ofInt_sub, show a - a.tdiv b * b = a.tmod b by rw [Int.tmod_def, Int.mul_comm]]
  exact k H locs ls hR hL hl
theorem v_i2l (F : am_Fx p s m args meth c y cc nL ret et X) {a : Int} (d : decode cc pc = .ok (.i2l, 1)) (hp : pc + 1 = pc') (ra : -2147483648 ≤ a ∧ a < 2147483648) (k : V p l e R s m args below meth c nL X Q h nx cells slots pc' L (lV a :: st)) : V p l e R s m args below meth c nL X Q h nx cells slots pc L (iV a :: st) := by
  subst hp
  intro H locs ls hR hL hl
  exact lv_i2l F.1 F.2.1 d (i64_of32 ra) (k H locs ls hR hL hl)
theorem v_l2i (F : am_Fx p s m args meth c y cc nL ret et X) {a : Int} (d : decode cc pc = .ok (.l2i, 1)) (hp : pc + 1 = pc') (k : V p l e R s m args below meth c nL X Q h nx cells slots pc' L (iV a :: st)) : V p l e R s m args below meth c nL X Q h nx cells slots pc L (lV a :: st) := by
  subst hp
  intro H locs ls hR hL hl
  exact lv_l2i F.1 F.2.1 d i32_of64 (k H locs ls hR hL hl)
theorem v_lcmp (F : am_Fx p s m args meth c y cc nL ret et X) {a b : Int} (d : decode cc pc = .ok (.lcmp, 1)) (hp : pc + 1 = pc') (ra : -9223372036854775808 ≤ a ∧ a < 9223372036854775808) (rb : -9223372036854775808 ≤ b ∧ b < 9223372036854775808) (k : V p l e R s m args below meth c nL X Q h nx cells slots pc' L (iV (if b < a then 1 else if a = b then 0 else -1) :: st)) : V p l e R s m args below meth c nL X Q h nx cells slots pc L (lV b :: lV a :: st) := by
  subst hp
  intro H locs ls hR hL hl
  refine W.lcmp F.1 F.2.1 d ?_
  have e1 : lg_cmp (Int64.ofInt a) (Int64.ofInt b) = Int32.ofInt (if b < a then 1 else if a = b then 0 else -1) := by
    unfold lg_cmp
    by_cases h1 : b < a
    · rw [if_pos ((i64_lt rb ra).mpr h1), if_pos h1]; rfl
    · rw [if_neg (fun q => h1 ((i64_lt rb ra).mp q)), if_neg h1]
      by_cases h2 : a = b
      · rw [if_pos ((i64_eq ra rb).mpr h2), if_pos h2]; rfl
      · rw [if_neg (fun q => h2 ((i64_eq ra rb).mp q)), if_neg h2]; rfl
  rw [e1]
  exact k H locs ls hR hL hl
theorem v_dup (F : am_Fx p s m args meth c y cc nL ret et X) {v : Value} (d : decode cc pc = .ok (.dup, 1)) (hp : pc + 1 = pc') (hv : v.category = 1) (k : V p l e R s m args below meth c nL X Q h nx cells slots pc' L (v :: v :: st)) : V p l e R s m args below meth c nL X Q h nx cells slots pc L (v :: st) := by
  subst hp
  intro H locs ls hR hL hl
  exact lv_dup F.1 F.2.1 d hv (k H locs ls hR hL hl)
theorem v_dup_x1 (F : am_Fx p s m args meth c y cc nL ret et X) {v w : Value} (d : decode cc pc = .ok (.dup_x1, 1)) (hp : pc + 1 = pc') (hv : v.category = 1) (hw : w.category = 1) (k : V p l e R s m args below meth c nL X Q h nx cells slots pc' L (v :: w :: v :: st)) : V p l e R s m args below meth c nL X Q h nx cells slots pc L (v :: w :: st) := by
  subst hp
  intro H locs ls hR hL hl
  exact lv_dup_x1 F.1 F.2.1 d hv hw (k H locs ls hR hL hl)
theorem v_dup2 (F : am_Fx p s m args meth c y cc nL ret et X) {v w : Value} (d : decode cc pc = .ok (.dup2, 1)) (hp : pc + 1 = pc') (hv : v.category = 1) (hw : w.category = 1) (k : V p l e R s m args below meth c nL X Q h nx cells slots pc' L (v :: w :: v :: w :: st)) : V p l e R s m args below meth c nL X Q h nx cells slots pc L (v :: w :: st) := by
  subst hp
  intro H locs ls hR hL hl
  exact lv_dup2_11 F.1 F.2.1 d hv hw (k H locs ls hR hL hl)
theorem v_pop (F : am_Fx p s m args meth c y cc nL ret et X) {v : Value} (d : decode cc pc = .ok (.pop, 1)) (hp : pc + 1 = pc') (hv : v.category = 1) (k : V p l e R s m args below meth c nL X Q h nx cells slots pc' L st) : V p l e R s m args below meth c nL X Q h nx cells slots pc L (v :: st) := by
  subst hp
  intro H locs ls hR hL hl
  exact lv_pop F.1 F.2.1 d hv (k H locs ls hR hL hl)
theorem v_goto (F : am_Fx p s m args meth c y cc nL ret et X) {off : Int} {tgt : Nat} (d : decode cc pc = .ok (.goto off, 3)) (ht : (pc : Int) + off = (tgt : Int)) (k : V p l e R s m args below meth c nL X Q h nx cells slots tgt L st) : V p l e R s m args below meth c nL X Q h nx cells slots pc L st := fun H locs ls hR hL hl => lv_goto F.1 F.2.1 d ht (k H locs ls hR hL hl)
theorem v_if_eq (F : am_Fx p s m args meth c y cc nL ret et X) {a off : Int} {tgt : Nat} (d : decode cc pc = .ok (.ifCond .eq off, 3)) (ht : (pc : Int) + off = (tgt : Int)) (hp : pc + 3 = pc') (ra : -2147483648 ≤ a ∧ a < 2147483648) (kt : a = 0 → V p l e R s m args below meth c nL X Q h nx cells slots tgt L st) (kf : ¬ (a = 0) → V p l e R s m args below meth c nL X Q h nx cells slots pc' L st) : V p l e R s m args below meth c nL X Q h nx cells slots pc L (iV a :: st) := by
  subst hp
  intro H locs ls hR hL hl
  have hi := i32_eq (b := 0) ra (by omega)
  exact lv_if_eq F.1 F.2.1 d ht (fun q => kt (hi.mp q) H locs ls hR hL hl) (fun q => kf (fun z => q (hi.mpr z)) H locs ls hR hL hl)
theorem v_icmp_eq (F : am_Fx p s m args meth c y cc nL ret et X) {a b off : Int} {tgt : Nat} (d : decode cc pc = .ok (.if_icmp .eq off, 3)) (ht : (pc : Int) + off = (tgt : Int)) (hp : pc + 3 = pc') (ra : -2147483648 ≤ a ∧ a < 2147483648) (rb : -2147483648 ≤ b ∧ b < 2147483648) (kt : a = b → V p l e R s m args below meth c nL X Q h nx cells slots tgt L st) (kf : ¬ (a = b) → V p l e R s m args below meth c nL X Q h nx cells slots pc' L st) : V p l e R s m args below meth c nL X Q h nx cells slots pc L (iV b :: iV a :: st) := by
  subst hp
  intro H locs ls hR hL hl
  have hi := i32_eq ra rb
  exact lv_icmp_eq F.1 F.2.1 d ht (fun q => kt (hi.mp q) H locs ls hR hL hl) (fun q => kf (fun z => q (hi.mpr z)) H locs ls hR hL hl)
theorem v_if_ne (F : am_Fx p s m args meth c y cc nL ret et X) {a off : Int} {tgt : Nat} (d : decode cc pc = .ok (.ifCond .ne off, 3)) (ht : (pc : Int) + off = (tgt : Int)) (hp : pc + 3 = pc') (ra : -2147483648 ≤ a ∧ a < 2147483648) (kt : ¬ a = 0 → V p l e R s m args below meth c nL X Q h nx cells slots tgt L st) (kf : a = 0 → V p l e R s m args below meth c nL X Q h nx cells slots pc' L st) : V p l e R s m args below meth c nL X Q h nx cells slots pc L (iV a :: st) := by
  subst hp
  intro H locs ls hR hL hl
  have hi := not_congr (i32_eq (b := 0) ra (by omega))
  exact lv_if_ne F.1 F.2.1 d ht (fun q => kt (hi.mp q) H locs ls hR hL hl) (fun q => kf (Classical.byContradiction fun z => hi.mpr z q) H locs ls hR hL hl)
theorem v_icmp_ne (F : am_Fx p s m args meth c y cc nL ret et X) {a b off : Int} {tgt : Nat} (d : decode cc pc = .ok (.if_icmp .ne off, 3)) (ht : (pc : Int) + off = (tgt : Int)) (hp : pc + 3 = pc') (ra : -2147483648 ≤ a ∧ a < 2147483648) (rb : -2147483648 ≤ b ∧ b < 2147483648) (kt : ¬ a = b → V p l e R s m args below meth c nL X Q h nx cells slots tgt L st) (kf : a = b → V p l e R s m args below meth c nL X Q h nx cells slots pc' L st) : V p l e R s m args below meth c nL X Q h nx cells slots pc L (iV b :: iV a :: st) := by
  subst hp
  intro H locs ls hR hL hl
  have hi := not_congr (i32_eq ra rb)
  exact lv_icmp_ne F.1 F.2.1 d ht (fun q => kt (hi.mp q) H locs ls hR hL hl) (fun q => kf (Classical.byContradiction fun z => hi.mpr z q) H locs ls hR hL hl)
theorem v_if_lt (F : am_Fx p s m args meth c y cc nL ret et X) {a off : Int} {tgt : Nat} (d : decode cc pc = .ok (.ifCond .lt off, 3)) (ht : (pc : Int) + off = (tgt : Int)) (hp : pc + 3 = pc') (ra : -2147483648 ≤ a ∧ a < 2147483648) (kt : a < 0 → V p l e R s m args below meth c nL X Q h nx cells slots tgt L st) (kf : ¬ (a < 0) → V p l e R s m args below meth c nL X Q h nx cells slots pc' L st) : V p l e R s m args below meth c nL X Q h nx cells slots pc L (iV a :: st) := by
  subst hp
  intro H locs ls hR hL hl
  have hi := i32_lt (b := 0) ra (by omega)
  exact lv_if_lt F.1 F.2.1 d ht (fun q => kt (hi.mp q) H locs ls hR hL hl) (fun q => kf (fun z => q (hi.mpr z)) H locs ls hR hL hl)
theorem v_icmp_lt (F : am_Fx p s m args meth c y cc nL ret et X) {a b off : Int} {tgt : Nat} (d : decode cc pc = .ok (.if_icmp .lt off, 3)) (ht : (pc : Int) + off = (tgt : Int)) (hp : pc + 3 = pc') (ra : -2147483648 ≤ a ∧ a < 2147483648) (rb : -2147483648 ≤ b ∧ b < 2147483648) (kt : a < b → V p l e R s m args below meth c nL X Q h nx cells slots tgt L st) (kf : ¬ (a < b) → V p l e R s m args below meth c nL X Q h nx cells slots pc' L st) : V p l e R s m args below meth c nL X Q h nx cells slots pc L (iV b :: iV a :: st) := by
  subst hp
  intro H locs ls hR hL hl
  have hi := i32_lt ra rb
  exact lv_icmp_lt F.1 F.2.1 d ht (fun q => kt (hi.mp q) H locs ls hR hL hl) (fun q => kf (fun z => q (hi.mpr z)) H locs ls hR hL hl)
theorem v_if_ge (F : am_Fx p s m args meth c y cc nL ret et X) {a off : Int} {tgt : Nat} (d : decode cc pc = .ok (.ifCond .ge off, 3)) (ht : (pc : Int) + off = (tgt : Int)) (hp : pc + 3 = pc') (ra : -2147483648 ≤ a ∧ a < 2147483648) (kt : 0 ≤ a → V p l e R s m args below meth c nL X Q h nx cells slots tgt L st) (kf : ¬ (0 ≤ a) → V p l e R s m args below meth c nL X Q h nx cells slots pc' L st) : V p l e R s m args below meth c nL X Q h nx cells slots pc L (iV a :: st) := by
  subst hp
  intro H locs ls hR hL hl
  have hi := i32_le (a := 0) (by omega) ra
  exact lv_if_ge F.1 F.2.1 d ht (fun q => kt (hi.mp q) H locs ls hR hL hl) (fun q => kf (fun z => q (hi.mpr z)) H locs ls hR hL hl)
theorem v_icmp_ge (F : am_Fx p s m args meth c y cc nL ret et X) {a b off : Int} {tgt : Nat} (d : decode cc pc = .ok (.if_icmp .ge off, 3)) (ht : (pc : Int) + off = (tgt : Int)) (hp : pc + 3 = pc') (ra : -2147483648 ≤ a ∧ a < 2147483648) (rb : -2147483648 ≤ b ∧ b < 2147483648) (kt : b ≤ a → V p l e R s m args below meth c nL X Q h nx cells slots tgt L st) (kf : ¬ (b ≤ a) → V p l e R s m args below meth c nL X Q h nx cells slots pc' L st) : V p l e R s m args below meth c nL X Q h nx cells slots pc L (iV b :: iV a :: st) := by
  subst hp
  intro H locs ls hR hL hl
  have hi := i32_le rb ra
  exact lv_icmp_ge F.1 F.2.1 d ht (fun q => kt (hi.mp q) H locs ls hR hL hl) (fun q => kf (fun z => q (hi.mpr z)) H locs ls hR hL hl)
theorem v_if_gt (F : am_Fx p s m args meth c y cc nL ret et X) {a off : Int} {tgt : Nat} (d : decode cc pc = .ok (.ifCond .gt off, 3)) (ht : (pc : Int) + off = (tgt : Int)) (hp : pc + 3 = pc') (ra : -2147483648 ≤ a ∧ a < 2147483648) (kt : 0 < a → V p l e R s m args below meth c nL X Q h nx cells slots tgt L st) (kf : ¬ (0 < a) → V p l e R s m args below meth c nL X Q h nx cells slots pc' L st) : V p l e R s m args below meth c nL X Q h nx cells slots pc L (iV a :: st) := by
  subst hp
  intro H locs ls hR hL hl
  have hi := i32_lt (a := 0) (by omega) ra
  exact lv_if_gt F.1 F.2.1 d ht (fun q => kt (hi.mp q) H locs ls hR hL hl) (fun q => kf (fun z => q (hi.mpr z)) H locs ls hR hL hl)
theorem v_icmp_gt (F : am_Fx p s m args meth c y cc nL ret et X) {a b off : Int} {tgt : Nat} (d : decode cc pc = .ok (.if_icmp .gt off, 3)) (ht : (pc : Int) + off = (tgt : Int)) (hp : pc + 3 = pc') (ra : -2147483648 ≤ a ∧ a < 2147483648) (rb : -2147483648 ≤ b ∧ b < 2147483648) (kt : b < a → V p l e R s m args below meth c nL X Q h nx cells slots tgt L st) (kf : ¬ (b < a) → V p l e R s m args below meth c nL X Q h nx cells slots pc' L st) : V p l e R s m args below meth c nL X Q h nx cells slots pc L (iV b :: iV a :: st) := by
  subst hp
  intro H locs ls hR hL hl
  have hi := i32_lt rb ra
  exact lv_icmp_gt F.1 F.2.1 d ht (fun q => kt (hi.mp q) H locs ls hR hL hl) (fun q => kf (fun z => q (hi.mpr z)) H locs ls hR hL hl)
theorem v_if_le (F : am_Fx p s m args meth c y cc nL ret et X) {a off : Int} {tgt : Nat} (d : decode cc pc = .ok (.ifCond .le off, 3)) (ht : (pc : Int) + off = (tgt : Int)) (hp : pc + 3 = pc') (ra : -2147483648 ≤ a ∧ a < 2147483648) (kt : a ≤ 0 → V p l e R s m args below meth c nL X Q h nx cells slots tgt L st) (kf : ¬ (a ≤ 0) → V p l e R s m args below meth c nL X Q h nx cells slots pc' L st) : V p l e R s m args below meth c nL X Q h nx cells slots pc L (iV a :: st) := by
  subst hp
  intro H locs ls hR hL hl
  have hi := i32_le (b := 0) ra (by omega)
  exact lv_if_le F.1 F.2.1 d ht (fun q => kt (hi.mp q) H locs ls hR hL hl) (fun q => kf (fun z => q (hi.mpr z)) H locs ls hR hL hl)
theorem v_icmp_le (F : am_Fx p s m args meth c y cc nL ret et X) {a b off : Int} {tgt : Nat} (d : decode cc pc = .ok (.if_icmp .le off, 3)) (ht : (pc : Int) + off = (tgt : Int)) (hp : pc + 3 = pc') (ra : -2147483648 ≤ a ∧ a < 2147483648) (rb : -2147483648 ≤ b ∧ b < 2147483648) (kt : a ≤ b → V p l e R s m args below meth c nL X Q h nx cells slots tgt L st) (kf : ¬ (a ≤ b) → V p l e R s m args below meth c nL X Q h nx cells slots pc' L st) : V p l e R s m args below meth c nL X Q h nx cells slots pc L (iV b :: iV a :: st) := by
  subst hp
  intro H locs ls hR hL hl
  have hi := i32_le ra rb
  exact lv_icmp_le F.1 F.2.1 d ht (fun q => kt (hi.mp q) H locs ls hR hL hl) (fun q => kf (fun z => q (hi.mpr z)) H locs ls hR hL hl)
theorem v_ifnull (F : am_Fx p s m args meth c y cc nL ret et X) {x : Nat} {off : Int} (d : decode cc pc = .ok (.ifnull off, 3)) (hp : pc + 3 = pc') (k : V p l e R s m args below meth c nL X Q h nx cells slots pc' L st) : V p l e R s m args below meth c nL X Q h nx cells slots pc L (.ref x :: st) := by
  subst hp
  intro H locs ls hR hL hl
  exact lv_ifnull F.1 F.2.1 d (k H locs ls hR hL hl)
theorem v_ifnullN (F : am_Fx p s m args meth c y cc nL ret et X) {off : Int} {tgt : Nat} (d : decode cc pc = .ok (.ifnull off, 3)) (ht : (pc : Int) + off = (tgt : Int)) (k : V p l e R s m args below meth c nL X Q h nx cells slots tgt L st) : V p l e R s m args below meth c nL X Q h nx cells slots pc L (.null :: st) := fun H locs ls hR hL hl => lv_ifnullN F.1 F.2.1 d ht (k H locs ls hR hL hl)
theorem v_ifnonnull (F : am_Fx p s m args meth c y cc nL ret et X) {x : Nat} {off : Int} {tgt : Nat} (d : decode cc pc = .ok (.ifnonnull off, 3)) (ht : (pc : Int) + off = (tgt : Int)) (k : V p l e R s m args below meth c nL X Q h nx cells slots tgt L st) : V p l e R s m args below meth c nL X Q h nx cells slots pc L (.ref x :: st) := fun H locs ls hR hL hl => lv_ifnonnull F.1 F.2.1 d ht (k H locs ls hR hL hl)
theorem v_ifnonnullN (F : am_Fx p s m args meth c y cc nL ret et X) {off : Int} (d : decode cc pc = .ok (.ifnonnull off, 3)) (hp : pc + 3 = pc') (k : V p l e R s m args below meth c nL X Q h nx cells slots pc' L st) : V p l e R s m args below meth c nL X Q h nx cells slots pc L (.null :: st) := by
  subst hp
  intro H locs ls hR hL hl
  exact lv_ifnonnullN F.1 F.2.1 d (k H locs ls hR hL hl)
end AM
end
section
/-! rows of V for fields, arrays and new (part amheap, written by wip/whole/mkheap.py) -/
theorem am_at_lt {X : am_X} {a : Nat} {e : am_E} {H : Heap} (h : am_at X a e H) : a < H.size := by
  cases e with
  | inl x => exact (Array.getElem?_eq_some_iff.mp h).1
  | inr o => obtain ⟨r, -, cell, hc, -⟩ := h; exact (Array.getElem?_eq_some_iff.mp hc).1
theorem am_at_kept {X : am_X} {a : Nat} {e : am_E} {H H1 : Heap} (h : am_at X a e H) (hq : H1[a]? = H[a]?) : am_at X a e H1 := by
  cases e with
  | inl x => exact hq.trans h
  | inr o => obtain ⟨r, h1, h2⟩ := h; exact ⟨r, h1, h2.kept hq⟩
theorem am_R_lt {X : am_X} {h : am_H} {nx : Nat} {H : Heap} (hR : am_R X h nx H) {a : Nat} {e : am_E} (ha : h a = some e) : a < nx := by
  have := am_at_lt (hR.2.2.2 a e ha).2
  rw [hR.1] at this
  exact this
/-- a cell that was there is written -/
theorem am_R_put {X : am_X} {h : am_H} {nx : Nat} {H H1 : Heap} {a : Nat} {e e1 : am_E} (hR : am_R X h nx H) (ha : h a = some e) (z : H1.size = H.size) (oq : ∀ q : Nat, q ≠ a → H1[q]? = H[q]?) (h1 : am_at X a e1 H1) : am_R X (am_up h a e1) nx H1 := by
  obtain ⟨r1, r2, r3, r4⟩ := hR
  have hge : am_sz X ≤ a := (r4 a e ha).1
  refine ⟨z.trans r1, r2, fun q hq => (oq q (by omega)).trans (r3 q hq), fun b e2 hb => ?_⟩
  by_cases hba : b = a
  · subst hba
    rw [am_up_s] at hb
    cases hb
    exact ⟨hge, h1⟩
  · rw [am_up_n hba] at hb
    exact ⟨(r4 b e2 hb).1, am_at_kept (r4 b e2 hb).2 (oq b hba)⟩
/-- a cell is new -/
theorem am_R_new {X : am_X} {h : am_H} {nx : Nat} {H H1 : Heap} {e1 : am_E} (hR : am_R X h nx H) (z : H1.size = nx + 1) (oq : ∀ q : Nat, q < nx → H1[q]? = H[q]?) (h1 : am_at X nx e1 H1) : am_R X (am_up h nx e1) (nx + 1) H1 := by
  have hlt := @am_R_lt X h nx H hR
  obtain ⟨r1, r2, r3, r4⟩ := hR
  refine ⟨z, by omega, fun q hq => (oq q (by omega)).trans (r3 q hq), fun b e2 hb => ?_⟩
  by_cases hba : b = nx
  · subst hba
    rw [am_up_s] at hb
    cases hb
    exact ⟨r2, h1⟩
  · rw [am_up_n hba] at hb
    exact ⟨(r4 b e2 hb).1, am_at_kept (r4 b e2 hb).2 (oq b (hlt hb))⟩
theorem am_arr {X : am_X} {h : am_H} {nx : Nat} {H : Heap} (hR : am_R X h nx H) {a ai N : Nat} {f : Nat → Value} (ha : h a = some (.inl (ai, N, f))) : am_sz X ≤ a ∧ H[a]? = some (arrV (X.2.1 ai) N f) := hR.2.2.2 _ _ ha
/-- what nobody knows may be forgotten -/
theorem am_R_sub {X : am_X} {h h' : am_H} {nx : Nat} {H : Heap} (hR : am_R X h nx H) (hs : ∀ a e, h' a = some e → h a = some e) : am_R X h' nx H := ⟨hR.1, hR.2.1, hR.2.2.1, fun a e he => hR.2.2.2 a e (hs a e he)⟩
theorem am_locs {X : am_X} {locs : List Loc} {a k : Nat} (hL : ∀ q ∈ locs, am_sz X ≤ q.base) (ha : am_sz X ≤ a) : ∀ q ∈ locs ++ [⟨a, k⟩], am_sz X ≤ q.base := fun q hq => by
  rcases List.mem_append.mp hq with h1 | h1
  · exact hL q h1
  · rw [List.mem_singleton.mp h1]; exact ha
theorem am_ix {z : Int} {N : Nat} (h0 : 0 ≤ z) (h1 : z < N) (hN : N < 2147483648) : (Int32.ofInt z).toNatClampNeg = z.toNat ∧ ¬ (Int32.ofInt z < 0 ∨ N ≤ (Int32.ofInt z).toNatClampNeg) := by
  have e1 : (Int32.ofInt z).toNatClampNeg = z.toNat := by
    show (Int32.ofInt z).toInt.toNat = z.toNat
    rw [i32_toInt (by omega)]
  refine ⟨e1, ?_⟩
  rintro (h2 | h2)
  · rw [show (0 : Int32) = Int32.ofInt 0 from rfl, i32_lt (by omega) (by omega)] at h2; omega
  · rw [e1] at h2; omega

section AMH
variable {p : Program} {l : Launch} {e : Env} {R : Room} {s : State} {m : MethodId} {args : Array Value} {below : List Frame} {meth : Method} {c : Code} {nL : Nat} {X : am_X} {Q : State → Prop}
variable {cc : ByteArray} {y : MethodName} {ret : Option FieldType} {et : List (Nat × Nat × Nat × Nat)} {h : am_H} {nx cells slots pc pc' : Nat} {L : List (Option Value)} {st : List Value}
theorem v_forget {h' : am_H} (hs : ∀ a e, h' a = some e → h a = some e) (k : V p l e R s m args below meth c nL X Q h' nx cells slots pc L st) : V p l e R s m args below meth c nL X Q h nx cells slots pc L st := fun H locs ls hR hL hl => k H locs ls (am_R_sub hR hs) hL hl
theorem v_getf (F : am_Fx p s m args meth c y cc nL ret et X) {C ref : String} {T : u_T} {N ci index a : Nat} {fs : List Value} {v : Value} (d : decode cc pc = .ok (.getfield index, 3)) (hp : pc + 3 = pc') (hin : ∀ w ∈ u_ws C T N, w ∈ lw_tbl) (hc : am_cl[ci]? = some (C, T, N)) (kf : Nat) (hk : kf < N) (hlink : Cond.fieldLink y.cls index ref (T kf).2.1 (T kf).2.2.1 ∈ lw_tbl) (hsame : ref = (T kf).1 ∨ Cond.sameField ref (T kf).1 (T kf).2.1 (T kf).2.2.1 ∈ lw_tbl) (ha : h a = some (.inr (ci, fs))) (hv : fs[kf]? = some v) (k : V p l e R s m args below meth c nL X Q h nx cells slots pc' L (v :: st)) : V p l e R s m args below meth c nL X Q h nx cells slots pc L (.ref a :: st) := by
  subst hp
  intro H locs ls hR hL hl
  obtain ⟨-, r, h1, cell, q1, q2, q3, q4⟩ := hR.2.2.2 _ _ ha
  have hr : r = (C, T, N) := Option.some.inj (h1.symm.trans hc)
  subst hr
  obtain ⟨f1, f2, f3, f4, hts, hK0, f7, f8, f9, f10⟩ := F
  have hK := hK0.1
  obtain ⟨hS, hfc, kC, hkC, hkind⟩ := hK.1 ci _ hc
  obtain ⟨cf, kf', fi, f, hi, hsl⟩ := hS kf hk
  have hsame' : s.fieldFound? ref (T kf).2.1 (T kf).2.2.1 = some (cf, kf', fi, f) := by
    rcases hsame with e1 | e1
    · rw [e1]; exact hi
    · exact u_same (hts _ (am_in e1 rfl)) _ hi
  refine W.getf f1 f2 f4 (hts _ (am_in hlink rfl)) hsame' (u_facts hfc hkC (u_lays hts (am_lays hin) hk) hi).1 q1 (by rw [q3]; exact fun h => by cases h) (v := v) ?_ rfl rfl d (k H locs ls hR hL hl)
  rw [hsl, q4 kf hk]
  simp [vp_V, hv]
theorem v_putf (F : am_Fx p s m args meth c y cc nL ret et X) {C ref : String} {T : u_T} {N ci index a : Nat} {fs : List Value} {v : Value} {ty : FieldType} (d : decode cc pc = .ok (.putfield index, 3)) (hp : pc + 3 = pc') (hin : ∀ w ∈ u_ws C T N, w ∈ lw_tbl) (ty0 : Nat → FieldType) (hty : ∀ k, k < N → parseFieldDescriptor (T k).2.2.1 = some (ty0 k)) (hnm : ∀ a, a < N → ∀ b, b < N → a ≠ b → (T a).2.1 ≠ (T b).2.1) (hc : am_cl[ci]? = some (C, T, N)) (kf : Nat) (hk : kf < N) (hlink : Cond.fieldLink y.cls index ref (T kf).2.1 (T kf).2.2.1 ∈ lw_tbl) (hsame : ref = (T kf).1 ∨ Cond.sameField ref (T kf).1 (T kf).2.1 (T kf).2.2.1 ∈ lw_tbl)
    (hfin : (T kf).2.2.2 = false ∨ ((T kf).2.2.2 = true ∧ y.name = "<init>" ∧ (T kf).1 = y.cls)) (hd : parseFieldDescriptor (T kf).2.2.1 = some ty) (hn : narrow ty v = v) (hfit : fits ty v = true) (ha : h a = some (.inr (ci, fs))) (hl5 : kf < fs.length) (k : V p l e R s m args below meth c nL X Q (am_up h a (.inr (ci, fs.set kf v))) nx cells slots pc' L st) : V p l e R s m args below meth c nL X Q h nx cells slots pc L (v :: .ref a :: st) := by
  subst hp
  intro H locs ls hR hL hl
  obtain ⟨hge, r, h1, cell, q1, q2, q3, q4⟩ := hR.2.2.2 _ _ ha
  have hr : r = (C, T, N) := Option.some.inj (h1.symm.trans hc)
  subst hr
  obtain ⟨f1, f2, f3, f4, hts, hK0, f7, f8, f9, f10⟩ := F
  have hK := hK0.1
  have hap := va_apart (own := y.cls) hts (am_lays hin) ty0 hty hnm hK hc
  obtain ⟨hS, hfc, kC, hkC, hkind⟩ := hK.1 ci _ hc
  obtain ⟨cf, kf', fi, f, hi, hsl⟩ := hS kf hk
  have hsame' : s.fieldFound? ref (T kf).2.1 (T kf).2.2.1 = some (cf, kf', fi, f) := by
    rcases hsame with e1 | e1
    · rw [e1]; exact hi
    · exact u_same (hts _ (am_in e1 rfl)) _ hi
  have hlay := hts _ (am_lays hin _ (u_in_lay hk))
  have hst := (u_facts hfc hkC (u_lays hts (am_lays hin) hk) hi).1
  have fin : ∀ H1 : Heap, H1[a]? = some (cell.setSlot f.slot v) → H1.size = H.size → (∀ q, q ≠ a → H1[q]? = H[q]?) → W p l e R s m args below meth c H1 (locs ++ [⟨a, f.slot⟩]) cells slots Q (F0 m (pc + 3) ls st) := fun H1 e1 e2 e3 => by
    rw [hsl] at e1 ⊢
    exact k H1 _ ls (am_R_put hR ha e2 e3 ⟨_, hc, t_OB.to (V := updV (vp_V fs) kf v) ⟨_, e1, q2, q3, t_set q4 hap hk v⟩ (fun j _ => vp_updV_set hl5 v j)⟩) (am_locs hL hge) hl
  unfold u_lay at hlay
  rcases hfin with hfin | ⟨hfin, hin2, hdecl⟩
  · rw [if_neg (by rw [hfin]; decide)] at hlay
    have h6 := u_store hfc hkC hkind hlay hi hd hn hfit
    exact W.putK f1 f2 (f := f) ⟨f4, hts _ (am_in hlink rfl), ⟨_, _, _, hsame'⟩, hst⟩ (by rw [q2]; exact h6) q1 q3 (by rw [hsl]; exact k2_hasslot (q4 kf hk)) rfl rfl d fin
  · rw [if_pos hfin] at hlay
    have hcf : m.cls = cf := by
      obtain ⟨_, _, c', _, _, _, -, -, hf', -, -, -, hown2, -⟩ := Cond.laysFinal_spec hlay
      have e1 : c' = cf := by have := hi.symm.trans hf'; simp at this; exact this.1.symm
      rw [hdecl] at hown2
      rw [← e1]; exact Option.some.inj (f4.symm.trans hown2)
    have h6 := u_fits hfc hkC hkind (Or.inr hlay) hi hd hn hfit
    exact W.putFinK f1 f2 f4 (hts _ (am_in hlink rfl)) hsame' hst hcf (f9.trans hin2) (by rw [q2]; exact h6) q1 q3 (by rw [hsl]; exact k2_hasslot (q4 kf hk)) rfl rfl d fin
theorem v_new (F : am_Fx p s m args meth c y cc nL ret et X) {C : String} {T : u_T} {N ci index n : Nat} {fs : List Value} (d : decode cc pc = .ok (.new index, 3)) (hp : pc + 3 = pc') (hin : ∀ w ∈ u_ws C T N, w ∈ lw_tbl) (ty : Nat → FieldType) (hty : ∀ k, k < N → parseFieldDescriptor (T k).2.2.1 = some (ty k)) (hc : am_cl[ci]? = some (C, T, N)) (hcl : Cond.classLink y.cls index C ∈ lw_tbl) (hinst : Cond.instantiable C n ∈ lw_tbl) (hini : Cond.initialized C ∈ lw_tbl) (hfs : ∀ j, j < N → defaultValue (ty j) = vp_V fs j) (hcells : cells + 1 ≤ R.cells) (hslots : slots + n ≤ R.slots)
    (k : V p l e R s m args below meth c nL X Q (am_up h nx (.inr (ci, fs))) (nx + 1) (cells + 1) (slots + n) pc' L (.ref nx :: st)) : V p l e R s m args below meth c nL X Q h nx cells slots pc L st := by
  subst hp
  intro H locs ls hR hL hl
  obtain ⟨f1, f2, f3, f4, hts, hK0, f7, f8, f9, f10⟩ := F
  have hK := hK0.1
  have hKn := hK.1 ci _ hc
  refine W.newcK f1 f2 f4 (hts _ (am_in hcl rfl)) (hts _ (am_in hinst rfl)) (hts _ (am_in hini rfl)) rfl d hcells hslots hKn.2.1 hR.1 fun H1 kC hkC e1 z1 o1 => ?_
  exact k H1 locs ls (am_R_new hR z1 o1 ⟨_, hc, (u_born ty hts (am_lays hin) hKn hkC e1 hty).to hfs⟩) hL hl

theorem v_newa (F : am_Fx p s m args meth c y cc nL ret et X) {atype : ArrayType} {ty : FieldType} {ai : Nat} {z : Int} (d : decode cc pc = .ok (.newarray atype, 2)) (hp : pc + 2 = pc') (hty : newarray.typeOf atype = ty) (harr : Cond.arrayClass ty ∈ lw_tbl) (hai : (ai, ty) ∈ am_ty) (hpr : ty.isReference = false) (h0 : 0 ≤ z) (h1 : z < 10000) (hcells : cells + 1 ≤ R.cells) (hslots : slots + z.toNat ≤ R.slots)
    (k : V p l e R s m args below meth c nL X Q (am_up h nx (.inl (ai, z.toNat, fun _ => defaultValue ty))) (nx + 1) (cells + 1) (slots + z.toNat) pc' L (.ref nx :: st)) : V p l e R s m args below meth c nL X Q h nx cells slots pc L (iV z :: st) := by
  subst hp
  subst hty
  intro H locs ls hR hL hl
  obtain ⟨f1, f2, f3, f4, hts, hK0, f7, f8, f9, f10⟩ := F
  have hK := hK0.1
  have hz : (Int32.ofInt z).toNatClampNeg = z.toNat := by
    show (Int32.ofInt z).toInt.toNat = z.toNat
    rw [i32_toInt (by omega)]
  have hb8 : componentBytes (newarray.typeOf atype) ≤ 8 := by cases atype <;> decide
  have hb : z.toNat * componentBytes (newarray.typeOf atype) ≤ 536870912 := Nat.le_trans (Nat.mul_le_mul (show z.toNat ≤ 10000 by omega) hb8) (by decide)
  refine va_newaK f1 f2 (hts _ (am_in harr rfl)) rfl d rfl (fun q => ?_) hz hb hcells hslots hR.1 fun H1 cA e1 z1 o1 hAr hNm => ?_
  · rw [show (0 : Int32) = Int32.ofInt 0 from rfl, i32_lt (by omega) (by omega)] at q; omega
  · obtain ⟨i9, hi9⟩ := List.getElem?_of_mem (List.mem_map.mpr ⟨_, hai, rfl⟩ : (X.2.1 ai, newarray.typeOf atype) ∈ am_ty.map (fun q => (X.2.1 q.1, q.2)))
    have hra := (hK.2 i9 _ hi9).2
    have hcA : cA = X.2.1 ai := by
      have h9 : s.vm.findClass ("[" ++ (newarray.typeOf atype).toString) = some (X.2.1 ai) := by cases atype <;> exact hra
      exact Option.some.inj (hNm.symm.trans h9)
    subst hcA
    exact k H1 locs ls (am_R_new hR z1 o1 e1) hL hl
theorem v_alen (F : am_Fx p s m args meth c y cc nL ret et X) {ai N a : Nat} {ty : FieldType} {f : Nat → Value} (d : decode cc pc = .ok (.arraylength, 1)) (hp : pc + 1 = pc') (hai : (ai, ty) ∈ am_ty) (ha : h a = some (.inl (ai, N, f))) (k : V p l e R s m args below meth c nL X Q h nx cells slots pc' L (iV N :: st)) : V p l e R s m args below meth c nL X Q h nx cells slots pc L (.ref a :: st) := by
  subst hp
  intro H locs ls hR hL hl
  obtain ⟨f1, f2, f3, f4, hts, hK0, f7, f8, f9, f10⟩ := F
  have hK := hK0.1
  obtain ⟨i9, hi9⟩ := List.getElem?_of_mem (List.mem_map.mpr ⟨_, hai, rfl⟩ : (X.2.1 ai, ty) ∈ am_ty.map (fun q => (X.2.1 q.1, q.2)))
  refine W.alen (n := Int32.ofInt N) f1 f2 (am_arr hR ha).2 ((hK.2 i9 _ hi9).1 N f) ?_ rfl rfl d (k H locs ls hR hL hl)
  rw [arrV_size]
  exact Int32.ofInt_eq_ofNat.symm
theorem v_iald (F : am_Fx p s m args meth c y cc nL ret et X) {ai N a : Nat} {f : Nat → Value} {z w : Int} (d : decode cc pc = .ok (.iaload, 1)) (hp : pc + 1 = pc') (hai : (ai, .int) ∈ am_ty) (ha : h a = some (.inl (ai, N, f))) (hN : N < 2147483648) (h0 : 0 ≤ z) (h1 : z < N) (hv : f z.toNat = iV w) (k : V p l e R s m args below meth c nL X Q h nx cells slots pc' L (iV w :: st)) : V p l e R s m args below meth c nL X Q h nx cells slots pc L (iV z :: .ref a :: st) := by
  subst hp
  intro H locs ls hR hL hl
  obtain ⟨f1, f2, f3, f4, hts, hK0, f7, f8, f9, f10⟩ := F
  have hK := hK0.1
  obtain ⟨i9, hi9⟩ := List.getElem?_of_mem (List.mem_map.mpr ⟨_, hai, rfl⟩ : (X.2.1 ai, .int) ∈ am_ty.map (fun q => (X.2.1 q.1, q.2)))
  obtain ⟨x1, x2⟩ := am_ix h0 h1 hN
  exact W.iald f1 f2 (am_arr hR ha).2 ((hK.2 i9 _ hi9).1 N f) (fun q => by cases q) (by rw [arrV_size]; exact x2) (by rw [x1, arrV_read _ _ (by omega), hv]) rfl rfl d (k H locs ls hR hL hl)
theorem v_iast (F : am_Fx p s m args meth c y cc nL ret et X) {ai N a : Nat} {f : Nat → Value} {z w : Int} (d : decode cc pc = .ok (.iastore, 1)) (hp : pc + 1 = pc') (hai : (ai, .int) ∈ am_ty) (ha : h a = some (.inl (ai, N, f))) (hN : N < 2147483648) (h0 : 0 ≤ z) (h1 : z < N) (k : V p l e R s m args below meth c nL X Q (am_up h a (.inl (ai, N, updV f z.toNat (iV w)))) nx cells slots pc' L st) : V p l e R s m args below meth c nL X Q h nx cells slots pc L (iV w :: iV z :: .ref a :: st) := by
  subst hp
  intro H locs ls hR hL hl
  obtain ⟨f1, f2, f3, f4, hts, hK0, f7, f8, f9, f10⟩ := F
  have hK := hK0.1
  obtain ⟨i9, hi9⟩ := List.getElem?_of_mem (List.mem_map.mpr ⟨_, hai, rfl⟩ : (X.2.1 ai, .int) ∈ am_ty.map (fun q => (X.2.1 q.1, q.2)))
  obtain ⟨x1, x2⟩ := am_ix h0 h1 hN
  obtain ⟨hge, hat⟩ := am_arr hR ha
  refine W.iast f1 f2 hat ((hK.2 i9 _ hi9).1 N f) (fun q => by cases q) (by rw [arrV_size]; exact x2) rfl rfl d fun H1 e1 e2 e3 => ?_
  rw [x1, arrV_store] at e1
  exact k H1 _ ls (am_R_put hR ha e2 e3 e1) (am_locs hL hge) hl
theorem v_lald (F : am_Fx p s m args meth c y cc nL ret et X) {ai N a : Nat} {f : Nat → Value} {z w : Int} (d : decode cc pc = .ok (.laload, 1)) (hp : pc + 1 = pc') (hai : (ai, .long) ∈ am_ty) (ha : h a = some (.inl (ai, N, f))) (hN : N < 2147483648) (h0 : 0 ≤ z) (h1 : z < N) (hv : f z.toNat = lV w) (k : V p l e R s m args below meth c nL X Q h nx cells slots pc' L (lV w :: st)) : V p l e R s m args below meth c nL X Q h nx cells slots pc L (iV z :: .ref a :: st) := by
  subst hp
  intro H locs ls hR hL hl
  obtain ⟨f1, f2, f3, f4, hts, hK0, f7, f8, f9, f10⟩ := F
  have hK := hK0.1
  obtain ⟨i9, hi9⟩ := List.getElem?_of_mem (List.mem_map.mpr ⟨_, hai, rfl⟩ : (X.2.1 ai, .long) ∈ am_ty.map (fun q => (X.2.1 q.1, q.2)))
  obtain ⟨x1, x2⟩ := am_ix h0 h1 hN
  exact W.lald f1 f2 (am_arr hR ha).2 ((hK.2 i9 _ hi9).1 N f) (fun q => by cases q) (by rw [arrV_size]; exact x2) (by rw [x1, arrV_read _ _ (by omega), hv]) rfl rfl d (k H locs ls hR hL hl)
theorem v_last (F : am_Fx p s m args meth c y cc nL ret et X) {ai N a : Nat} {f : Nat → Value} {z w : Int} (d : decode cc pc = .ok (.lastore, 1)) (hp : pc + 1 = pc') (hai : (ai, .long) ∈ am_ty) (ha : h a = some (.inl (ai, N, f))) (hN : N < 2147483648) (h0 : 0 ≤ z) (h1 : z < N) (k : V p l e R s m args below meth c nL X Q (am_up h a (.inl (ai, N, updV f z.toNat (lV w)))) nx cells slots pc' L st) : V p l e R s m args below meth c nL X Q h nx cells slots pc L (lV w :: iV z :: .ref a :: st) := by
  subst hp
  intro H locs ls hR hL hl
  obtain ⟨f1, f2, f3, f4, hts, hK0, f7, f8, f9, f10⟩ := F
  have hK := hK0.1
  obtain ⟨i9, hi9⟩ := List.getElem?_of_mem (List.mem_map.mpr ⟨_, hai, rfl⟩ : (X.2.1 ai, .long) ∈ am_ty.map (fun q => (X.2.1 q.1, q.2)))
  obtain ⟨x1, x2⟩ := am_ix h0 h1 hN
  obtain ⟨hge, hat⟩ := am_arr hR ha
  refine W.last f1 f2 hat ((hK.2 i9 _ hi9).1 N f) (fun q => by cases q) (by rw [arrV_size]; exact x2) rfl rfl d fun H1 e1 e2 e3 => ?_
  rw [x1, arrV_store] at e1
  exact k H1 _ ls (am_R_put hR ha e2 e3 e1) (am_locs hL hge) hl
theorem v_aald (F : am_Fx p s m args meth c y cc nL ret et X) {ai N a : Nat} {C : String} {f : Nat → Value} {z : Int} {v : Value} (d : decode cc pc = .ok (.aaload, 1)) (hp : pc + 1 = pc') (hai : (ai, .object C) ∈ am_ty) (ha : h a = some (.inl (ai, N, f))) (hN : N < 2147483648) (h0 : 0 ≤ z) (h1 : z < N) (hv : f z.toNat = v) (k : V p l e R s m args below meth c nL X Q h nx cells slots pc' L (v :: st)) : V p l e R s m args below meth c nL X Q h nx cells slots pc L (iV z :: .ref a :: st) := by
  subst hp
  intro H locs ls hR hL hl
  obtain ⟨f1, f2, f3, f4, hts, hK0, f7, f8, f9, f10⟩ := F
  have hK := hK0.1
  obtain ⟨i9, hi9⟩ := List.getElem?_of_mem (List.mem_map.mpr ⟨_, hai, rfl⟩ : (X.2.1 ai, .object C) ∈ am_ty.map (fun q => (X.2.1 q.1, q.2)))
  obtain ⟨x1, x2⟩ := am_ix h0 h1 hN
  exact W.aald (ty := .object C) f1 f2 (am_arr hR ha).2 ((hK.2 i9 _ hi9).1 N f) rfl (fun q => by cases q) (by rw [arrV_size]; exact x2) (by rw [x1, arrV_read _ _ (by omega), hv]) rfl rfl d (k H locs ls hR hL hl)
end AMH
end
section
/-! contracts (Cn), how a body gives one, how a call takes one; a call may throw -/
/-- since st nothing old has changed but places at or behind the law's start; mc cells of ms slots came at most -/
def am_Fr (X : am_X) (st t : State) (mc ms : Nat) : Prop := st.WarmedH t.vm ∧ ∃ L : List Loc, st.sameButNew ({ t with vm := st.vm } : State) L mc ms ∧ ∀ q ∈ L, am_sz X ≤ q.base
def am_Q (X : am_X) (below : List Frame) (s : State) (mc ms : Nat) (post : Outcome → am_H → Nat → Prop) : State → Prop := fun t =>
  ∃ o, t.status = .running ∧ Ended t below o ∧ (∃ (h' : am_H) (nx' : Nat), am_R X h' nx' t.heap ∧ post o h' nx') ∧ am_Fr X s t mc ms
def Cn (l : Launch) (X : am_X) (y : MethodName) (rm : Room) (av : List Value) (h : am_H) (nx : Nat) (post : Outcome → am_H → Nat → Prop) : Prop :=
  MetFree l y (headSpec am_tb rm) (fun a U => a = av.toArray ∧ am_R X h nx U.heap ∧ am_K X U) (fun _ _ _ _ _ => True)
    (fun _ st o t => (∃ (h' : am_H) (nx' : Nat), am_R X h' nx' t.heap ∧ post o h' nx') ∧ am_Fr X st t rm.cells rm.slots)
/-- the same, for any start of the heap map and any arguments that a pure premise allows, may be weakened -/
theorem Cn.mono {l : Launch} {X : am_X} {y : MethodName} {rm : Room} {av : List Value} {h : am_H} {nx : Nat} {post post' : Outcome → am_H → Nat → Prop} (hC : Cn l X y rm av h nx post) (hp : ∀ o h' nx', post o h' nx' → post' o h' nx') : Cn l X y rm av h nx post' := by
  intro p e ha hc hk s m args below hf happ hP hK
  obtain ⟨n, o, h1, h2, h3, ⟨h', nx', h4, h5⟩, h6⟩ := hC p e ha hc hk s m args below hf happ hP hK
  exact ⟨n, o, h1, h2, h3, ⟨h', nx', h4, hp o h' nx' h5⟩, h6⟩
/-! the entry -/
def am_en : List Value → List (Option Value)
  | [] => []
  | v :: vs => if v.category = 2 then some v :: none :: am_en vs else some v :: am_en vs
theorem am_en_ok : ∀ (vs : List Value) (b i : Nat) (v : Value), (am_en vs)[i]? = some (some v) → (b + i, v) ∈ lv_args b vs := by
  intro vs
  induction vs with
  | nil => intro b i v h; simp [am_en] at h
  | cons w ws ih =>
    intro b i v h
    unfold am_en at h
    unfold lv_args
    by_cases hc : w.category = 2
    · rw [if_pos hc] at h ⊢
      match i, h with
      | 0, h => simp at h; rw [h]; exact List.mem_cons_self
      | 1, h => simp at h
      | j + 2, h =>
        have h' : (am_en ws)[j]? = some (some v) := by simpa using h
        have := ih (b + 2) j v h'
        rw [show b + 2 + j = b + (j + 2) by omega] at this
        exact List.mem_cons_of_mem _ this
    · rw [if_neg hc] at h ⊢
      match i, h with
      | 0, h => simp at h; rw [h]; exact List.mem_cons_self
      | j + 1, h =>
        have h' : (am_en ws)[j]? = some (some v) := by simpa using h
        have := ih (b + 1) j v h'
        rw [show b + 1 + j = b + (j + 1) by omega] at this
        exact List.mem_cons_of_mem _ this
theorem am_en_pad {vs : List Value} {k i : Nat} {v : Value} (h : (am_en vs ++ List.replicate k none)[i]? = some (some v)) : (am_en vs)[i]? = some (some v) := by
  by_cases hi : i < (am_en vs).length
  · rwa [List.getElem?_append_left hi] at h
  · rw [List.getElem?_append_right (by omega), List.getElem?_replicate] at h
    split at h <;> cases h
theorem am_entry {m : MethodId} {vs : List Value} {n k : Nat} {L0 : List (Option Value)} (hn : (lg_sl vs).length ≤ n) (hL : am_en vs ++ List.replicate k none = L0) : ∃ ls : Array Slot, entryFrame m vs.toArray n = F0 m 0 ls [] ∧ am_L ls n L0 := by
  subst hL
  have hl := lv_entry vs hn
  refine ⟨_, lg_entry_eq m vs n, hl.1, hl.2.1, fun i v h => ?_⟩
  have := am_en_ok vs 0 i v (am_en_pad h)
  rw [Nat.zero_add] at this
  exact hl.2.2 (i, v) this
/-- a body gives a contract -/
theorem cn_of {l : Launch} {X : am_X} {y : MethodName} {cc : ByteArray} {maxL k : Nat} {ret : Option FieldType} {rm : Room} {av : List Value} {h : am_H} {nx : Nat} {post : Outcome → am_H → Nat → Prop} {L0 : List (Option Value)}
    (hy : plainName y.cls = true) (hcw : Cond.code y cc maxL ret ∈ lw_tbl) (hn : (lg_sl av).length ≤ maxL) (hL : am_en av ++ List.replicate k none = L0)
    (body : ∀ (p : Program) (e : Env) (s : State) (m : MethodId) (args : Array Value) (below : List Frame) (meth : Method) (c : Code), am_Fx p s m args meth c y cc maxL ret [] X →
      V p l e rm s m args below meth c maxL X (am_Q X below s rm.cells rm.slots post) h nx 0 0 0 L0 []) : Cn l X y rm av h nx post := by
  refine MetFree.of_bodyS (code := cc) (maxLocals := maxL) (ret := ret) hy ?_ ?_
  · intro args s m hb hnm
    obtain ⟨meth, c, h1, h2, h3, h4, h5, h6, -, -⟩ := Cond.code_spec hnm (atoms_spec (ws := am_tb) hb _ (am_in hcw rfl))
    exact ⟨meth, c, h1, h2, h3, h4, h5, h6⟩
  · intro p e s m args below meth c s₁ B hml hP _
    obtain ⟨rfl, hR, hK⟩ := hP
    have hts : ∀ w ∈ am_tb, w.before av.toArray s = true := atoms_spec (ws := am_tb) B.pre
    obtain ⟨meth', c', g1, g2, -, -, -, -, g7, -⟩ := Cond.code_spec B.named (hts _ (am_in hcw rfl))
    have hS := Stand.of_body B
    cases B.method.symm.trans g1
    cases hS.code.symm.trans g2
    have het : c.exceptionTable.toList.map (fun h => (h.startPc, h.endPc, h.handlerPc, h.catchType)) = [] := by
      have : c.exceptionTable = #[] := by simpa [Array.isEmpty] using g7
      rw [this]; rfl
    have hh0 : s₁.heap = s.heap := by rw [B.state]; rfl
    obtain ⟨ls, he, hl⟩ := am_entry (m := m) hn hL
    obtain ⟨t, a1, o, b1, b2, b3, b4⟩ := body p e s m av.toArray below meth c ⟨B.exec, B.bytes, hml, findClass_of_methodNamed B.named, hts, hK, B.notSynchronized, B.returns, (name_of_methodNamed B.named B.method).1, het⟩ s.heap [] ls hR (fun _ q => by cases q) hl s₁ hh0 hS
    rw [he]
    exact ⟨t, o, a1, b1, b2, b3, b4⟩
/-- a body with handlers gives a contract -/
theorem cn_ofW {l : Launch} {X : am_X} {y : MethodName} {cc : ByteArray} {maxL k : Nat} {ret : Option FieldType} {et : List (Nat × Nat × Nat × Nat)} {rm : Room} {av : List Value} {h : am_H} {nx : Nat} {post : Outcome → am_H → Nat → Prop} {L0 : List (Option Value)}
    (hy : plainName y.cls = true) (hcw : Cond.codeWith y cc maxL ret et ∈ lw_tbl) (hn : (lg_sl av).length ≤ maxL) (hL : am_en av ++ List.replicate k none = L0)
    (body : ∀ (p : Program) (e : Env) (s : State) (m : MethodId) (args : Array Value) (below : List Frame) (meth : Method) (c : Code), am_Fx p s m args meth c y cc maxL ret et X →
      V p l e rm s m args below meth c maxL X (am_Q X below s rm.cells rm.slots post) h nx 0 0 0 L0 []) : Cn l X y rm av h nx post := by
  refine MetFree.of_bodyS (code := cc) (maxLocals := maxL) (ret := ret) hy ?_ ?_
  · intro args s m hb hnm
    obtain ⟨m', meth, c, h0, h1, h2, h3, h4, h5, h6, h7, -⟩ := Cond.codeWith_spec (atoms_spec (ws := am_tb) hb _ (am_in hcw rfl))
    cases hnm.symm.trans h0
    exact ⟨meth, c, h1, h2, h3, h4, h6, h7⟩
  · intro p e s m args below meth c s₁ B hml hP _
    obtain ⟨rfl, hR, hK⟩ := hP
    have hts : ∀ w ∈ am_tb, w.before av.toArray s = true := atoms_spec (ws := am_tb) B.pre
    obtain ⟨m', meth', c', g0, g1, g2, -, -, g5, -, -, -⟩ := Cond.codeWith_spec (hts _ (am_in hcw rfl))
    have hS := Stand.of_body B
    cases B.named.symm.trans g0
    cases B.method.symm.trans g1
    cases hS.code.symm.trans g2
    have hh0 : s₁.heap = s.heap := by rw [B.state]; rfl
    obtain ⟨ls, he, hl⟩ := am_entry (m := m) hn hL
    obtain ⟨t, a1, o, b1, b2, b3, b4⟩ := body p e s m av.toArray below meth c ⟨B.exec, B.bytes, hml, findClass_of_methodNamed B.named, hts, hK, B.notSynchronized, B.returns, (name_of_methodNamed B.named B.method).1, g5⟩ s.heap [] ls hR (fun _ q => by cases q) hl s₁ hh0 hS
    rw [he]
    exact ⟨t, o, a1, b1, b2, b3, b4⟩
section AMC
variable {p : Program} {l : Launch} {e : Env} {R : Room} {s : State} {m : MethodId} {args : Array Value} {below : List Frame} {meth : Method} {c : Code} {nL : Nat} {X : am_X} {Q : State → Prop}
variable {cc : ByteArray} {y : MethodName} {ret : Option FieldType} {et : List (Nat × Nat × Nat × Nat)} {h : am_H} {nx cells slots pc pc' : Nat} {L : List (Option Value)} {st : List Value} {mc ms : Nat} {post : Outcome → am_H → Nat → Prop}
/-! returns -/
theorem v_ireturn (F : am_Fx p s m args meth c y cc nL ret et X) {ty : FieldType} {v : Value} {z : Int} (hv : v = iV z) (d : decode cc pc = .ok (.ireturn, 1)) (hr : ret = some ty) (hn : narrow ty (iV z) = iV z) (hc : cells ≤ mc) (hs : slots ≤ ms) (hp : post (.returned (some (iV z))) h nx) :
    V p l e R s m args below meth c nL X (am_Q X below s mc ms post) h nx cells slots pc L [v] := by
  subst hv
  intro H locs ls hR hL hl T hT XS
  obtain ⟨f1, f2, f3, f4, hts, hK, hlocks, f8, f9, f10⟩ := F
  obtain ⟨fs, hret, hrun, hended, hW, hframe⟩ := XS.leave (v := some (iV z)) (fun h => by rw [f8, hr] at h; cases h)
  have hmeth' : T.vm.method? m = some meth := XS.method'
  refine ⟨T.setFrames fs, ?_, .returned (some (iV z)), hrun, hended, ⟨h, nx, (by show am_R X h nx T.heap; rw [hT]; exact hR), hp⟩, hW, locs, hframe.mono hc hs, hL⟩
  jvm_step XS.here [XS.here.top, f1, f2, d, hmeth', f8, hr, hn]
  (try refine ⟨rfl, ?_⟩); (try refine ⟨rfl, ?_⟩)
  first | (intro acts; rw [hret _ acts rfl rfl rfl]) | rw [hret _ _ rfl rfl rfl]
  exact Steps.refl _
theorem v_lreturn (F : am_Fx p s m args meth c y cc nL ret et X) {z : Int} (d : decode cc pc = .ok (.lreturn, 1)) (hr : ret = some .long) (hc : cells ≤ mc) (hs : slots ≤ ms) (hp : post (.returned (some (lV z))) h nx) :
    V p l e R s m args below meth c nL X (am_Q X below s mc ms post) h nx cells slots pc L [lV z] := by
  intro H locs ls hR hL hl T hT XS
  obtain ⟨f1, f2, f3, f4, hts, hK, hlocks, f8, f9, f10⟩ := F
  obtain ⟨fs, hret, hrun, hended, hW, hframe⟩ := XS.leave (v := some (lV z)) (fun h => by rw [f8, hr] at h; cases h)
  have hmeth' : T.vm.method? m = some meth := XS.method'
  refine ⟨T.setFrames fs, ?_, .returned (some (lV z)), hrun, hended, ⟨h, nx, (by show am_R X h nx T.heap; rw [hT]; exact hR), hp⟩, hW, locs, hframe.mono hc hs, hL⟩
  jvm_step XS.here [XS.here.top, f1, f2, d, hmeth', f8, hr, narrow]
  (try refine ⟨rfl, ?_⟩); (try refine ⟨rfl, ?_⟩)
  first | (intro acts; rw [hret _ acts rfl rfl rfl]) | rw [hret _ _ rfl rfl rfl]
  exact Steps.refl _
theorem v_return (F : am_Fx p s m args meth c y cc nL ret et X) (d : decode cc pc = .ok (.return_, 1)) (hr : ret = none) (hc : cells ≤ mc) (hs : slots ≤ ms) (hp : post (.returned none) h nx) :
    V p l e R s m args below meth c nL X (am_Q X below s mc ms post) h nx cells slots pc L [] := by
  intro H locs ls hR hL hl T hT XS
  obtain ⟨f1, f2, f3, f4, hts, hK, hlocks, f8, f9, f10⟩ := F
  obtain ⟨fs, hret, hrun, hended, hW, hframe⟩ := XS.leave (v := none) (fun _ => rfl)
  have hmeth' : T.vm.method? m = some meth := XS.method'
  refine ⟨T.setFrames fs, ?_, .returned none, hrun, hended, ⟨h, nx, (by show am_R X h nx T.heap; rw [hT]; exact hR), hp⟩, hW, locs, hframe.mono hc hs, hL⟩
  jvm_step XS.here [XS.here.top, f1, f2, d, hmeth', f8, hr]
  (try refine ⟨rfl, ?_⟩); (try refine ⟨rfl, ?_⟩)
  first | (intro acts; rw [hret _ acts rfl rfl rfl]) | rw [hret _ _ rfl rfl rfl]
  exact Steps.refl _
theorem v_areturn (F : am_Fx p s m args meth c y cc nL ret et X) {v : Value} {rt : FieldType} (d : decode cc pc = .ok (.areturn, 1)) (hr : ret = some rt) (hrt : (∃ n, rt = .object n) ∨ ∃ t, rt = .array t) (hv : v = .null ∨ ∃ a, v = .ref a) (hc : cells ≤ mc) (hs : slots ≤ ms) (hp : post (.returned (some v)) h nx) :
    V p l e R s m args below meth c nL X (am_Q X below s mc ms post) h nx cells slots pc L [v] := by
  intro H locs ls hR hL hl T hT XS
  obtain ⟨f1, f2, f3, f4, hts, hK, hlocks, f8, f9, f10⟩ := F
  obtain ⟨fs, hret, hrun, hended, hW, hframe⟩ := XS.leave (v := some v) (fun h => by rw [f8, hr] at h; cases h)
  have hmeth' : T.vm.method? m = some meth := XS.method'
  refine ⟨T.setFrames fs, ?_, .returned (some v), hrun, hended, ⟨h, nx, (by show am_R X h nx T.heap; rw [hT]; exact hR), hp⟩, hW, locs, hframe.mono hc hs, hL⟩
  rcases hrt with ⟨n, rfl⟩ | ⟨t, rfl⟩ <;> rcases hv with rfl | ⟨a, rfl⟩ <;>
    (jvm_step XS.here [XS.here.top, f1, f2, d, hmeth', f8, hr]
     (try refine ⟨rfl, ?_⟩); (try refine ⟨rfl, ?_⟩)
     first | (intro acts; rw [hret _ acts rfl rfl rfl]) | rw [hret _ _ rfl rfl rfl]
     exact Steps.refl _)
end AMC
/-! calls -/
/-- what the tables say of a callee's code: with or without handlers -/
def am_code (y : MethodName) (bytes : ByteArray) (maxL : Nat) (ret : Option FieldType) : Prop := Cond.code y bytes maxL ret ∈ lw_tbl ∨ ∃ et, Cond.codeWith y bytes maxL ret et ∈ lw_tbl
theorem am_code_at {y : MethodName} {bytes : ByteArray} {maxL : Nat} {ret : Option FieldType} {a : Array Value} {U : State} {mk : MethodId} (h : am_code y bytes maxL ret) (hts : ∀ w ∈ am_tb, w.before a U = true) (hn : U.methodNamed? y = some mk) :
    ∃ (meth : Method) (c : Code), U.vm.method? mk = some meth ∧ meth.code = some c ∧ c.maxLocals = maxL ∧ parseMethodDescriptor y.desc = some meth.sig ∧ meth.sig.returnType = ret := by
  rcases h with h | ⟨et, h⟩
  · obtain ⟨meth, c, h1, h2, -, h4, h5, -, -, h8⟩ := Cond.code_spec hn (hts _ (am_in h rfl))
    exact ⟨meth, c, h1, h2, h4, h8, h5⟩
  · obtain ⟨m', meth, c, h0, h1, h2, h3, h4, h5, h6, h7, h8⟩ := Cond.codeWith_spec (hts _ (am_in h rfl))
    cases hn.symm.trans h0
    exact ⟨meth, c, h1, h2, h4, h8, h6⟩
theorem am_words {s U : State} {args a' : Array Value} (hW : s.WarmedH U.vm) (hts : ∀ w ∈ am_tb, w.before args s = true) : ∀ w ∈ am_tb, w.before a' U = true := fun w hw => word_at hW (good_of_word (List.mem_filter.mp hw).2) (hts w hw)
section AMB
variable {p : Program} {l : Launch} {e : Env} {R : Room} {s : State} {m : MethodId} {args : Array Value} {below : List Frame} {meth : Method} {c : Code} {nL : Nat} {X : am_X} {Q : State → Prop}
variable {cc : ByteArray} {y : MethodName} {ret : Option FieldType} {et : List (Nat × Nat × Nat × Nat)} {h : am_H} {nx cells slots pc pc' : Nat} {L : List (Option Value)} {st : List Value} {mc ms : Nat} {post : Outcome → am_H → Nat → Prop}
/-- where the machine stands when a callee has come back -/
def am_after (g : JFrame) (o : Outcome) (T : State) : State := match o with
  | .returned v => T.setTop { g with pc := g.pc + 3, stack := v.toList ++ g.stack }
  | .threw x => (T.setTop g).pushFrame (.throwing x)
theorem am_back {y' : MethodName} {rm : Room} {av : List Value} {bytes : ByteArray} {maxL : Nat} {ret' : Option FieldType} (hC : Cn l X y' rm av h nx post) {U : State} {locs : List Loc} (XS : Stand p l e R s m args below meth c U locs cells slots) {g : JFrame} (hg : g.method = m) (hsize : g.locals.size = c.maxLocals) {ig : Instr} (hdg : decode c.code g.pc = .ok (ig, 3))
    {mk : MethodId} (hn : U.methodNamed? y' = some mk) (hts : ∀ w ∈ am_tb, w.before args s = true) (hK : am_K X s) (hR : am_R X h nx U.heap) (hcode : am_code y' bytes maxL ret') (hini : Cond.initialized y'.cls ∈ lw_tbl)
    (hW : 2 * g.monitorRoom + (g.stack.map fun v => v.category).sum ≤ 8) (hframes : rm.frames + 1 ≤ R.frames) (hlocals : 8 + (maxL + 11) + rm.locals ≤ R.locals) (hcells : cells + rm.cells ≤ R.cells) (hslots : slots + rm.slots ≤ R.slots) :
    ∃ (o : Outcome) (T' : State) (L9 : List Loc), Stand p l e R s m args below meth c T' (locs ++ L9) (cells + rm.cells) (slots + rm.slots) ∧ (∀ q ∈ L9, am_sz X ≤ q.base) ∧ (∃ (h' : am_H) (nx' : Nat), am_R X h' nx' T'.heap ∧ post o h' nx') ∧
      Steps p.tables e below (doInvoke e (U.setTop g) [] mk av.toArray).1 (am_after g o T') := by
  have hwU : ∀ a' : Array Value, ∀ w ∈ am_tb, w.before a' U = true := fun a' => am_words XS.warmed hts
  obtain ⟨methY, cY, hmY, hcY, hlY, -, -⟩ := am_code_at hcode (hwU av.toArray) hn
  obtain ⟨kY, hkY, -⟩ := className_of_methodNamed hn
  have hinitY : kY.init = .initialized := Cond.initialized_spec (findClass_of_methodNamed hn) hkY (hwU av.toArray _ (am_in hini rfl))
  have hAt : At U g.method c below := by rw [hg]; exact XS.here
  have hpre : (headSpec am_tb rm).pre.before av.toArray U = true := atoms_intro (hwU av.toArray)
  have happ : (headSpec am_tb rm).appliesLoose y' e.platform (U.calling g mk av.toArray) = true :=
    Spec.appliesLoose_calling (g := g) hAt hdg hn hkY hinitY
      (XS.room_calling (g := g) (R' := rm) hsize hmY hcY hframes (by rw [hlY]; omega) hcells hslots) hpre
  obtain ⟨mid, hmid⟩ := hAt.above
  have hfr : (U.setTop g).frames = (.java g :: mid) ++ below := by rw [State.frames_setTop' g hAt.top, hmid]; rfl
  have hP : av.toArray = av.toArray ∧ am_R X h nx (U.calling g mk av.toArray).heap ∧ am_K X (U.calling g mk av.toArray) := ⟨rfl, hR, am_K_warm (U := U.calling g mk av.toArray) XS.warmed hK⟩
  obtain ⟨o, s₂, hsteps, -, hend, ⟨h', nx', hR', hpost⟩, hW₂, L9, hsame, hL9⟩ := Steps.callFree hC p XS.admits XS.cas XS.clock (acts := []) hfr happ hP trivial
  rw [State.frames_setTop' g hAt.top] at hend
  have hbl : U.frames.tail = below := XS.tail
  cases o with
  | threw x =>
    have hend' : Ended s₂ (.java g :: below) (.threw x) := by rw [← hbl]; exact hend
    obtain ⟨T', X', -, -, ht⟩ := XS.outOfThrown hg hend' hW₂ hsame
    refine ⟨.threw x, T', L9, X', hL9, ⟨h', nx', ?_, hpost⟩, ?_⟩
    · have : s₂.heap = T'.heap := by rw [ht]; exact Stand.throwing_heap T' g x
      rw [← this]; exact hR'
    · show Steps p.tables e below _ ((T'.setTop g).pushFrame (.throwing x))
      rw [← ht]; exact hsteps
  | returned v =>
    have hsame : (U.calling g mk av.toArray).sameButNew ({ s₂ with vm := (U.calling g mk av.toArray).vm } : State) L9 rm.cells rm.slots := hsame
    obtain ⟨e2, q2, q3, q4, q5, q6⟩ := id hsame
    have e3 : s₂ = ({ (U.calling g mk av.toArray).setFrames s₂.frames with heap := s₂.heap, slotsUsed := s₂.slotsUsed } : State).setVm s₂.vm := by
      have : s₂ = ({ s₂ with vm := (U.calling g mk av.toArray).vm } : State).setVm s₂.vm := rfl
      rw [e2] at this
      exact this
    obtain ⟨c₂, i₂, len₂, hc₂, hd₂, hf₂⟩ := hend
    have hW' : U.WarmedH s₂.vm := hW₂
    have hcc : c₂ = c := by
      have h1 : s₂.code? g.method = U.code? g.method := by
        rw [State.code?_eq, State.code?_eq, hW'.alike.method?]
      exact Option.some.inj (hc₂.symm.trans (h1.trans hAt.code))
    subst hcc
    have hlen : len₂ = 3 := by rw [hdg] at hd₂; cases hd₂; rfl
    subst hlen
    obtain ⟨g₀, hg0⟩ := Option.isSome_iff_exists.mp hAt.top
    obtain ⟨r, hr⟩ := State.topJava?_eq_some.mp hg0
    have hs₂ : s₂ = (({ U with heap := s₂.heap, slotsUsed := s₂.slotsUsed } : State).setVm s₂.vm).setTop { g with pc := g.pc + 3, stack := v.toList ++ g.stack } := by
      have hr' : (({ U with heap := s₂.heap, slotsUsed := s₂.slotsUsed } : State).setVm s₂.vm).frames = .java g₀ :: r := hr
      refine e3.trans ?_
      rw [hf₂, State.calling_eq hAt.top, State.setFrames_setFrames, State.setTop_of_frames _ hr', hr]
      rfl
    have hsame2 : U.sameButNew ({ U with heap := s₂.heap, slotsUsed := s₂.slotsUsed } : State) L9 rm.cells rm.slots := by
      refine ⟨?_, q2, q3, q4, q5, q6⟩
      obtain ⟨t, ht, -⟩ := State.frames_cons hr
      show ({ U with heap := s₂.heap, slotsUsed := s₂.slotsUsed } : State) = { U.setFrames U.frames with heap := s₂.heap, slotsUsed := s₂.slotsUsed }
      rw [State.setFrames_self ht]
    subst hg
    refine ⟨.returned v, (({ U with heap := s₂.heap, slotsUsed := s₂.slotsUsed } : State).setVm s₂.vm), L9,
      ⟨XS.admits, XS.cas, XS.clock, XS.frames, XS.room, XS.hears, XS.method, XS.code, (XS.here.setHeapUsed s₂.heap s₂.slotsUsed).setVm hW'.alike, XS.tail, State.WarmedH.trans XS.warmed hW', XS.limits, XS.bytes, XS.same.trans (hsame2.setVm s.vm)⟩,
      hL9, ⟨h', nx', hR', hpost⟩, ?_⟩
    show Steps p.tables e below _ ((({ U with heap := s₂.heap, slotsUsed := s₂.slotsUsed } : State).setVm s₂.vm).setTop { g with pc := g.pc + 3, stack := v.toList ++ g.stack })
    rw [← hs₂]
    exact hsteps
end AMB
end
section
/-! the instructions that call; what is thrown -/
/-- x is thrown over the frame at pc -/
def VX (p : Program) (l : Launch) (e : Env) (R : Room) (s : State) (m : MethodId) (args : Array Value) (below : List Frame) (meth : Method) (c : Code) (nL : Nat) (X : am_X) (Q : State → Prop) (h : am_H) (nx cells slots pc : Nat) (L : List (Option Value)) (x : Nat) : Prop :=
  ∀ (T : State) (locs : List Loc) (ls : Array Slot) (st : List Value), am_R X h nx T.heap → (∀ q ∈ locs, am_sz X ≤ q.base) → am_L ls nL L → Stand p l e R s m args below meth c T locs cells slots → ∃ t, Steps p.tables e below ((T.setTop (F0 m pc ls st)).pushFrame (.throwing x)) t ∧ Q t
theorem am_named {y : MethodName} {bytes : ByteArray} {maxL : Nat} {ret : Option FieldType} {a : Array Value} {U : State} (h : am_code y bytes maxL ret) (hts : ∀ w ∈ am_tb, w.before a U = true) : ∃ mk, U.methodNamed? y = some mk := by
  rcases h with h | ⟨et, h⟩
  · exact Cond.code_named (hts _ (am_in h rfl))
  · obtain ⟨m', meth, c, h0, -⟩ := Cond.codeWith_spec (hts _ (am_in h rfl))
    exact ⟨m', h0⟩
/-- a callee by the tables: its code, its class is ready, it is no method handle's, it takes n arguments -/
def am_cal (y : MethodName) (bytes : ByteArray) (maxL : Nat) (ret : Option FieldType) (n : Nat) : Prop := am_code y bytes maxL ret ∧ Cond.initialized y.cls ∈ lw_tbl ∧ (y.cls ≠ "java/lang/invoke/MethodHandle" ∧ y.cls ≠ "java/lang/invoke/VarHandle") ∧ (parseMethodDescriptor y.desc).map (fun d => d.parameters.length) = some n
def am_fit (R rm : Room) (maxL cells slots : Nat) : Prop := rm.frames + 1 ≤ R.frames ∧ 8 + (maxL + 11) + rm.locals ≤ R.locals ∧ cells + rm.cells ≤ R.cells ∧ slots + rm.slots ≤ R.slots
section AMI
variable {p : Program} {l : Launch} {e : Env} {R : Room} {s : State} {m : MethodId} {args : Array Value} {below : List Frame} {meth : Method} {c : Code} {nL : Nat} {X : am_X} {Q : State → Prop}
variable {cc : ByteArray} {y : MethodName} {ret : Option FieldType} {et : List (Nat × Nat × Nat × Nat)} {h : am_H} {nx cells slots pc pc' : Nat} {L : List (Option Value)} {st : List Value} {mc ms : Nat} {post : Outcome → am_H → Nat → Prop}
variable {y' : MethodName} {rm : Room} {av : List Value} {bytes : ByteArray} {maxL index : Nat} {ret' : Option FieldType}
/-- behind the call: goes on, or is thrown -/
theorem am_go {ig : Instr} (F : am_Fx p s m args meth c y cc nL ret et X) (d : decode cc pc = .ok (ig, 3)) (hp : pc + 3 = pc') (hcal : am_code y' bytes maxL ret' ∧ Cond.initialized y'.cls ∈ lw_tbl) (hfit : am_fit R rm maxL cells slots) (hC : Cn l X y' rm av h nx post) (hw : (st.map fun v => v.category).sum ≤ 8)
    (kr : ∀ (v : Option Value) (h' : am_H) (nx' : Nat), post (.returned v) h' nx' → V p l e R s m args below meth c nL X Q h' nx' (cells + rm.cells) (slots + rm.slots) pc' L (v.toList ++ st))
    (kx : ∀ (x : Nat) (h' : am_H) (nx' : Nat), post (.threw x) h' nx' → VX p l e R s m args below meth c nL X Q h' nx' (cells + rm.cells) (slots + rm.slots) pc L x)
    {T : State} {locs : List Loc} {ls : Array Slot} (hR : am_R X h nx T.heap) (hL : ∀ q ∈ locs, am_sz X ≤ q.base) (hl : am_L ls nL L) (XS : Stand p l e R s m args below meth c T locs cells slots) {mk : MethodId} (hn : s.methodNamed? y' = some mk) :
    ∃ t, Steps p.tables e below (doInvoke e (T.setTop (F0 m pc ls st)) [] mk av.toArray).1 t ∧ Q t := by
  subst hp
  obtain ⟨f1, f2, f3, f4, hts, hK, f7, f8, f9, f10⟩ := F
  obtain ⟨o, T', L9, X', hL9, ⟨h', nx', hR', hpost⟩, hst⟩ := am_back hC XS (g := F0 m pc ls st) rfl (hl.1.trans f3.symm) (by rw [f2]; exact d) (XS.named hn) hts hK hR hcal.1 hcal.2 (lv_room hw) hfit.1 hfit.2.1 hfit.2.2.1 hfit.2.2.2
  have hL' : ∀ q ∈ locs ++ L9, am_sz X ≤ q.base := fun q hq => (List.mem_append.mp hq).elim (hL q) (hL9 q)
  cases o with
  | returned v =>
    obtain ⟨t, a1, b1⟩ := kr v h' nx' hpost T'.heap (locs ++ L9) ls hR' hL' hl T' rfl X'
    exact ⟨t, hst.trans a1, b1⟩
  | threw x =>
    obtain ⟨t, a1, b1⟩ := kx x h' nx' hpost T' (locs ++ L9) ls st hR' hL' hl X'
    exact ⟨t, hst.trans a1, b1⟩
theorem v_callS (F : am_Fx p s m args meth c y cc nL ret et X) {st0 : List Value} (d : decode cc pc = .ok (.invokestatic index, 3)) (hp : pc + 3 = pc') (hcal : am_cal y' bytes maxL ret' av.length) (hlink : Cond.methodLink y.cls index y' ∈ lw_tbl) (hstat : Cond.static y' ∈ lw_tbl) (hC : Cn l X y' rm av h nx post) (hst : st0 = av.reverse ++ st) (hfit : am_fit R rm maxL cells slots) (hw : (st.map fun v => v.category).sum ≤ 8)
    (kx : ∀ (x : Nat) (h' : am_H) (nx' : Nat), post (.threw x) h' nx' → VX p l e R s m args below meth c nL X Q h' nx' (cells + rm.cells) (slots + rm.slots) pc L x)
    (kr : ∀ (v : Option Value) (h' : am_H) (nx' : Nat), post (.returned v) h' nx' → V p l e R s m args below meth c nL X Q h' nx' (cells + rm.cells) (slots + rm.slots) pc' L (v.toList ++ st)) :
    V p l e R s m args below meth c nL X Q h nx cells slots pc L st0 := by
  subst hst
  intro H locs ls hR hL hl T hT XS
  subst hT
  obtain ⟨f1, f2, f3, f4, hts, hK, f7, f8, f9, f10⟩ := id F
  obtain ⟨hcode, hini, hy, hlen⟩ := hcal
  obtain ⟨mk, hnamed⟩ := am_named hcode hts
  obtain ⟨methM, cM, hmethM, -, -, hsigM, -⟩ := am_code_at hcode hts hnamed
  have hstatic : methM.isStatic = true := Cond.static_spec hnamed hmethM (hts _ (am_in hstat rfl))
  obtain ⟨kP, hkP, -⟩ := className_of_methodNamed hnamed
  have hinitP : kP.init = .initialized := Cond.initialized_spec (findClass_of_methodNamed hnamed) hkP (hts _ (am_in hini rfl))
  have hlen' : av.length = methM.sig.parameters.length := by rw [hsigM] at hlen; exact (Option.some.inj hlen).symm
  obtain ⟨vm₁, X₁, hstep₁⟩ := XS.invokestatic f1 f4 (hts _ (am_in hlink rfl)) hnamed hmethM hstatic hkP hinitP hy (g := F0 m pc ls (av.reverse ++ st)) rfl (argsL := av) (rest := st) hlen' rfl (by rw [f2]; exact d)
  obtain ⟨t, a1, b1⟩ := am_go F d hp ⟨hcode, hini⟩ hfit hC hw kr kx (T := T.setVm vm₁) (ls := ls) hR hL hl X₁ hnamed
  exact ⟨t, hstep₁ _ fun acts => by rw [doInvoke_state]; exact a1, b1⟩
theorem v_callV (F : am_Fx p s m args meth c y cc nL ret et X) {st0 : List Value} {b ci : Nat} {fs : List Value} {C : String} {T9 : u_T} {N : Nat} (d : decode cc pc = .ok (.invokevirtual index, 3)) (hp : pc + 3 = pc') (hcal : am_cal y' bytes maxL ret' av.length) (hlink : Cond.methodLink y.cls index y' ∈ lw_tbl) (hinst : Cond.instanceMethod y' ∈ lw_tbl) (hsel : Cond.selects C y' y' ∈ lw_tbl) (hc : am_cl[ci]? = some (C, T9, N)) (hb : h b = some (.inr (ci, fs))) (hC : Cn l X y' rm (.ref b :: av) h nx post) (hst : st0 = av.reverse ++ .ref b :: st) (hfit : am_fit R rm maxL cells slots) (hw : (st.map fun v => v.category).sum ≤ 8)
    (kx : ∀ (x : Nat) (h' : am_H) (nx' : Nat), post (.threw x) h' nx' → VX p l e R s m args below meth c nL X Q h' nx' (cells + rm.cells) (slots + rm.slots) pc L x)
    (kr : ∀ (v : Option Value) (h' : am_H) (nx' : Nat), post (.returned v) h' nx' → V p l e R s m args below meth c nL X Q h' nx' (cells + rm.cells) (slots + rm.slots) pc' L (v.toList ++ st)) :
    V p l e R s m args below meth c nL X Q h nx cells slots pc L st0 := by
  subst hst
  intro H locs ls hR hL hl T hT XS
  subst hT
  obtain ⟨f1, f2, f3, f4, hts, hK, f7, f8, f9, f10⟩ := id F
  obtain ⟨hcode, hini, hy, hlen⟩ := hcal
  obtain ⟨-, r, h1, cellB, hcell, hcl, hvm, -⟩ := hR.2.2.2 _ _ hb
  cases h1.symm.trans hc
  have hcls : s.vm.findClass C = some cellB.cls := by rw [hcl]; exact (hK.1.1 ci _ hc).2.1
  obtain ⟨mk, methM, hnamed, hmethM, hstM, habM⟩ := Cond.instanceMethod_spec (hts _ (am_in hinst rfl))
  obtain ⟨methM', cM, hmethM', -, -, hsigM, -⟩ := am_code_at hcode hts hnamed
  cases hmethM.symm.trans hmethM'
  obtain ⟨c2, r2, m2, q1, q2, q3, q4, kP, hkP, hkPi⟩ := Cond.selects_spec (hts _ (am_in hsel rfl))
  cases hcls.symm.trans q1
  cases (State.methodFound?_of_named hnamed hy).symm.trans q2
  cases hnamed.symm.trans q3
  have hselP : selectMethod e.platform s.vm cellB.cls mk = .method mk := by rw [Launch.admits_selectMethod XS.admits]; exact q4
  have hlen' : av.length = methM.sig.parameters.length := by rw [hsigM] at hlen; exact (Option.some.inj hlen).symm
  obtain ⟨vm₁, X₁, hstep₁⟩ := XS.invokevirtual f1 f4 (hts _ (am_in hlink rfl)) hnamed hmethM hstM hkP hkPi hy (a := b) (cell := cellB) hcell
    (fun z h => by rw [hvm] at h; cases h) hselP hmethM habM hkP hkPi (g := F0 m pc ls (av.reverse ++ .ref b :: st)) rfl (argsL := av) (rest := st) hlen' rfl (by rw [f2]; exact d)
  obtain ⟨t, a1, b1⟩ := am_go F d hp ⟨hcode, hini⟩ hfit hC hw kr kx (T := T.setVm vm₁) (ls := ls) hR hL hl X₁ hnamed
  exact ⟨t, hstep₁ _ fun acts => by rw [doInvoke_state]; exact a1, b1⟩
theorem v_callI (F : am_Fx p s m args meth c y cc nL ret et X) {st0 : List Value} {b : Nat} (d : decode cc pc = .ok (.invokespecial index, 3)) (hp : pc + 3 = pc') (hcode : Cond.code y' bytes maxL none ∈ lw_tbl) (hcal : am_cal y' bytes maxL none av.length) (hy1 : y'.name = "<init>") (hlink : Cond.methodLink y.cls index y' ∈ lw_tbl) (hinst : Cond.instanceMethod y' ∈ lw_tbl) (hC : Cn l X y' rm (.ref b :: av) h nx post) (hst : st0 = av.reverse ++ .ref b :: st) (hfit : am_fit R rm maxL cells slots) (hw : (st.map fun v => v.category).sum ≤ 8)
    (kx : ∀ (x : Nat) (h' : am_H) (nx' : Nat), post (.threw x) h' nx' → VX p l e R s m args below meth c nL X Q h' nx' (cells + rm.cells) (slots + rm.slots) pc L x)
    (kr : ∀ (v : Option Value) (h' : am_H) (nx' : Nat), post (.returned v) h' nx' → V p l e R s m args below meth c nL X Q h' nx' (cells + rm.cells) (slots + rm.slots) pc' L (v.toList ++ st)) :
    V p l e R s m args below meth c nL X Q h nx cells slots pc L st0 := by
  subst hst
  intro H locs ls hR hL hl T hT XS
  subst hT
  obtain ⟨f1, f2, f3, f4, hts, hK, f7, f8, f9, f10⟩ := id F
  obtain ⟨hcode', hini, hy, hlen⟩ := hcal
  have hpl : e.platform.magicAccessors = ({} : Platform).magicAccessors := by rw [XS.admits.platform]
  obtain ⟨mk, methM, cM, kP, vm₁, hnamed, hmethM, hcodeM, -, hlocalsM, -, hkP, -, hW₁, hstep₁⟩ := Steps.initColdArgs (e := e) XS.here f1 XS.warmed hpl f4 hy1 hy (hts _ (am_in hlink rfl)) (hts _ (am_in hinst rfl)) (hts _ (am_in hcode rfl)) (f := F0 m pc ls (av.reverse ++ .ref b :: st)) rfl (argsL := av) (rest := st) (fun sig hs => by rw [hs] at hlen; exact (Option.some.inj hlen).symm) rfl (by rw [f2]; exact d)
  have X₁ := XS.noted hW₁
  obtain ⟨t, a1, b1⟩ := am_go F d hp ⟨hcode', hini⟩ hfit hC hw kr kx (T := T.setVm vm₁) (ls := ls) hR hL hl X₁ hnamed
  exact ⟨t, hstep₁ _ fun acts => by rw [doInvoke_state]; exact a1, b1⟩
/-- a private method of a nest mate -/
theorem v_callIN (F : am_Fx p s m args meth c y cc nL ret et X) {st0 : List Value} {b : Nat} {host : String} (d : decode cc pc = .ok (.invokespecial index, 3)) (hp : pc + 3 = pc') (hcode : Cond.code y' bytes maxL none ∈ lw_tbl) (hcal : am_cal y' bytes maxL none av.length) (hy1 : y'.name = "<init>") (hlink : Cond.methodLinkNest y.cls index y' host ∈ lw_tbl) (hinst : Cond.instanceMethod y' ∈ lw_tbl) (hC : Cn l X y' rm (.ref b :: av) h nx post) (hst : st0 = av.reverse ++ .ref b :: st) (hfit : am_fit R rm maxL cells slots) (hw : (st.map fun v => v.category).sum ≤ 8)
    (kx : ∀ (x : Nat) (h' : am_H) (nx' : Nat), post (.threw x) h' nx' → VX p l e R s m args below meth c nL X Q h' nx' (cells + rm.cells) (slots + rm.slots) pc L x)
    (kr : ∀ (v : Option Value) (h' : am_H) (nx' : Nat), post (.returned v) h' nx' → V p l e R s m args below meth c nL X Q h' nx' (cells + rm.cells) (slots + rm.slots) pc' L (v.toList ++ st)) :
    V p l e R s m args below meth c nL X Q h nx cells slots pc L st0 := by
  subst hst
  intro H locs ls hR hL hl T hT XS
  subst hT
  obtain ⟨f1, f2, f3, f4, hts, hK, f7, f8, f9, f10⟩ := id F
  obtain ⟨hcode', hini, hy, hlen⟩ := hcal
  have hpl : e.platform.magicAccessors = ({} : Platform).magicAccessors := by rw [XS.admits.platform]
  obtain ⟨mk, methM, cM, kP, vm₁, hnamed, hmethM, hcodeM, -, hlocalsM, -, hkP, -, hW₁, hstep₁⟩ := Steps.initColdArgsNest (e := e) XS.here f1 XS.warmed hpl f4 hy1 hy (va_Nw.use (A := args) rfl (hK.2.1 _ hlink rfl)) (hts _ (am_in hinst rfl)) (hts _ (am_in hcode rfl)) (f := F0 m pc ls (av.reverse ++ .ref b :: st)) rfl (argsL := av) (rest := st) (fun sig hs => by rw [hs] at hlen; exact (Option.some.inj hlen).symm) rfl (by rw [f2]; exact d)
  have X₁ := XS.noted hW₁
  obtain ⟨t, a1, b1⟩ := am_go F d hp ⟨hcode', hini⟩ hfit hC hw kr kx (T := T.setVm vm₁) (ls := ls) hR hL hl X₁ hnamed
  exact ⟨t, hstep₁ _ fun acts => by rw [doInvoke_state]; exact a1, b1⟩
theorem v_callSN (F : am_Fx p s m args meth c y cc nL ret et X) {st0 : List Value} {host : String} (d : decode cc pc = .ok (.invokestatic index, 3)) (hp : pc + 3 = pc') (hcal : am_cal y' bytes maxL ret' av.length) (hlink : Cond.methodLinkNest y.cls index y' host ∈ lw_tbl) (hstat : Cond.static y' ∈ lw_tbl) (hC : Cn l X y' rm av h nx post) (hst : st0 = av.reverse ++ st) (hfit : am_fit R rm maxL cells slots) (hw : (st.map fun v => v.category).sum ≤ 8)
    (kx : ∀ (x : Nat) (h' : am_H) (nx' : Nat), post (.threw x) h' nx' → VX p l e R s m args below meth c nL X Q h' nx' (cells + rm.cells) (slots + rm.slots) pc L x)
    (kr : ∀ (v : Option Value) (h' : am_H) (nx' : Nat), post (.returned v) h' nx' → V p l e R s m args below meth c nL X Q h' nx' (cells + rm.cells) (slots + rm.slots) pc' L (v.toList ++ st)) :
    V p l e R s m args below meth c nL X Q h nx cells slots pc L st0 := by
  subst hst
  intro H locs ls hR hL hl T hT XS
  subst hT
  obtain ⟨f1, f2, f3, f4, hts, hK, f7, f8, f9, f10⟩ := id F
  obtain ⟨hcode, hini, hy, hlen⟩ := hcal
  obtain ⟨mk, hnamed⟩ := am_named hcode hts
  obtain ⟨methM, cM, hmethM, -, -, hsigM, -⟩ := am_code_at hcode hts hnamed
  have hstatic : methM.isStatic = true := Cond.static_spec hnamed hmethM (hts _ (am_in hstat rfl))
  obtain ⟨kP, hkP, -⟩ := className_of_methodNamed hnamed
  have hinitP : kP.init = .initialized := Cond.initialized_spec (findClass_of_methodNamed hnamed) hkP (hts _ (am_in hini rfl))
  have hlen' : av.length = methM.sig.parameters.length := by rw [hsigM] at hlen; exact (Option.some.inj hlen).symm
  obtain ⟨vm₁, X₁, hstep₁⟩ := XS.invokestaticNest f1 f4 (va_Nw.use (A := args) rfl (hK.2.1 _ hlink rfl)) hnamed hmethM hstatic hkP hinitP hy (g := F0 m pc ls (av.reverse ++ st)) rfl (argsL := av) (rest := st) hlen' rfl (by rw [f2]; exact d)
  obtain ⟨t, a1, b1⟩ := am_go F d hp ⟨hcode, hini⟩ hfit hC hw kr kx (T := T.setVm vm₁) (ls := ls) hR hL hl X₁ hnamed
  exact ⟨t, hstep₁ _ fun acts => by rw [doInvoke_state]; exact a1, b1⟩
/-- what is thrown and not caught here -/
theorem v_out (F : am_Fx p s m args meth c y cc nL ret [] X) {x : Nat} (hc : cells ≤ mc) (hs : slots ≤ ms) (hp : post (.threw x) h nx) : VX p l e R s m args below meth c nL X (am_Q X below s mc ms post) h nx cells slots pc L x := by
  intro T locs ls st hR hL hl XS
  obtain ⟨f1, f2, f3, f4, hts, hK, f7, f8, f9, f10⟩ := F
  have hout : ∀ z ∈ c.exceptionTable.toList, covers z pc = false := fun z hz => by rw [List.map_eq_nil_iff.mp f10] at hz; cases hz
  obtain ⟨st1, hrun, hend, hW, hsm⟩ := XS.leaveThrown x (g := F0 m pc ls st) rfl rfl rfl hout f7
  exact ⟨_, st1, .threw x, hrun, hend, ⟨h, nx, hR, hp⟩, hW, locs, hsm.mono hc hs, hL⟩
theorem v_athrow (F : am_Fx p s m args meth c y cc nL ret et X) {x : Nat} (d : decode cc pc = .ok (.athrow, 1)) (k : VX p l e R s m args below meth c nL X Q h nx cells slots pc L x) : V p l e R s m args below meth c nL X Q h nx cells slots pc L (.ref x :: st) := by
  intro H locs ls hR hL hl T hT XS
  subst hT
  obtain ⟨f1, f2, f3, f4, hts, hK, f7, f8, f9, f10⟩ := F
  obtain ⟨t, a1, b1⟩ := k T locs ls st hR hL hl XS
  refine ⟨t, ?_, b1⟩
  have d' : decode c.code pc = .ok (.athrow, 1) := by rw [f2]; exact d
  jvm_step XS.here [XS.here.top, f1, d', athrow.wp_sem]
  exact a1
/-- Object's constructor -/
theorem v_obj (F : am_Fx p s m args meth c y cc nL ret et X) {a : Nat} (d : decode cc pc = .ok (.invokespecial index, 3)) (hp : pc + 3 = pc') (hlink : Cond.methodLink y.cls index Lib.objectInit ∈ lw_tbl) (hinst : Cond.instanceMethod Lib.objectInit ∈ lw_tbl) (hcode : Cond.code Lib.objectInit ⟨#[0xb1]⟩ 1 none ∈ lw_tbl) (hfr : 1 ≤ R.frames) (hlo : (st.map fun v => v.category).sum + 12 ≤ R.locals)
    (k : V p l e R s m args below meth c nL X Q h nx cells slots pc' L st) : V p l e R s m args below meth c nL X Q h nx cells slots pc L (.ref a :: st) := by
  subst hp
  intro H locs ls hR hL hl
  obtain ⟨f1, f2, f3, f4, hts, hK, f7, f8, f9, f10⟩ := F
  refine W.objInit f1 f2 f4 (hts _ (am_in hlink rfl)) (hts _ (am_in hinst rfl)) (hts _ (am_in hcode rfl)) rfl (hl.1.trans f3.symm) rfl d hfr ?_ (k H locs ls hR hL hl)
  have : 2 * (F0 m pc ls (Value.ref a :: st)).monitorRoom = 0 := rfl
  omega
end AMI
end
section
/-! the words of the tables by their numbers (written by wip/whole/mkwords.py) -/
theorem wd_1 {w : Cond} (i : Nat) (h : tables_1_1[i]? = some w) : w ∈ lw_tbl := List.mem_append_right _ (List.mem_append_left _ (List.mem_of_getElem? h))
theorem wd_2 {w : Cond} (i : Nat) (h : tables_1_2[i]? = some w) : w ∈ lw_tbl := List.mem_append_right _ (List.mem_append_right _ (List.mem_append_left _ (List.mem_of_getElem? h)))
theorem wd_3 {w : Cond} (i : Nat) (h : tables_1_3[i]? = some w) : w ∈ lw_tbl := List.mem_append_right _ (List.mem_append_right _ (List.mem_append_right _ (List.mem_append_left _ (List.mem_of_getElem? h))))
theorem wd_4 {w : Cond} (i : Nat) (h : tables_1_4[i]? = some w) : w ∈ lw_tbl := List.mem_append_right _ (List.mem_append_right _ (List.mem_append_right _ (List.mem_append_right _ (List.mem_of_getElem? h))))
theorem ws_in {w : Cond} (i : Nat) (h : (k2_sels lw_privs)[i]? = some w) : w ∈ lw_tbl := List.mem_append_left _ (List.mem_of_getElem? h)
theorem wx_0 : (Cond.initialized "BillSharesLaw") ∈ lw_tbl := wd_1 0 rfl
theorem wx_1 : (Cond.initialized "BillShares") ∈ lw_tbl := wd_1 1 rfl
theorem wx_2 : (Cond.initialized "java/util/AbstractCollection") ∈ lw_tbl := wd_1 2 rfl
theorem wx_3 : (Cond.initialized "java/util/AbstractList") ∈ lw_tbl := wd_1 3 rfl
theorem wx_4 : (Cond.initialized "java/util/ArrayList") ∈ lw_tbl := wd_1 4 rfl
theorem wx_5 : (Cond.initialized "java/util/Arrays") ∈ lw_tbl := wd_1 5 rfl
theorem wx_6 : (Cond.initialized "BillSharesModel") ∈ lw_tbl := wd_1 6 rfl
theorem wx_7 : (Cond.initialized "java/lang/Throwable") ∈ lw_tbl := wd_1 7 rfl
theorem wx_8 : (Cond.initialized "java/lang/Exception") ∈ lw_tbl := wd_1 8 rfl
theorem wx_9 : (Cond.initialized "java/lang/RuntimeException") ∈ lw_tbl := wd_1 9 rfl
theorem wx_10 : (Cond.initialized "java/lang/IllegalArgumentException") ∈ lw_tbl := wd_1 10 rfl
theorem wx_11 : (Cond.initialized "java/lang/IllegalStateException") ∈ lw_tbl := wd_1 11 rfl
theorem wx_12 : (Cond.initialized "BillShares$Flat") ∈ lw_tbl := wd_1 12 rfl
theorem wx_13 : (Cond.initialized "jdk/internal/util/ArraysSupport") ∈ lw_tbl := wd_1 13 rfl
theorem wx_14 : (Cond.initialized "java/lang/Math") ∈ lw_tbl := wd_1 14 rfl
theorem wx_15 : (Cond.initialized "java/lang/System") ∈ lw_tbl := wd_1 15 rfl
theorem wx_16 : (Cond.initialized "java/util/Objects") ∈ lw_tbl := wd_1 16 rfl
theorem wx_17 : (Cond.initialized "jdk/internal/util/Preconditions") ∈ lw_tbl := wd_1 17 rfl
theorem wx_18 : (Cond.initialized "BillShares$Meter") ∈ lw_tbl := wd_1 18 rfl
theorem wx_19 : (Cond.initialized "BillShares$Bill") ∈ lw_tbl := wd_1 19 rfl
theorem wx_20 : (Cond.classLink "BillSharesLaw" (8 : Nat) "BillShares") ∈ lw_tbl := wd_1 20 rfl
theorem wx_21 : (Cond.instantiable "BillShares" (6 : Nat)) ∈ lw_tbl := wd_1 21 rfl
theorem wx_22 : (Cond.methodLink "BillSharesLaw" (78 : Nat) ({ cls := "BillShares", name := "<init>", desc := "()V" } : MethodName)) ∈ lw_tbl := wd_1 22 rfl
theorem wx_23 : (Cond.instanceMethod ({ cls := "BillShares", name := "<init>", desc := "()V" } : MethodName)) ∈ lw_tbl := wd_1 23 rfl
theorem wx_24 : (Cond.code ({ cls := "BillShares", name := "<init>", desc := "()V" } : MethodName) prog_1_method_1_code (1 : Nat) (Option.none : Option FieldType)) ∈ lw_tbl := wd_1 24 rfl
theorem wx_25 : (Cond.methodLink "BillShares" (3 : Nat) ({ cls := "java/lang/Object", name := "<init>", desc := "()V" } : MethodName)) ∈ lw_tbl := wd_1 25 rfl
theorem wx_26 : (Cond.instanceMethod ({ cls := "java/lang/Object", name := "<init>", desc := "()V" } : MethodName)) ∈ lw_tbl := wd_1 26 rfl
theorem wx_27 : (Cond.code ({ cls := "java/lang/Object", name := "<init>", desc := "()V" } : MethodName) object_method_1_code (1 : Nat) (Option.none : Option FieldType)) ∈ lw_tbl := wd_1 27 rfl
theorem wx_28 : (Cond.classLink "BillShares" (9 : Nat) "java/util/ArrayList") ∈ lw_tbl := wd_1 28 rfl
theorem wx_29 : (Cond.instantiable "java/util/ArrayList" (3 : Nat)) ∈ lw_tbl := wd_1 29 rfl
theorem wx_30 : (Cond.methodLink "BillShares" (11 : Nat) ({ cls := "java/util/ArrayList", name := "<init>", desc := "()V" } : MethodName)) ∈ lw_tbl := wd_1 30 rfl
theorem wx_31 : (Cond.instanceMethod ({ cls := "java/util/ArrayList", name := "<init>", desc := "()V" } : MethodName)) ∈ lw_tbl := wd_1 31 rfl
theorem wx_32 : (Cond.code ({ cls := "java/util/ArrayList", name := "<init>", desc := "()V" } : MethodName) prog_20_method_2_code (1 : Nat) (Option.none : Option FieldType)) ∈ lw_tbl := wd_1 32 rfl
theorem wx_33 : (Cond.methodLink "java/util/ArrayList" (1 : Nat) ({ cls := "java/util/AbstractList", name := "<init>", desc := "()V" } : MethodName)) ∈ lw_tbl := wd_1 33 rfl
theorem wx_34 : (Cond.instanceMethod ({ cls := "java/util/AbstractList", name := "<init>", desc := "()V" } : MethodName)) ∈ lw_tbl := wd_1 34 rfl
theorem wx_35 : (Cond.code ({ cls := "java/util/AbstractList", name := "<init>", desc := "()V" } : MethodName) prog_19_method_1_code (1 : Nat) (Option.none : Option FieldType)) ∈ lw_tbl := wd_1 35 rfl
theorem wx_36 : (Cond.methodLink "java/util/AbstractList" (1 : Nat) ({ cls := "java/util/AbstractCollection", name := "<init>", desc := "()V" } : MethodName)) ∈ lw_tbl := wd_1 36 rfl
theorem wx_37 : (Cond.instanceMethod ({ cls := "java/util/AbstractCollection", name := "<init>", desc := "()V" } : MethodName)) ∈ lw_tbl := wd_1 37 rfl
theorem wx_38 : (Cond.code ({ cls := "java/util/AbstractCollection", name := "<init>", desc := "()V" } : MethodName) prog_18_method_1_code (1 : Nat) (Option.none : Option FieldType)) ∈ lw_tbl := wd_1 38 rfl
theorem wx_39 : (Cond.methodLink "java/util/AbstractCollection" (1 : Nat) ({ cls := "java/lang/Object", name := "<init>", desc := "()V" } : MethodName)) ∈ lw_tbl := wd_1 39 rfl
theorem wx_40 : (Cond.fieldLink "java/util/ArrayList" (39 : Nat) "java/util/ArrayList" "DEFAULTCAPACITY_EMPTY_ELEMENTDATA" "[Ljava/lang/Object;") ∈ lw_tbl := wd_1 40 rfl
theorem wx_41 : (Cond.laysStatic "java/util/ArrayList" "DEFAULTCAPACITY_EMPTY_ELEMENTDATA" "[Ljava/lang/Object;") ∈ lw_tbl := wd_1 41 rfl
theorem wx_42 : (Cond.fieldLink "java/util/ArrayList" (9 : Nat) "java/util/ArrayList" "elementData" "[Ljava/lang/Object;") ∈ lw_tbl := wd_1 42 rfl
theorem wx_43 : (Cond.fieldLink "java/util/ArrayList" (48 : Nat) "java/util/ArrayList" "size" "I") ∈ lw_tbl := wd_1 43 rfl
theorem wx_44 : (Cond.fieldLink "java/util/AbstractList" (7 : Nat) "java/util/AbstractList" "modCount" "I") ∈ lw_tbl := wd_1 44 rfl
theorem wx_45 : (Cond.fieldLink "java/util/ArrayList" (63 : Nat) "java/util/ArrayList" "modCount" "I") ∈ lw_tbl := wd_1 45 rfl
theorem wx_46 : (Cond.sameField "java/util/ArrayList" "java/util/AbstractList" "modCount" "I") ∈ lw_tbl := wd_1 46 rfl
theorem wx_47 : (Cond.lays "java/util/ArrayList" "java/util/ArrayList" "elementData" "[Ljava/lang/Object;") ∈ lw_tbl := wd_1 47 rfl
theorem wx_49 : (Cond.lays "java/util/ArrayList" "java/util/ArrayList" "size" "I") ∈ lw_tbl := wd_1 49 rfl
theorem wx_51 : (Cond.lays "java/util/ArrayList" "java/util/AbstractList" "modCount" "I") ∈ lw_tbl := wd_1 51 rfl
theorem wx_54 : (Cond.methodLink "BillShares" (32 : Nat) ({ cls := "java/util/Arrays", name := "fill", desc := "([II)V" } : MethodName)) ∈ lw_tbl := wd_1 54 rfl
theorem wx_55 : (Cond.static ({ cls := "java/util/Arrays", name := "fill", desc := "([II)V" } : MethodName)) ∈ lw_tbl := wd_1 55 rfl
theorem wx_56 : (Cond.code ({ cls := "java/util/Arrays", name := "fill", desc := "([II)V" } : MethodName) prog_21_method_103_code (4 : Nat) (Option.none : Option FieldType)) ∈ lw_tbl := wd_1 56 rfl
theorem wx_57 : (Cond.fieldLink "BillShares" (12 : Nat) "BillShares" "flats" "Ljava/util/ArrayList;") ∈ lw_tbl := wd_1 57 rfl
theorem wx_58 : (Cond.fieldLink "BillShares" (16 : Nat) "BillShares" "flatsByRank" "Ljava/util/ArrayList;") ∈ lw_tbl := wd_1 58 rfl
theorem wx_59 : (Cond.fieldLink "BillShares" (19 : Nat) "BillShares" "meters" "Ljava/util/ArrayList;") ∈ lw_tbl := wd_1 59 rfl
theorem wx_60 : (Cond.fieldLink "BillShares" (22 : Nat) "BillShares" "costs" "[I") ∈ lw_tbl := wd_1 60 rfl
theorem wx_61 : (Cond.fieldLink "BillShares" (26 : Nat) "BillShares" "bases" "[I") ∈ lw_tbl := wd_1 61 rfl
theorem wx_62 : (Cond.fieldLink "BillShares" (29 : Nat) "BillShares" "editions" "[I") ∈ lw_tbl := wd_1 62 rfl
theorem wx_63 : (Cond.laysFinal "BillShares" "BillShares" "flats" "Ljava/util/ArrayList;") ∈ lw_tbl := wd_1 63 rfl
theorem wx_65 : (Cond.laysFinal "BillShares" "BillShares" "flatsByRank" "Ljava/util/ArrayList;") ∈ lw_tbl := wd_1 65 rfl
theorem wx_67 : (Cond.laysFinal "BillShares" "BillShares" "meters" "Ljava/util/ArrayList;") ∈ lw_tbl := wd_1 67 rfl
theorem wx_69 : (Cond.laysFinal "BillShares" "BillShares" "costs" "[I") ∈ lw_tbl := wd_1 69 rfl
theorem wx_71 : (Cond.laysFinal "BillShares" "BillShares" "bases" "[I") ∈ lw_tbl := wd_1 71 rfl
theorem wx_73 : (Cond.laysFinal "BillShares" "BillShares" "editions" "[I") ∈ lw_tbl := wd_1 73 rfl
theorem wx_76 : (Cond.arrayClass FieldType.int) ∈ lw_tbl := wd_1 76 rfl
theorem wx_77 : (Cond.methodLink "BillSharesLaw" (82 : Nat) ({ cls := "BillSharesLaw", name := "flat", desc := "(LBillShares;II[J)I" } : MethodName)) ∈ lw_tbl := wd_1 77 rfl
theorem wx_78 : (Cond.static ({ cls := "BillSharesLaw", name := "flat", desc := "(LBillShares;II[J)I" } : MethodName)) ∈ lw_tbl := wd_1 78 rfl
theorem wx_79 : (Cond.codeWith ({ cls := "BillSharesLaw", name := "flat", desc := "(LBillShares;II[J)I" } : MethodName) method_3_code (5 : Nat) (Option.some FieldType.int) [((0 : Nat), (10 : Nat), (13 : Nat), (13 : Nat)), ((0 : Nat), (10 : Nat), (17 : Nat), (15 : Nat))]) ∈ lw_tbl := wd_1 79 rfl
theorem wx_80 : (Cond.classLink "BillSharesLaw" (13 : Nat) "java/lang/IllegalArgumentException") ∈ lw_tbl := wd_1 80 rfl
theorem wx_81 : (Cond.classLink "BillSharesLaw" (15 : Nat) "java/lang/IllegalStateException") ∈ lw_tbl := wd_1 81 rfl
theorem wx_82 : (Cond.methodLink "BillSharesLaw" (7 : Nat) ({ cls := "BillShares", name := "flat", desc := "(II)I" } : MethodName)) ∈ lw_tbl := wd_1 82 rfl
theorem wx_83 : (Cond.instanceMethod ({ cls := "BillShares", name := "flat", desc := "(II)I" } : MethodName)) ∈ lw_tbl := wd_1 83 rfl
theorem wx_84 : (Cond.selects "BillShares" ({ cls := "BillShares", name := "flat", desc := "(II)I" } : MethodName) ({ cls := "BillShares", name := "flat", desc := "(II)I" } : MethodName)) ∈ lw_tbl := wd_1 84 rfl
theorem wx_85 : (Cond.code ({ cls := "BillShares", name := "flat", desc := "(II)I" } : MethodName) prog_1_method_2_code (4 : Nat) (Option.some FieldType.int)) ∈ lw_tbl := wd_1 85 rfl
theorem wx_86 : (Cond.methodLink "BillShares" (38 : Nat) ({ cls := "BillShares", name := "checkBounds", desc := "(III)V" } : MethodName)) ∈ lw_tbl := wd_1 86 rfl
theorem wx_87 : (Cond.static ({ cls := "BillShares", name := "checkBounds", desc := "(III)V" } : MethodName)) ∈ lw_tbl := wd_1 87 rfl
theorem wx_88 : (Cond.code ({ cls := "BillShares", name := "checkBounds", desc := "(III)V" } : MethodName) prog_1_method_21_code (3 : Nat) (Option.none : Option FieldType)) ∈ lw_tbl := wd_1 88 rfl
theorem wx_89 : (Cond.classLink "BillShares" (104 : Nat) "java/lang/IllegalArgumentException") ∈ lw_tbl := wd_1 89 rfl
theorem wx_90 : (Cond.instantiable "java/lang/IllegalArgumentException" (6 : Nat)) ∈ lw_tbl := wd_1 90 rfl
theorem wx_91 : (Cond.castable "java/lang/IllegalArgumentException" "java/lang/IllegalArgumentException") ∈ lw_tbl := wd_1 91 rfl
theorem wx_92 : (Cond.declares ({ cls := "java/lang/RuntimeException", name := "<init>", desc := "()V" } : MethodName)) ∈ lw_tbl := wd_1 92 rfl
theorem wx_93 : (Cond.declares ({ cls := "java/lang/RuntimeException", name := "<init>", desc := "(Ljava/lang/String;)V" } : MethodName)) ∈ lw_tbl := wd_1 93 rfl
theorem wx_94 : (Cond.declares ({ cls := "java/lang/Exception", name := "<init>", desc := "()V" } : MethodName)) ∈ lw_tbl := wd_1 94 rfl
theorem wx_95 : (Cond.declares ({ cls := "java/lang/Exception", name := "<init>", desc := "(Ljava/lang/String;)V" } : MethodName)) ∈ lw_tbl := wd_1 95 rfl
theorem wx_96 : (Cond.declares ({ cls := "java/lang/Throwable", name := "<init>", desc := "()V" } : MethodName)) ∈ lw_tbl := wd_1 96 rfl
theorem wx_97 : (Cond.declares ({ cls := "java/lang/Throwable", name := "<init>", desc := "(Ljava/lang/String;)V" } : MethodName)) ∈ lw_tbl := wd_1 97 rfl
theorem wx_98 : (Cond.selects "java/lang/IllegalArgumentException" ({ cls := "java/lang/Throwable", name := "fillInStackTrace", desc := "(I)Ljava/lang/Throwable;" } : MethodName) ({ cls := "java/lang/Throwable", name := "fillInStackTrace", desc := "(I)Ljava/lang/Throwable;" } : MethodName)) ∈ lw_tbl := wd_1 98 rfl
theorem wx_99 : (Cond.selects "java/lang/IllegalArgumentException" ({ cls := "java/lang/Throwable", name := "fillInStackTrace", desc := "()Ljava/lang/Throwable;" } : MethodName) ({ cls := "java/lang/Throwable", name := "fillInStackTrace", desc := "()Ljava/lang/Throwable;" } : MethodName)) ∈ lw_tbl := wd_1 99 rfl
theorem wx_100 : (Cond.lays "java/lang/IllegalArgumentException" "java/lang/Throwable" "cause" "Ljava/lang/Throwable;") ∈ lw_tbl := wd_1 100 rfl
theorem wx_101 : (Cond.lays "java/lang/Throwable" "java/lang/Throwable" "cause" "Ljava/lang/Throwable;") ∈ lw_tbl := wd_1 101 rfl
theorem wx_102 : (Cond.lays "java/lang/IllegalArgumentException" "java/lang/Throwable" "stackTrace" "[Ljava/lang/StackTraceElement;") ∈ lw_tbl := wd_1 102 rfl
theorem wx_103 : (Cond.lays "java/lang/Throwable" "java/lang/Throwable" "stackTrace" "[Ljava/lang/StackTraceElement;") ∈ lw_tbl := wd_1 103 rfl
theorem wx_104 : (Cond.lays "java/lang/IllegalArgumentException" "java/lang/Throwable" "suppressedExceptions" "Ljava/util/List;") ∈ lw_tbl := wd_1 104 rfl
theorem wx_105 : (Cond.lays "java/lang/Throwable" "java/lang/Throwable" "suppressedExceptions" "Ljava/util/List;") ∈ lw_tbl := wd_1 105 rfl
theorem wx_106 : (Cond.lays "java/lang/IllegalArgumentException" "java/lang/Throwable" "detailMessage" "Ljava/lang/String;") ∈ lw_tbl := wd_1 106 rfl
theorem wx_107 : (Cond.lays "java/lang/Throwable" "java/lang/Throwable" "detailMessage" "Ljava/lang/String;") ∈ lw_tbl := wd_1 107 rfl
theorem wx_108 : (Cond.lays "java/lang/IllegalArgumentException" "java/lang/Throwable" "backtrace" "Ljava/lang/Object;") ∈ lw_tbl := wd_1 108 rfl
theorem wx_109 : (Cond.lays "java/lang/Throwable" "java/lang/Throwable" "backtrace" "Ljava/lang/Object;") ∈ lw_tbl := wd_1 109 rfl
theorem wx_110 : (Cond.fieldLink "java/lang/Throwable" (198 : Nat) "java/lang/Throwable" "backtrace" "Ljava/lang/Object;") ∈ lw_tbl := wd_1 110 rfl
theorem wx_112 : (Cond.instanceMethod ({ cls := "java/lang/Throwable", name := "<init>", desc := "()V" } : MethodName)) ∈ lw_tbl := wd_1 112 rfl
theorem wx_113 : (Cond.code ({ cls := "java/lang/Throwable", name := "<init>", desc := "()V" } : MethodName) prog_17_method_1_code (1 : Nat) (Option.none : Option FieldType)) ∈ lw_tbl := wd_1 113 rfl
theorem wx_114 : (Cond.methodLink "java/lang/Throwable" (1 : Nat) ({ cls := "java/lang/Object", name := "<init>", desc := "()V" } : MethodName)) ∈ lw_tbl := wd_1 114 rfl
theorem wx_115 : (Cond.fieldLink "java/lang/Throwable" (13 : Nat) "java/lang/Throwable" "UNASSIGNED_STACK" "[Ljava/lang/StackTraceElement;") ∈ lw_tbl := wd_1 115 rfl
theorem wx_116 : (Cond.laysStatic "java/lang/Throwable" "UNASSIGNED_STACK" "[Ljava/lang/StackTraceElement;") ∈ lw_tbl := wd_1 116 rfl
theorem wx_117 : (Cond.fieldLink "java/lang/Throwable" (20 : Nat) "java/lang/Throwable" "SUPPRESSED_SENTINEL" "Ljava/util/List;") ∈ lw_tbl := wd_1 117 rfl
theorem wx_118 : (Cond.laysStatic "java/lang/Throwable" "SUPPRESSED_SENTINEL" "Ljava/util/List;") ∈ lw_tbl := wd_1 118 rfl
theorem wx_119 : (Cond.methodLink "java/lang/Throwable" (27 : Nat) ({ cls := "java/lang/Throwable", name := "fillInStackTrace", desc := "()Ljava/lang/Throwable;" } : MethodName)) ∈ lw_tbl := wd_1 119 rfl
theorem wx_120 : (Cond.instanceMethod ({ cls := "java/lang/Throwable", name := "fillInStackTrace", desc := "()Ljava/lang/Throwable;" } : MethodName)) ∈ lw_tbl := wd_1 120 rfl
theorem wx_121 : (Cond.sameMethod "java/lang/Throwable" "java/lang/Throwable" "fillInStackTrace" "()Ljava/lang/Throwable;") ∈ lw_tbl := wd_1 121 rfl
theorem wx_122 : (Cond.selects "java/lang/IllegalStateException" ({ cls := "java/lang/Throwable", name := "fillInStackTrace", desc := "()Ljava/lang/Throwable;" } : MethodName) ({ cls := "java/lang/Throwable", name := "fillInStackTrace", desc := "()Ljava/lang/Throwable;" } : MethodName)) ∈ lw_tbl := wd_1 122 rfl
theorem wx_123 : (Cond.codeSync ({ cls := "java/lang/Throwable", name := "fillInStackTrace", desc := "()Ljava/lang/Throwable;" } : MethodName) prog_17_method_18_code (1 : Nat) (Option.some (FieldType.object "java/lang/Throwable"))) ∈ lw_tbl := wd_1 123 rfl
theorem wx_124 : (Cond.methodLink "java/lang/Throwable" (202 : Nat) ({ cls := "java/lang/Throwable", name := "fillInStackTrace", desc := "(I)Ljava/lang/Throwable;" } : MethodName)) ∈ lw_tbl := wd_1 124 rfl
theorem wx_126 : (Cond.instanceMethod ({ cls := "java/lang/Throwable", name := "fillInStackTrace", desc := "(I)Ljava/lang/Throwable;" } : MethodName)) ∈ lw_tbl := wd_1 126 rfl
theorem wx_127 : (Cond.instantiable "java/lang/Throwable" (6 : Nat)) ∈ lw_tbl := wd_1 127 rfl
theorem wx_128 : (Cond.native ({ cls := "java/lang/Throwable", name := "fillInStackTrace", desc := "(I)Ljava/lang/Throwable;" } : MethodName)) ∈ lw_tbl := wd_1 128 rfl
theorem wx_129 : (Cond.stringRef "BillShares" (194 : Nat) "out of its bounds") ∈ lw_tbl := wd_1 129 rfl
theorem wx_130 : (Cond.methodLink "BillShares" (108 : Nat) ({ cls := "java/lang/IllegalArgumentException", name := "<init>", desc := "(Ljava/lang/String;)V" } : MethodName)) ∈ lw_tbl := wd_1 130 rfl
theorem wx_131 : (Cond.instanceMethod ({ cls := "java/lang/IllegalArgumentException", name := "<init>", desc := "(Ljava/lang/String;)V" } : MethodName)) ∈ lw_tbl := wd_1 131 rfl
theorem wx_132 : (Cond.code ({ cls := "java/lang/IllegalArgumentException", name := "<init>", desc := "(Ljava/lang/String;)V" } : MethodName) prog_10_method_2_code (2 : Nat) (Option.none : Option FieldType)) ∈ lw_tbl := wd_1 132 rfl
theorem wx_133 : (Cond.methodLink "java/lang/IllegalArgumentException" (7 : Nat) ({ cls := "java/lang/RuntimeException", name := "<init>", desc := "(Ljava/lang/String;)V" } : MethodName)) ∈ lw_tbl := wd_1 133 rfl
theorem wx_134 : (Cond.instanceMethod ({ cls := "java/lang/RuntimeException", name := "<init>", desc := "(Ljava/lang/String;)V" } : MethodName)) ∈ lw_tbl := wd_1 134 rfl
theorem wx_135 : (Cond.code ({ cls := "java/lang/RuntimeException", name := "<init>", desc := "(Ljava/lang/String;)V" } : MethodName) prog_14_method_2_code (2 : Nat) (Option.none : Option FieldType)) ∈ lw_tbl := wd_1 135 rfl
theorem wx_136 : (Cond.methodLink "java/lang/RuntimeException" (7 : Nat) ({ cls := "java/lang/Exception", name := "<init>", desc := "(Ljava/lang/String;)V" } : MethodName)) ∈ lw_tbl := wd_1 136 rfl
theorem wx_137 : (Cond.instanceMethod ({ cls := "java/lang/Exception", name := "<init>", desc := "(Ljava/lang/String;)V" } : MethodName)) ∈ lw_tbl := wd_1 137 rfl
theorem wx_138 : (Cond.code ({ cls := "java/lang/Exception", name := "<init>", desc := "(Ljava/lang/String;)V" } : MethodName) prog_9_method_2_code (2 : Nat) (Option.none : Option FieldType)) ∈ lw_tbl := wd_1 138 rfl
theorem wx_139 : (Cond.methodLink "java/lang/Exception" (7 : Nat) ({ cls := "java/lang/Throwable", name := "<init>", desc := "(Ljava/lang/String;)V" } : MethodName)) ∈ lw_tbl := wd_1 139 rfl
theorem wx_140 : (Cond.instanceMethod ({ cls := "java/lang/Throwable", name := "<init>", desc := "(Ljava/lang/String;)V" } : MethodName)) ∈ lw_tbl := wd_1 140 rfl
theorem wx_141 : (Cond.code ({ cls := "java/lang/Throwable", name := "<init>", desc := "(Ljava/lang/String;)V" } : MethodName) prog_17_method_2_code (2 : Nat) (Option.none : Option FieldType)) ∈ lw_tbl := wd_1 141 rfl
theorem wx_142 : (Cond.fieldLink "java/lang/Throwable" (198 : Nat) "java/lang/Throwable" "backtrace" "Ljava/lang/Object;") ∈ lw_tbl := wd_1 142 rfl
theorem wx_143 : (Cond.fieldLink "java/lang/Throwable" (31 : Nat) "java/lang/Throwable" "detailMessage" "Ljava/lang/String;") ∈ lw_tbl := wd_1 143 rfl
theorem wx_144 : (Cond.fieldLink "java/lang/Throwable" (7 : Nat) "java/lang/Throwable" "cause" "Ljava/lang/Throwable;") ∈ lw_tbl := wd_1 144 rfl
theorem wx_145 : (Cond.fieldLink "java/lang/Throwable" (17 : Nat) "java/lang/Throwable" "stackTrace" "[Ljava/lang/StackTraceElement;") ∈ lw_tbl := wd_1 145 rfl
theorem wx_146 : (Cond.fieldLink "java/lang/Throwable" (24 : Nat) "java/lang/Throwable" "suppressedExceptions" "Ljava/util/List;") ∈ lw_tbl := wd_1 146 rfl
theorem wx_151 : (Cond.lays "java/lang/IllegalArgumentException" "java/lang/Throwable" "depth" "I") ∈ lw_tbl := wd_1 151 rfl
theorem wx_155 : (Cond.arrayClass FieldType.byte) ∈ lw_tbl := wd_1 155 rfl
theorem wx_156 : (Cond.methodLink "BillShares" (42 : Nat) ({ cls := "java/util/ArrayList", name := "size", desc := "()I" } : MethodName)) ∈ lw_tbl := wd_1 156 rfl
theorem wx_157 : (Cond.instanceMethod ({ cls := "java/util/ArrayList", name := "size", desc := "()I" } : MethodName)) ∈ lw_tbl := wd_1 157 rfl
theorem wx_158 : (Cond.selects "java/util/ArrayList" ({ cls := "java/util/ArrayList", name := "size", desc := "()I" } : MethodName) ({ cls := "java/util/ArrayList", name := "size", desc := "()I" } : MethodName)) ∈ lw_tbl := wd_1 158 rfl
theorem wx_159 : (Cond.code ({ cls := "java/util/ArrayList", name := "size", desc := "()I" } : MethodName) prog_20_method_8_code (1 : Nat) (Option.some FieldType.int)) ∈ lw_tbl := wd_1 159 rfl
theorem wx_160 : (Cond.classLink "BillShares" (46 : Nat) "java/lang/IllegalStateException") ∈ lw_tbl := wd_1 160 rfl
theorem wx_161 : (Cond.instantiable "java/lang/IllegalStateException" (6 : Nat)) ∈ lw_tbl := wd_1 161 rfl
theorem wx_162 : (Cond.castable "java/lang/IllegalStateException" "java/lang/IllegalStateException") ∈ lw_tbl := wd_1 162 rfl
theorem wx_163 : (Cond.selects "java/lang/IllegalStateException" ({ cls := "java/lang/Throwable", name := "fillInStackTrace", desc := "(I)Ljava/lang/Throwable;" } : MethodName) ({ cls := "java/lang/Throwable", name := "fillInStackTrace", desc := "(I)Ljava/lang/Throwable;" } : MethodName)) ∈ lw_tbl := wd_1 163 rfl
theorem wx_164 : (Cond.lays "java/lang/IllegalStateException" "java/lang/Throwable" "cause" "Ljava/lang/Throwable;") ∈ lw_tbl := wd_1 164 rfl
theorem wx_165 : (Cond.lays "java/lang/IllegalStateException" "java/lang/Throwable" "stackTrace" "[Ljava/lang/StackTraceElement;") ∈ lw_tbl := wd_1 165 rfl
theorem wx_166 : (Cond.lays "java/lang/IllegalStateException" "java/lang/Throwable" "suppressedExceptions" "Ljava/util/List;") ∈ lw_tbl := wd_1 166 rfl
theorem wx_167 : (Cond.lays "java/lang/IllegalStateException" "java/lang/Throwable" "detailMessage" "Ljava/lang/String;") ∈ lw_tbl := wd_1 167 rfl
theorem wx_168 : (Cond.lays "java/lang/IllegalStateException" "java/lang/Throwable" "backtrace" "Ljava/lang/Object;") ∈ lw_tbl := wd_1 168 rfl
theorem wx_169 : (Cond.stringRef "BillShares" (48 : Nat) "there are 20 flats") ∈ lw_tbl := wd_1 169 rfl
theorem wx_170 : (Cond.methodLink "BillShares" (50 : Nat) ({ cls := "java/lang/IllegalStateException", name := "<init>", desc := "(Ljava/lang/String;)V" } : MethodName)) ∈ lw_tbl := wd_1 170 rfl
theorem wx_171 : (Cond.instanceMethod ({ cls := "java/lang/IllegalStateException", name := "<init>", desc := "(Ljava/lang/String;)V" } : MethodName)) ∈ lw_tbl := wd_1 171 rfl
theorem wx_172 : (Cond.code ({ cls := "java/lang/IllegalStateException", name := "<init>", desc := "(Ljava/lang/String;)V" } : MethodName) prog_11_method_2_code (2 : Nat) (Option.none : Option FieldType)) ∈ lw_tbl := wd_1 172 rfl
theorem wx_173 : (Cond.methodLink "java/lang/IllegalStateException" (7 : Nat) ({ cls := "java/lang/RuntimeException", name := "<init>", desc := "(Ljava/lang/String;)V" } : MethodName)) ∈ lw_tbl := wd_1 173 rfl
theorem wx_174 : (Cond.lays "java/lang/IllegalStateException" "java/lang/Throwable" "depth" "I") ∈ lw_tbl := wd_1 174 rfl
theorem wx_176 : (Cond.classLink "BillShares" (53 : Nat) "BillShares$Flat") ∈ lw_tbl := wd_1 176 rfl
theorem wx_177 : (Cond.instantiable "BillShares$Flat" (10 : Nat)) ∈ lw_tbl := wd_1 177 rfl
theorem wx_178 : (Cond.methodLink "BillShares" (55 : Nat) ({ cls := "BillShares$Flat", name := "<init>", desc := "(II)V" } : MethodName)) ∈ lw_tbl := wd_1 178 rfl
theorem wx_179 : (Cond.instanceMethod ({ cls := "BillShares$Flat", name := "<init>", desc := "(II)V" } : MethodName)) ∈ lw_tbl := wd_1 179 rfl
theorem wx_180 : (Cond.code ({ cls := "BillShares$Flat", name := "<init>", desc := "(II)V" } : MethodName) prog_3_method_1_code (3 : Nat) (Option.none : Option FieldType)) ∈ lw_tbl := wd_1 180 rfl
theorem wx_181 : (Cond.methodLink "BillShares$Flat" (3 : Nat) ({ cls := "java/lang/Object", name := "<init>", desc := "()V" } : MethodName)) ∈ lw_tbl := wd_1 181 rfl
theorem wx_182 : (Cond.classLink "BillShares$Flat" (9 : Nat) "java/util/ArrayList") ∈ lw_tbl := wd_1 182 rfl
theorem wx_183 : (Cond.methodLink "BillShares$Flat" (11 : Nat) ({ cls := "java/util/ArrayList", name := "<init>", desc := "()V" } : MethodName)) ∈ lw_tbl := wd_1 183 rfl
theorem wx_184 : (Cond.classLink "BillShares$Flat" (30 : Nat) "BillShares$Bill") ∈ lw_tbl := wd_1 184 rfl
theorem wx_185 : (Cond.arrayOver (FieldType.object "BillShares$Bill")) ∈ lw_tbl := wd_1 185 rfl
theorem wx_186 : (Cond.fieldLink "BillShares$Flat" (36 : Nat) "BillShares$Flat" "area" "I") ∈ lw_tbl := wd_1 186 rfl
theorem wx_187 : (Cond.fieldLink "BillShares" (258 : Nat) "BillShares$Flat" "area" "I") ∈ lw_tbl := wd_1 187 rfl
theorem wx_188 : (Cond.fieldLink "BillShares$Flat" (39 : Nat) "BillShares$Flat" "rank" "I") ∈ lw_tbl := wd_1 188 rfl
theorem wx_189 : (Cond.fieldLink "BillShares" (218 : Nat) "BillShares$Flat" "rank" "I") ∈ lw_tbl := wd_1 189 rfl
theorem wx_190 : (Cond.fieldLink "BillShares$Flat" (12 : Nat) "BillShares$Flat" "meters" "Ljava/util/ArrayList;") ∈ lw_tbl := wd_1 190 rfl
theorem wx_191 : (Cond.fieldLink "BillShares" (87 : Nat) "BillShares$Flat" "meters" "Ljava/util/ArrayList;") ∈ lw_tbl := wd_1 191 rfl
theorem wx_192 : (Cond.fieldLink "BillShares$Flat" (18 : Nat) "BillShares$Flat" "moveDays" "[I") ∈ lw_tbl := wd_1 192 rfl
theorem wx_193 : (Cond.fieldLink "BillShares$Flat" (22 : Nat) "BillShares$Flat" "dwellers" "I") ∈ lw_tbl := wd_1 193 rfl
theorem wx_194 : (Cond.fieldLink "BillShares" (126 : Nat) "BillShares$Flat" "dwellers" "I") ∈ lw_tbl := wd_1 194 rfl
theorem wx_195 : (Cond.fieldLink "BillShares$Flat" (26 : Nat) "BillShares$Flat" "paid" "[J") ∈ lw_tbl := wd_1 195 rfl
theorem wx_196 : (Cond.fieldLink "BillShares" (134 : Nat) "BillShares$Flat" "paid" "[J") ∈ lw_tbl := wd_1 196 rfl
theorem wx_197 : (Cond.fieldLink "BillShares$Flat" (32 : Nat) "BillShares$Flat" "bills" "[LBillShares$Bill;") ∈ lw_tbl := wd_1 197 rfl
theorem wx_198 : (Cond.fieldLink "BillShares" (212 : Nat) "BillShares$Flat" "bills" "[LBillShares$Bill;") ∈ lw_tbl := wd_1 198 rfl
theorem wx_199 : (Cond.fieldLink "BillShares" (264 : Nat) "BillShares$Flat" "told" "Z") ∈ lw_tbl := wd_1 199 rfl
theorem wx_200 : (Cond.fieldLink "BillShares" (261 : Nat) "BillShares$Flat" "weight" "J") ∈ lw_tbl := wd_1 200 rfl
theorem wx_201 : (Cond.fieldLink "BillShares" (252 : Nat) "BillShares$Flat" "dealt" "J") ∈ lw_tbl := wd_1 201 rfl
theorem wx_202 : (Cond.laysFinal "BillShares$Flat" "BillShares$Flat" "area" "I") ∈ lw_tbl := wd_1 202 rfl
theorem wx_204 : (Cond.laysFinal "BillShares$Flat" "BillShares$Flat" "rank" "I") ∈ lw_tbl := wd_1 204 rfl
theorem wx_206 : (Cond.laysFinal "BillShares$Flat" "BillShares$Flat" "meters" "Ljava/util/ArrayList;") ∈ lw_tbl := wd_1 206 rfl
theorem wx_208 : (Cond.laysFinal "BillShares$Flat" "BillShares$Flat" "moveDays" "[I") ∈ lw_tbl := wd_1 208 rfl
theorem wx_210 : (Cond.lays "BillShares$Flat" "BillShares$Flat" "dwellers" "I") ∈ lw_tbl := wd_1 210 rfl
theorem wx_212 : (Cond.laysFinal "BillShares$Flat" "BillShares$Flat" "paid" "[J") ∈ lw_tbl := wd_1 212 rfl
theorem wx_214 : (Cond.laysFinal "BillShares$Flat" "BillShares$Flat" "bills" "[LBillShares$Bill;") ∈ lw_tbl := wd_1 214 rfl
theorem wx_216 : (Cond.lays "BillShares$Flat" "BillShares$Flat" "told" "Z") ∈ lw_tbl := wd_1 216 rfl
theorem wx_218 : (Cond.lays "BillShares$Flat" "BillShares$Flat" "weight" "J") ∈ lw_tbl := wd_1 218 rfl
theorem wx_220 : (Cond.lays "BillShares$Flat" "BillShares$Flat" "dealt" "J") ∈ lw_tbl := wd_1 220 rfl
theorem wx_223 : (Cond.arrayClass FieldType.long) ∈ lw_tbl := wd_1 223 rfl
theorem wx_224 : (Cond.methodLink "BillShares" (58 : Nat) ({ cls := "java/util/ArrayList", name := "add", desc := "(Ljava/lang/Object;)Z" } : MethodName)) ∈ lw_tbl := wd_1 224 rfl
theorem wx_225 : (Cond.instanceMethod ({ cls := "java/util/ArrayList", name := "add", desc := "(Ljava/lang/Object;)Z" } : MethodName)) ∈ lw_tbl := wd_1 225 rfl
theorem wx_226 : (Cond.selects "java/util/ArrayList" ({ cls := "java/util/ArrayList", name := "add", desc := "(Ljava/lang/Object;)Z" } : MethodName) ({ cls := "java/util/ArrayList", name := "add", desc := "(Ljava/lang/Object;)Z" } : MethodName)) ∈ lw_tbl := wd_1 226 rfl
theorem wx_227 : (Cond.code ({ cls := "java/util/ArrayList", name := "add", desc := "(Ljava/lang/Object;)Z" } : MethodName) prog_20_method_25_code (2 : Nat) (Option.some FieldType.boolean)) ∈ lw_tbl := wd_1 227 rfl
theorem wx_228 : (Cond.methodLink "java/util/ArrayList" (131 : Nat) ({ cls := "java/util/ArrayList", name := "add", desc := "(Ljava/lang/Object;[Ljava/lang/Object;I)V" } : MethodName)) ∈ lw_tbl := wd_1 228 rfl
theorem wx_230 : (Cond.instanceMethod ({ cls := "java/util/ArrayList", name := "add", desc := "(Ljava/lang/Object;[Ljava/lang/Object;I)V" } : MethodName)) ∈ lw_tbl := wd_1 230 rfl
theorem wx_231 : (Cond.code ({ cls := "java/util/ArrayList", name := "add", desc := "(Ljava/lang/Object;[Ljava/lang/Object;I)V" } : MethodName) prog_20_method_24_code (4 : Nat) (Option.none : Option FieldType)) ∈ lw_tbl := wd_1 231 rfl
theorem wx_232 : (Cond.methodLink "java/util/ArrayList" (129 : Nat) ({ cls := "java/util/ArrayList", name := "grow", desc := "()[Ljava/lang/Object;" } : MethodName)) ∈ lw_tbl := wd_1 232 rfl
theorem wx_234 : (Cond.instanceMethod ({ cls := "java/util/ArrayList", name := "grow", desc := "()[Ljava/lang/Object;" } : MethodName)) ∈ lw_tbl := wd_1 234 rfl
theorem wx_235 : (Cond.code ({ cls := "java/util/ArrayList", name := "grow", desc := "()[Ljava/lang/Object;" } : MethodName) prog_20_method_7_code (1 : Nat) (Option.some (FieldType.array (FieldType.object "java/lang/Object")))) ∈ lw_tbl := wd_1 235 rfl
theorem wx_236 : (Cond.methodLink "java/util/ArrayList" (69 : Nat) ({ cls := "java/util/ArrayList", name := "grow", desc := "(I)[Ljava/lang/Object;" } : MethodName)) ∈ lw_tbl := wd_1 236 rfl
theorem wx_238 : (Cond.instanceMethod ({ cls := "java/util/ArrayList", name := "grow", desc := "(I)[Ljava/lang/Object;" } : MethodName)) ∈ lw_tbl := wd_1 238 rfl
theorem wx_239 : (Cond.code ({ cls := "java/util/ArrayList", name := "grow", desc := "(I)[Ljava/lang/Object;" } : MethodName) prog_20_method_6_code (4 : Nat) (Option.some (FieldType.array (FieldType.object "java/lang/Object")))) ∈ lw_tbl := wd_1 239 rfl
theorem wx_240 : (Cond.methodLink "java/util/ArrayList" (73 : Nat) ({ cls := "jdk/internal/util/ArraysSupport", name := "newLength", desc := "(III)I" } : MethodName)) ∈ lw_tbl := wd_2 0 rfl
theorem wx_241 : (Cond.static ({ cls := "jdk/internal/util/ArraysSupport", name := "newLength", desc := "(III)I" } : MethodName)) ∈ lw_tbl := wd_2 1 rfl
theorem wx_242 : (Cond.code ({ cls := "jdk/internal/util/ArraysSupport", name := "newLength", desc := "(III)I" } : MethodName) prog_27_method_27_code (4 : Nat) (Option.some FieldType.int)) ∈ lw_tbl := wd_2 2 rfl
theorem wx_243 : (Cond.methodLink "jdk/internal/util/ArraysSupport" (194 : Nat) ({ cls := "java/lang/Math", name := "max", desc := "(II)I" } : MethodName)) ∈ lw_tbl := wd_2 3 rfl
theorem wx_244 : (Cond.static ({ cls := "java/lang/Math", name := "max", desc := "(II)I" } : MethodName)) ∈ lw_tbl := wd_2 4 rfl
theorem wx_245 : (Cond.code ({ cls := "java/lang/Math", name := "max", desc := "(II)I" } : MethodName) prog_13_method_65_code (2 : Nat) (Option.some FieldType.int)) ∈ lw_tbl := wd_2 5 rfl
theorem wx_246 : (Cond.constant "jdk/internal/util/ArraysSupport" (200 : Nat) (2147483639 : Int32)) ∈ lw_tbl := wd_2 6 rfl
theorem wx_247 : (Cond.methodLink "jdk/internal/util/ArraysSupport" (201 : Nat) ({ cls := "jdk/internal/util/ArraysSupport", name := "hugeLength", desc := "(II)I" } : MethodName)) ∈ lw_tbl := wd_2 7 rfl
theorem wx_248 : (Cond.static ({ cls := "jdk/internal/util/ArraysSupport", name := "hugeLength", desc := "(II)I" } : MethodName)) ∈ lw_tbl := wd_2 8 rfl
theorem wx_249 : (Cond.code ({ cls := "jdk/internal/util/ArraysSupport", name := "hugeLength", desc := "(II)I" } : MethodName) prog_27_method_28_code (3 : Nat) (Option.some FieldType.int)) ∈ lw_tbl := wd_2 9 rfl
theorem wx_250 : (Cond.methodLink "java/util/ArrayList" (66 : Nat) ({ cls := "java/util/Arrays", name := "copyOf", desc := "([Ljava/lang/Object;I)[Ljava/lang/Object;" } : MethodName)) ∈ lw_tbl := wd_2 10 rfl
theorem wx_251 : (Cond.static ({ cls := "java/util/Arrays", name := "copyOf", desc := "([Ljava/lang/Object;I)[Ljava/lang/Object;" } : MethodName)) ∈ lw_tbl := wd_2 11 rfl
theorem wx_252 : (Cond.code ({ cls := "java/util/Arrays", name := "copyOf", desc := "([Ljava/lang/Object;I)[Ljava/lang/Object;" } : MethodName) prog_21_method_119_code (2 : Nat) (Option.some (FieldType.array (FieldType.object "java/lang/Object")))) ∈ lw_tbl := wd_2 12 rfl
theorem wx_253 : (Cond.methodLink "java/util/Arrays" (86 : Nat) ({ cls := "java/lang/Object", name := "getClass", desc := "()Ljava/lang/Class;" } : MethodName)) ∈ lw_tbl := wd_2 13 rfl
theorem wx_254 : (Cond.instanceMethod ({ cls := "java/lang/Object", name := "getClass", desc := "()Ljava/lang/Class;" } : MethodName)) ∈ lw_tbl := wd_2 14 rfl
theorem wx_255 : (Cond.sameMethod "java/lang/Object" "java/lang/Object" "getClass" "()Ljava/lang/Class;") ∈ lw_tbl := wd_2 15 rfl
theorem wx_256 : (Cond.selects "BillShares" ({ cls := "java/lang/Object", name := "getClass", desc := "()Ljava/lang/Class;" } : MethodName) ({ cls := "java/lang/Object", name := "getClass", desc := "()Ljava/lang/Class;" } : MethodName)) ∈ lw_tbl := wd_2 16 rfl
theorem wx_257 : (Cond.selects "BillShares$Bill" ({ cls := "java/lang/Object", name := "getClass", desc := "()Ljava/lang/Class;" } : MethodName) ({ cls := "java/lang/Object", name := "getClass", desc := "()Ljava/lang/Class;" } : MethodName)) ∈ lw_tbl := wd_2 17 rfl
theorem wx_258 : (Cond.selects "BillShares$Flat" ({ cls := "java/lang/Object", name := "getClass", desc := "()Ljava/lang/Class;" } : MethodName) ({ cls := "java/lang/Object", name := "getClass", desc := "()Ljava/lang/Class;" } : MethodName)) ∈ lw_tbl := wd_2 18 rfl
theorem wx_259 : (Cond.selects "BillShares$Meter" ({ cls := "java/lang/Object", name := "getClass", desc := "()Ljava/lang/Class;" } : MethodName) ({ cls := "java/lang/Object", name := "getClass", desc := "()Ljava/lang/Class;" } : MethodName)) ∈ lw_tbl := wd_2 19 rfl
theorem wx_260 : (Cond.selects "BillSharesModel" ({ cls := "java/lang/Object", name := "getClass", desc := "()Ljava/lang/Class;" } : MethodName) ({ cls := "java/lang/Object", name := "getClass", desc := "()Ljava/lang/Class;" } : MethodName)) ∈ lw_tbl := wd_2 20 rfl
theorem wx_261 : (Cond.selects "java/lang/IllegalArgumentException" ({ cls := "java/lang/Object", name := "getClass", desc := "()Ljava/lang/Class;" } : MethodName) ({ cls := "java/lang/Object", name := "getClass", desc := "()Ljava/lang/Class;" } : MethodName)) ∈ lw_tbl := wd_2 21 rfl
theorem wx_262 : (Cond.selects "java/lang/IllegalStateException" ({ cls := "java/lang/Object", name := "getClass", desc := "()Ljava/lang/Class;" } : MethodName) ({ cls := "java/lang/Object", name := "getClass", desc := "()Ljava/lang/Class;" } : MethodName)) ∈ lw_tbl := wd_2 22 rfl
theorem wx_263 : (Cond.selects "java/util/ArrayList" ({ cls := "java/lang/Object", name := "getClass", desc := "()Ljava/lang/Class;" } : MethodName) ({ cls := "java/lang/Object", name := "getClass", desc := "()Ljava/lang/Class;" } : MethodName)) ∈ lw_tbl := wd_2 23 rfl
theorem wx_264 : (Cond.native ({ cls := "java/lang/Object", name := "getClass", desc := "()Ljava/lang/Class;" } : MethodName)) ∈ lw_tbl := wd_2 24 rfl
theorem wx_265 : (Cond.methodLink "java/util/Arrays" (300 : Nat) ({ cls := "java/util/Arrays", name := "copyOf", desc := "([Ljava/lang/Object;ILjava/lang/Class;)[Ljava/lang/Object;" } : MethodName)) ∈ lw_tbl := wd_2 25 rfl
theorem wx_266 : (Cond.static ({ cls := "java/util/Arrays", name := "copyOf", desc := "([Ljava/lang/Object;ILjava/lang/Class;)[Ljava/lang/Object;" } : MethodName)) ∈ lw_tbl := wd_2 26 rfl
theorem wx_267 : (Cond.code ({ cls := "java/util/Arrays", name := "copyOf", desc := "([Ljava/lang/Object;ILjava/lang/Class;)[Ljava/lang/Object;" } : MethodName) prog_21_method_120_code (4 : Nat) (Option.some (FieldType.array (FieldType.object "java/lang/Object")))) ∈ lw_tbl := wd_2 27 rfl
theorem wx_268 : (Cond.classLink "java/util/Arrays" (110 : Nat) "[Ljava/lang/Object;") ∈ lw_tbl := wd_2 28 rfl
theorem wx_269 : (Cond.arrayOver (FieldType.object "java/lang/Object")) ∈ lw_tbl := wd_2 29 rfl
theorem wx_270 : (Cond.classLink "java/util/Arrays" (2 : Nat) "java/lang/Object") ∈ lw_tbl := wd_2 30 rfl
theorem wx_271 : (Cond.methodLink "java/util/Arrays" (304 : Nat) ({ cls := "java/lang/Math", name := "min", desc := "(II)I" } : MethodName)) ∈ lw_tbl := wd_2 31 rfl
theorem wx_272 : (Cond.static ({ cls := "java/lang/Math", name := "min", desc := "(II)I" } : MethodName)) ∈ lw_tbl := wd_2 32 rfl
theorem wx_273 : (Cond.code ({ cls := "java/lang/Math", name := "min", desc := "(II)I" } : MethodName) prog_13_method_69_code (2 : Nat) (Option.some FieldType.int)) ∈ lw_tbl := wd_2 33 rfl
theorem wx_274 : (Cond.methodLink "java/util/Arrays" (150 : Nat) ({ cls := "java/lang/System", name := "arraycopy", desc := "(Ljava/lang/Object;ILjava/lang/Object;II)V" } : MethodName)) ∈ lw_tbl := wd_2 34 rfl
theorem wx_275 : (Cond.static ({ cls := "java/lang/System", name := "arraycopy", desc := "(Ljava/lang/Object;ILjava/lang/Object;II)V" } : MethodName)) ∈ lw_tbl := wd_2 35 rfl
theorem wx_276 : (Cond.native ({ cls := "java/lang/System", name := "arraycopy", desc := "(Ljava/lang/Object;ILjava/lang/Object;II)V" } : MethodName)) ∈ lw_tbl := wd_2 36 rfl
theorem wx_277 : (Cond.methodLink "java/util/ArrayList" (79 : Nat) ({ cls := "java/lang/Math", name := "max", desc := "(II)I" } : MethodName)) ∈ lw_tbl := wd_2 37 rfl
theorem wx_278 : (Cond.classLink "java/util/ArrayList" (7 : Nat) "java/lang/Object") ∈ lw_tbl := wd_2 38 rfl
theorem wx_279 : (Cond.methodLink "BillShares" (62 : Nat) ({ cls := "BillShares", name := "placeByRank", desc := "(I)I" } : MethodName)) ∈ lw_tbl := wd_2 39 rfl
theorem wx_281 : (Cond.instanceMethod ({ cls := "BillShares", name := "placeByRank", desc := "(I)I" } : MethodName)) ∈ lw_tbl := wd_2 41 rfl
theorem wx_282 : (Cond.code ({ cls := "BillShares", name := "placeByRank", desc := "(I)I" } : MethodName) prog_1_method_31_code (3 : Nat) (Option.some FieldType.int)) ∈ lw_tbl := wd_2 42 rfl
theorem wx_283 : (Cond.methodLink "BillShares" (204 : Nat) ({ cls := "java/util/ArrayList", name := "get", desc := "(I)Ljava/lang/Object;" } : MethodName)) ∈ lw_tbl := wd_2 43 rfl
theorem wx_284 : (Cond.instanceMethod ({ cls := "java/util/ArrayList", name := "get", desc := "(I)Ljava/lang/Object;" } : MethodName)) ∈ lw_tbl := wd_2 44 rfl
theorem wx_285 : (Cond.selects "java/util/ArrayList" ({ cls := "java/util/ArrayList", name := "get", desc := "(I)Ljava/lang/Object;" } : MethodName) ({ cls := "java/util/ArrayList", name := "get", desc := "(I)Ljava/lang/Object;" } : MethodName)) ∈ lw_tbl := wd_2 45 rfl
theorem wx_286 : (Cond.code ({ cls := "java/util/ArrayList", name := "get", desc := "(I)Ljava/lang/Object;" } : MethodName) prog_20_method_20_code (2 : Nat) (Option.some (FieldType.object "java/lang/Object"))) ∈ lw_tbl := wd_2 46 rfl
theorem wx_287 : (Cond.methodLink "java/util/ArrayList" (118 : Nat) ({ cls := "java/util/Objects", name := "checkIndex", desc := "(II)I" } : MethodName)) ∈ lw_tbl := wd_2 47 rfl
theorem wx_288 : (Cond.static ({ cls := "java/util/Objects", name := "checkIndex", desc := "(II)I" } : MethodName)) ∈ lw_tbl := wd_2 48 rfl
theorem wx_289 : (Cond.code ({ cls := "java/util/Objects", name := "checkIndex", desc := "(II)I" } : MethodName) prog_24_method_17_code (2 : Nat) (Option.some FieldType.int)) ∈ lw_tbl := wd_2 49 rfl
theorem wx_290 : (Cond.methodLink "java/util/Objects" (105 : Nat) ({ cls := "jdk/internal/util/Preconditions", name := "checkIndex", desc := "(IILjava/util/function/BiFunction;)I" } : MethodName)) ∈ lw_tbl := wd_2 50 rfl
theorem wx_291 : (Cond.static ({ cls := "jdk/internal/util/Preconditions", name := "checkIndex", desc := "(IILjava/util/function/BiFunction;)I" } : MethodName)) ∈ lw_tbl := wd_2 51 rfl
theorem wx_292 : (Cond.code ({ cls := "jdk/internal/util/Preconditions", name := "checkIndex", desc := "(IILjava/util/function/BiFunction;)I" } : MethodName) prog_28_method_11_code (3 : Nat) (Option.some FieldType.int)) ∈ lw_tbl := wd_2 52 rfl
theorem wx_293 : (Cond.methodLink "java/util/ArrayList" (123 : Nat) ({ cls := "java/util/ArrayList", name := "elementData", desc := "(I)Ljava/lang/Object;" } : MethodName)) ∈ lw_tbl := wd_2 53 rfl
theorem wx_294 : (Cond.instanceMethod ({ cls := "java/util/ArrayList", name := "elementData", desc := "(I)Ljava/lang/Object;" } : MethodName)) ∈ lw_tbl := wd_2 54 rfl
theorem wx_295 : (Cond.selects "java/util/ArrayList" ({ cls := "java/util/ArrayList", name := "elementData", desc := "(I)Ljava/lang/Object;" } : MethodName) ({ cls := "java/util/ArrayList", name := "elementData", desc := "(I)Ljava/lang/Object;" } : MethodName)) ∈ lw_tbl := wd_2 55 rfl
theorem wx_296 : (Cond.code ({ cls := "java/util/ArrayList", name := "elementData", desc := "(I)Ljava/lang/Object;" } : MethodName) prog_20_method_18_code (2 : Nat) (Option.some (FieldType.object "java/lang/Object"))) ∈ lw_tbl := wd_2 56 rfl
theorem wx_297 : (Cond.methodLink "BillShares" (66 : Nat) ({ cls := "java/util/ArrayList", name := "add", desc := "(ILjava/lang/Object;)V" } : MethodName)) ∈ lw_tbl := wd_2 57 rfl
theorem wx_298 : (Cond.instanceMethod ({ cls := "java/util/ArrayList", name := "add", desc := "(ILjava/lang/Object;)V" } : MethodName)) ∈ lw_tbl := wd_2 58 rfl
theorem wx_299 : (Cond.selects "java/util/ArrayList" ({ cls := "java/util/ArrayList", name := "add", desc := "(ILjava/lang/Object;)V" } : MethodName) ({ cls := "java/util/ArrayList", name := "add", desc := "(ILjava/lang/Object;)V" } : MethodName)) ∈ lw_tbl := wd_2 59 rfl
theorem wx_300 : (Cond.code ({ cls := "java/util/ArrayList", name := "add", desc := "(ILjava/lang/Object;)V" } : MethodName) prog_20_method_26_code (5 : Nat) (Option.none : Option FieldType)) ∈ lw_tbl := wd_2 60 rfl
theorem wx_301 : (Cond.methodLink "java/util/ArrayList" (135 : Nat) ({ cls := "java/util/ArrayList", name := "rangeCheckForAdd", desc := "(I)V" } : MethodName)) ∈ lw_tbl := wd_2 61 rfl
theorem wx_303 : (Cond.instanceMethod ({ cls := "java/util/ArrayList", name := "rangeCheckForAdd", desc := "(I)V" } : MethodName)) ∈ lw_tbl := wd_2 63 rfl
theorem wx_304 : (Cond.code ({ cls := "java/util/ArrayList", name := "rangeCheckForAdd", desc := "(I)V" } : MethodName) prog_20_method_45_code (2 : Nat) (Option.none : Option FieldType)) ∈ lw_tbl := wd_2 64 rfl
theorem wx_305 : (Cond.methodLink "java/util/ArrayList" (112 : Nat) ({ cls := "java/lang/System", name := "arraycopy", desc := "(Ljava/lang/Object;ILjava/lang/Object;II)V" } : MethodName)) ∈ lw_tbl := wd_2 65 rfl
theorem wx_306 : (Cond.methodLink "BillSharesLaw" (92 : Nat) ({ cls := "BillSharesLaw", name := "meter", desc := "(LBillShares;IIIII[J)I" } : MethodName)) ∈ lw_tbl := wd_2 66 rfl
theorem wx_307 : (Cond.static ({ cls := "BillSharesLaw", name := "meter", desc := "(LBillShares;IIIII[J)I" } : MethodName)) ∈ lw_tbl := wd_2 67 rfl
theorem wx_308 : (Cond.codeWith ({ cls := "BillSharesLaw", name := "meter", desc := "(LBillShares;IIIII[J)I" } : MethodName) method_4_code (8 : Nat) (Option.some FieldType.int) [((0 : Nat), (16 : Nat), (19 : Nat), (13 : Nat)), ((0 : Nat), (16 : Nat), (23 : Nat), (15 : Nat))]) ∈ lw_tbl := wd_2 68 rfl
theorem wx_309 : (Cond.methodLink "BillSharesLaw" (17 : Nat) ({ cls := "BillShares", name := "meter", desc := "(IIIII)I" } : MethodName)) ∈ lw_tbl := wd_2 69 rfl
theorem wx_310 : (Cond.instanceMethod ({ cls := "BillShares", name := "meter", desc := "(IIIII)I" } : MethodName)) ∈ lw_tbl := wd_2 70 rfl
theorem wx_311 : (Cond.selects "BillShares" ({ cls := "BillShares", name := "meter", desc := "(IIIII)I" } : MethodName) ({ cls := "BillShares", name := "meter", desc := "(IIIII)I" } : MethodName)) ∈ lw_tbl := wd_2 71 rfl
theorem wx_312 : (Cond.code ({ cls := "BillShares", name := "meter", desc := "(IIIII)I" } : MethodName) prog_1_method_3_code (8 : Nat) (Option.some FieldType.int)) ∈ lw_tbl := wd_2 72 rfl
theorem wx_313 : (Cond.methodLink "BillShares" (69 : Nat) ({ cls := "BillShares", name := "flatAt", desc := "(I)LBillShares$Flat;" } : MethodName)) ∈ lw_tbl := wd_2 73 rfl
theorem wx_315 : (Cond.instanceMethod ({ cls := "BillShares", name := "flatAt", desc := "(I)LBillShares$Flat;" } : MethodName)) ∈ lw_tbl := wd_2 75 rfl
theorem wx_316 : (Cond.code ({ cls := "BillShares", name := "flatAt", desc := "(I)LBillShares$Flat;" } : MethodName) prog_1_method_28_code (2 : Nat) (Option.some (FieldType.object "BillShares$Flat"))) ∈ lw_tbl := wd_2 76 rfl
theorem wx_317 : (Cond.stringRef "BillShares" (202 : Nat) "no such flat") ∈ lw_tbl := wd_2 77 rfl
theorem wx_318 : (Cond.methodLink "BillShares" (73 : Nat) ({ cls := "BillShares", name := "checkKind", desc := "(I)V" } : MethodName)) ∈ lw_tbl := wd_2 78 rfl
theorem wx_319 : (Cond.static ({ cls := "BillShares", name := "checkKind", desc := "(I)V" } : MethodName)) ∈ lw_tbl := wd_2 79 rfl
theorem wx_320 : (Cond.code ({ cls := "BillShares", name := "checkKind", desc := "(I)V" } : MethodName) prog_1_method_24_code (1 : Nat) (Option.none : Option FieldType)) ∈ lw_tbl := wd_2 80 rfl
theorem wx_321 : (Cond.methodLink "BillShares" (77 : Nat) ({ cls := "BillShares", name := "checkDay", desc := "(I)V" } : MethodName)) ∈ lw_tbl := wd_2 81 rfl
theorem wx_322 : (Cond.static ({ cls := "BillShares", name := "checkDay", desc := "(I)V" } : MethodName)) ∈ lw_tbl := wd_2 82 rfl
theorem wx_323 : (Cond.code ({ cls := "BillShares", name := "checkDay", desc := "(I)V" } : MethodName) prog_1_method_22_code (1 : Nat) (Option.none : Option FieldType)) ∈ lw_tbl := wd_2 83 rfl
theorem wx_324 : (Cond.stringRef "BillShares" (80 : Nat) "there are 60 meters") ∈ lw_tbl := wd_2 84 rfl
theorem wx_325 : (Cond.classLink "BillShares" (82 : Nat) "BillShares$Meter") ∈ lw_tbl := wd_2 85 rfl
theorem wx_326 : (Cond.instantiable "BillShares$Meter" (8 : Nat)) ∈ lw_tbl := wd_2 86 rfl
theorem wx_327 : (Cond.methodLink "BillShares" (84 : Nat) ({ cls := "BillShares$Meter", name := "<init>", desc := "(IIII)V" } : MethodName)) ∈ lw_tbl := wd_2 87 rfl
theorem wx_328 : (Cond.instanceMethod ({ cls := "BillShares$Meter", name := "<init>", desc := "(IIII)V" } : MethodName)) ∈ lw_tbl := wd_2 88 rfl
theorem wx_329 : (Cond.code ({ cls := "BillShares$Meter", name := "<init>", desc := "(IIII)V" } : MethodName) prog_4_method_1_code (5 : Nat) (Option.none : Option FieldType)) ∈ lw_tbl := wd_2 89 rfl
theorem wx_330 : (Cond.methodLink "BillShares$Meter" (3 : Nat) ({ cls := "java/lang/Object", name := "<init>", desc := "()V" } : MethodName)) ∈ lw_tbl := wd_2 90 rfl
theorem wx_331 : (Cond.fieldLink "BillShares$Meter" (25 : Nat) "BillShares$Meter" "kind" "I") ∈ lw_tbl := wd_2 91 rfl
theorem wx_332 : (Cond.fieldLink "BillShares$Flat" (60 : Nat) "BillShares$Meter" "kind" "I") ∈ lw_tbl := wd_2 92 rfl
theorem wx_333 : (Cond.fieldLink "BillShares$Meter" (28 : Nat) "BillShares$Meter" "above" "I") ∈ lw_tbl := wd_2 93 rfl
theorem wx_334 : (Cond.fieldLink "BillShares$Meter" (31 : Nat) "BillShares$Meter" "below" "I") ∈ lw_tbl := wd_2 94 rfl
theorem wx_335 : (Cond.fieldLink "BillShares$Meter" (34 : Nat) "BillShares$Meter" "testedTo" "I") ∈ lw_tbl := wd_2 95 rfl
theorem wx_336 : (Cond.fieldLink "BillShares" (113 : Nat) "BillShares$Meter" "testedTo" "I") ∈ lw_tbl := wd_2 96 rfl
theorem wx_337 : (Cond.fieldLink "BillShares$Meter" (9 : Nat) "BillShares$Meter" "readings" "I") ∈ lw_tbl := wd_2 97 rfl
theorem wx_338 : (Cond.fieldLink "BillShares" (226 : Nat) "BillShares$Meter" "readings" "I") ∈ lw_tbl := wd_2 98 rfl
theorem wx_339 : (Cond.fieldLink "BillShares$Meter" (15 : Nat) "BillShares$Meter" "days" "[I") ∈ lw_tbl := wd_2 99 rfl
theorem wx_340 : (Cond.fieldLink "BillShares$Meter" (19 : Nat) "BillShares$Meter" "values" "[I") ∈ lw_tbl := wd_2 100 rfl
theorem wx_341 : (Cond.fieldLink "BillShares$Meter" (22 : Nat) "BillShares$Meter" "starts" "[I") ∈ lw_tbl := wd_2 101 rfl
theorem wx_342 : (Cond.laysFinal "BillShares$Meter" "BillShares$Meter" "kind" "I") ∈ lw_tbl := wd_2 102 rfl
theorem wx_344 : (Cond.laysFinal "BillShares$Meter" "BillShares$Meter" "above" "I") ∈ lw_tbl := wd_2 104 rfl
theorem wx_346 : (Cond.laysFinal "BillShares$Meter" "BillShares$Meter" "below" "I") ∈ lw_tbl := wd_2 106 rfl
theorem wx_348 : (Cond.lays "BillShares$Meter" "BillShares$Meter" "testedTo" "I") ∈ lw_tbl := wd_2 108 rfl
theorem wx_350 : (Cond.lays "BillShares$Meter" "BillShares$Meter" "readings" "I") ∈ lw_tbl := wd_2 110 rfl
theorem wx_352 : (Cond.laysFinal "BillShares$Meter" "BillShares$Meter" "days" "[I") ∈ lw_tbl := wd_2 112 rfl
theorem wx_354 : (Cond.laysFinal "BillShares$Meter" "BillShares$Meter" "values" "[I") ∈ lw_tbl := wd_2 114 rfl
theorem wx_356 : (Cond.laysFinal "BillShares$Meter" "BillShares$Meter" "starts" "[I") ∈ lw_tbl := wd_2 116 rfl
theorem wx_359 : (Cond.methodLink "BillSharesLaw" (96 : Nat) ({ cls := "BillSharesLaw", name := "reading", desc := "(LBillShares;III[J)I" } : MethodName)) ∈ lw_tbl := wd_2 119 rfl
theorem wx_360 : (Cond.static ({ cls := "BillSharesLaw", name := "reading", desc := "(LBillShares;III[J)I" } : MethodName)) ∈ lw_tbl := wd_2 120 rfl
theorem wx_361 : (Cond.codeWith ({ cls := "BillSharesLaw", name := "reading", desc := "(LBillShares;III[J)I" } : MethodName) method_5_code (6 : Nat) (Option.some FieldType.int) [((0 : Nat), (12 : Nat), (15 : Nat), (13 : Nat)), ((0 : Nat), (12 : Nat), (19 : Nat), (15 : Nat))]) ∈ lw_tbl := wd_2 121 rfl
theorem wx_362 : (Cond.methodLink "BillSharesLaw" (21 : Nat) ({ cls := "BillShares", name := "reading", desc := "(III)I" } : MethodName)) ∈ lw_tbl := wd_2 122 rfl
theorem wx_363 : (Cond.instanceMethod ({ cls := "BillShares", name := "reading", desc := "(III)I" } : MethodName)) ∈ lw_tbl := wd_2 123 rfl
theorem wx_364 : (Cond.selects "BillShares" ({ cls := "BillShares", name := "reading", desc := "(III)I" } : MethodName) ({ cls := "BillShares", name := "reading", desc := "(III)I" } : MethodName)) ∈ lw_tbl := wd_2 124 rfl
theorem wx_365 : (Cond.code ({ cls := "BillShares", name := "reading", desc := "(III)I" } : MethodName) prog_1_method_4_code (4 : Nat) (Option.some FieldType.int)) ∈ lw_tbl := wd_2 125 rfl
theorem wx_366 : (Cond.methodLink "BillShares" (88 : Nat) ({ cls := "BillShares", name := "addReading", desc := "(IIII)I" } : MethodName)) ∈ lw_tbl := wd_2 126 rfl
theorem wx_368 : (Cond.instanceMethod ({ cls := "BillShares", name := "addReading", desc := "(IIII)I" } : MethodName)) ∈ lw_tbl := wd_2 128 rfl
theorem wx_369 : (Cond.code ({ cls := "BillShares", name := "addReading", desc := "(IIII)I" } : MethodName) prog_1_method_32_code (6 : Nat) (Option.some FieldType.int)) ∈ lw_tbl := wd_2 129 rfl
theorem wx_370 : (Cond.methodLink "BillShares" (93 : Nat) ({ cls := "BillShares", name := "meterAt", desc := "(I)LBillShares$Meter;" } : MethodName)) ∈ lw_tbl := wd_2 130 rfl
theorem wx_372 : (Cond.instanceMethod ({ cls := "BillShares", name := "meterAt", desc := "(I)LBillShares$Meter;" } : MethodName)) ∈ lw_tbl := wd_2 132 rfl
theorem wx_373 : (Cond.code ({ cls := "BillShares", name := "meterAt", desc := "(I)LBillShares$Meter;" } : MethodName) prog_1_method_29_code (2 : Nat) (Option.some (FieldType.object "BillShares$Meter"))) ∈ lw_tbl := wd_2 133 rfl
theorem wx_374 : (Cond.stringRef "BillShares" (208 : Nat) "no such meter") ∈ lw_tbl := wd_2 134 rfl
theorem wx_375 : (Cond.constant "BillShares" (92 : Nat) (10000000 : Int32)) ∈ lw_tbl := wd_2 135 rfl
theorem wx_376 : (Cond.methodLink "BillShares" (221 : Nat) ({ cls := "BillShares$Meter", name := "mayEndWith", desc := "(II)Z" } : MethodName)) ∈ lw_tbl := wd_2 136 rfl
theorem wx_377 : (Cond.instanceMethod ({ cls := "BillShares$Meter", name := "mayEndWith", desc := "(II)Z" } : MethodName)) ∈ lw_tbl := wd_2 137 rfl
theorem wx_378 : (Cond.selects "BillShares$Meter" ({ cls := "BillShares$Meter", name := "mayEndWith", desc := "(II)Z" } : MethodName) ({ cls := "BillShares$Meter", name := "mayEndWith", desc := "(II)Z" } : MethodName)) ∈ lw_tbl := wd_2 138 rfl
theorem wx_379 : (Cond.code ({ cls := "BillShares$Meter", name := "mayEndWith", desc := "(II)Z" } : MethodName) prog_4_method_2_code (3 : Nat) (Option.some FieldType.boolean)) ∈ lw_tbl := wd_2 139 rfl
theorem wx_380 : (Cond.methodLink "BillShares$Meter" (37 : Nat) ({ cls := "BillShares$Meter", name := "valueBehind", desc := "(I)I" } : MethodName)) ∈ lw_tbl := wd_2 140 rfl
theorem wx_381 : (Cond.instanceMethod ({ cls := "BillShares$Meter", name := "valueBehind", desc := "(I)I" } : MethodName)) ∈ lw_tbl := wd_2 141 rfl
theorem wx_382 : (Cond.selects "BillShares$Meter" ({ cls := "BillShares$Meter", name := "valueBehind", desc := "(I)I" } : MethodName) ({ cls := "BillShares$Meter", name := "valueBehind", desc := "(I)I" } : MethodName)) ∈ lw_tbl := wd_2 142 rfl
theorem wx_383 : (Cond.code ({ cls := "BillShares$Meter", name := "valueBehind", desc := "(I)I" } : MethodName) prog_4_method_7_code (2 : Nat) (Option.some FieldType.int)) ∈ lw_tbl := wd_2 143 rfl
theorem wx_384 : (Cond.stringRef "BillShares" (224 : Nat) "not behind the latest reading, or less than it") ∈ lw_tbl := wd_2 144 rfl
theorem wx_385 : (Cond.stringRef "BillShares" (229 : Nat) "the meter has 40 readings") ∈ lw_tbl := wd_2 145 rfl
theorem wx_386 : (Cond.methodLink "BillShares" (231 : Nat) ({ cls := "BillShares$Meter", name := "append", desc := "(III)I" } : MethodName)) ∈ lw_tbl := wd_2 146 rfl
theorem wx_387 : (Cond.instanceMethod ({ cls := "BillShares$Meter", name := "append", desc := "(III)I" } : MethodName)) ∈ lw_tbl := wd_2 147 rfl
theorem wx_388 : (Cond.selects "BillShares$Meter" ({ cls := "BillShares$Meter", name := "append", desc := "(III)I" } : MethodName) ({ cls := "BillShares$Meter", name := "append", desc := "(III)I" } : MethodName)) ∈ lw_tbl := wd_2 148 rfl
theorem wx_389 : (Cond.code ({ cls := "BillShares$Meter", name := "append", desc := "(III)I" } : MethodName) prog_4_method_3_code (4 : Nat) (Option.some FieldType.int)) ∈ lw_tbl := wd_2 149 rfl
theorem wx_390 : (Cond.methodLink "BillSharesLaw" (100 : Nat) ({ cls := "BillSharesLaw", name := "changed", desc := "(LBillShares;IIII[J)I" } : MethodName)) ∈ lw_tbl := wd_2 150 rfl
theorem wx_391 : (Cond.static ({ cls := "BillSharesLaw", name := "changed", desc := "(LBillShares;IIII[J)I" } : MethodName)) ∈ lw_tbl := wd_2 151 rfl
theorem wx_392 : (Cond.codeWith ({ cls := "BillSharesLaw", name := "changed", desc := "(LBillShares;IIII[J)I" } : MethodName) method_6_code (7 : Nat) (Option.some FieldType.int) [((0 : Nat), (14 : Nat), (17 : Nat), (13 : Nat)), ((0 : Nat), (14 : Nat), (21 : Nat), (15 : Nat))]) ∈ lw_tbl := wd_2 152 rfl
theorem wx_393 : (Cond.methodLink "BillSharesLaw" (25 : Nat) ({ cls := "BillShares", name := "changed", desc := "(IIII)I" } : MethodName)) ∈ lw_tbl := wd_2 153 rfl
theorem wx_394 : (Cond.instanceMethod ({ cls := "BillShares", name := "changed", desc := "(IIII)I" } : MethodName)) ∈ lw_tbl := wd_2 154 rfl
theorem wx_395 : (Cond.selects "BillShares" ({ cls := "BillShares", name := "changed", desc := "(IIII)I" } : MethodName) ({ cls := "BillShares", name := "changed", desc := "(IIII)I" } : MethodName)) ∈ lw_tbl := wd_2 155 rfl
theorem wx_396 : (Cond.code ({ cls := "BillShares", name := "changed", desc := "(IIII)I" } : MethodName) prog_1_method_5_code (5 : Nat) (Option.some FieldType.int)) ∈ lw_tbl := wd_2 156 rfl
theorem wx_397 : (Cond.methodLink "BillSharesLaw" (104 : Nat) ({ cls := "BillSharesLaw", name := "correct", desc := "(LBillShares;III[J)I" } : MethodName)) ∈ lw_tbl := wd_2 157 rfl
theorem wx_398 : (Cond.static ({ cls := "BillSharesLaw", name := "correct", desc := "(LBillShares;III[J)I" } : MethodName)) ∈ lw_tbl := wd_2 158 rfl
theorem wx_399 : (Cond.codeWith ({ cls := "BillSharesLaw", name := "correct", desc := "(LBillShares;III[J)I" } : MethodName) method_7_code (6 : Nat) (Option.some FieldType.int) [((0 : Nat), (12 : Nat), (15 : Nat), (13 : Nat))]) ∈ lw_tbl := wd_2 159 rfl
theorem wx_400 : (Cond.methodLink "BillSharesLaw" (29 : Nat) ({ cls := "BillShares", name := "correct", desc := "(III)I" } : MethodName)) ∈ lw_tbl := wd_2 160 rfl
theorem wx_401 : (Cond.instanceMethod ({ cls := "BillShares", name := "correct", desc := "(III)I" } : MethodName)) ∈ lw_tbl := wd_2 161 rfl
theorem wx_402 : (Cond.selects "BillShares" ({ cls := "BillShares", name := "correct", desc := "(III)I" } : MethodName) ({ cls := "BillShares", name := "correct", desc := "(III)I" } : MethodName)) ∈ lw_tbl := wd_2 162 rfl
theorem wx_403 : (Cond.code ({ cls := "BillShares", name := "correct", desc := "(III)I" } : MethodName) prog_1_method_6_code (6 : Nat) (Option.some FieldType.int)) ∈ lw_tbl := wd_2 163 rfl
theorem wx_404 : (Cond.methodLink "BillShares" (97 : Nat) ({ cls := "BillShares$Meter", name := "indexOfDay", desc := "(I)I" } : MethodName)) ∈ lw_tbl := wd_2 164 rfl
theorem wx_405 : (Cond.instanceMethod ({ cls := "BillShares$Meter", name := "indexOfDay", desc := "(I)I" } : MethodName)) ∈ lw_tbl := wd_2 165 rfl
theorem wx_406 : (Cond.selects "BillShares$Meter" ({ cls := "BillShares$Meter", name := "indexOfDay", desc := "(I)I" } : MethodName) ({ cls := "BillShares$Meter", name := "indexOfDay", desc := "(I)I" } : MethodName)) ∈ lw_tbl := wd_2 166 rfl
theorem wx_407 : (Cond.code ({ cls := "BillShares$Meter", name := "indexOfDay", desc := "(I)I" } : MethodName) prog_4_method_4_code (3 : Nat) (Option.some FieldType.int)) ∈ lw_tbl := wd_2 167 rfl
theorem wx_408 : (Cond.methodLink "BillShares" (100 : Nat) ({ cls := "BillShares$Meter", name := "fits", desc := "(II)Z" } : MethodName)) ∈ lw_tbl := wd_2 168 rfl
theorem wx_409 : (Cond.instanceMethod ({ cls := "BillShares$Meter", name := "fits", desc := "(II)Z" } : MethodName)) ∈ lw_tbl := wd_2 169 rfl
theorem wx_410 : (Cond.selects "BillShares$Meter" ({ cls := "BillShares$Meter", name := "fits", desc := "(II)Z" } : MethodName) ({ cls := "BillShares$Meter", name := "fits", desc := "(II)Z" } : MethodName)) ∈ lw_tbl := wd_2 170 rfl
theorem wx_411 : (Cond.code ({ cls := "BillShares$Meter", name := "fits", desc := "(II)Z" } : MethodName) prog_4_method_5_code (5 : Nat) (Option.some FieldType.boolean)) ∈ lw_tbl := wd_2 171 rfl
theorem wx_412 : (Cond.stringRef "BillShares" (106 : Nat) "no reading at this day, or values would fall") ∈ lw_tbl := wd_2 172 rfl
theorem wx_413 : (Cond.methodLink "BillShares" (109 : Nat) ({ cls := "BillShares$Meter", name := "replaceValue", desc := "(II)I" } : MethodName)) ∈ lw_tbl := wd_2 173 rfl
theorem wx_414 : (Cond.instanceMethod ({ cls := "BillShares$Meter", name := "replaceValue", desc := "(II)I" } : MethodName)) ∈ lw_tbl := wd_2 174 rfl
theorem wx_415 : (Cond.selects "BillShares$Meter" ({ cls := "BillShares$Meter", name := "replaceValue", desc := "(II)I" } : MethodName) ({ cls := "BillShares$Meter", name := "replaceValue", desc := "(II)I" } : MethodName)) ∈ lw_tbl := wd_2 175 rfl
theorem wx_416 : (Cond.code ({ cls := "BillShares$Meter", name := "replaceValue", desc := "(II)I" } : MethodName) prog_4_method_6_code (4 : Nat) (Option.some FieldType.int)) ∈ lw_tbl := wd_2 176 rfl
theorem wx_417 : (Cond.methodLink "BillSharesLaw" (107 : Nat) ({ cls := "BillSharesLaw", name := "tested", desc := "(LBillShares;II[J)I" } : MethodName)) ∈ lw_tbl := wd_2 177 rfl
theorem wx_418 : (Cond.static ({ cls := "BillSharesLaw", name := "tested", desc := "(LBillShares;II[J)I" } : MethodName)) ∈ lw_tbl := wd_2 178 rfl
theorem wx_419 : (Cond.codeWith ({ cls := "BillSharesLaw", name := "tested", desc := "(LBillShares;II[J)I" } : MethodName) method_8_code (5 : Nat) (Option.some FieldType.int) [((0 : Nat), (10 : Nat), (13 : Nat), (13 : Nat))]) ∈ lw_tbl := wd_2 179 rfl
theorem wx_420 : (Cond.methodLink "BillSharesLaw" (32 : Nat) ({ cls := "BillShares", name := "tested", desc := "(II)I" } : MethodName)) ∈ lw_tbl := wd_2 180 rfl
theorem wx_421 : (Cond.instanceMethod ({ cls := "BillShares", name := "tested", desc := "(II)I" } : MethodName)) ∈ lw_tbl := wd_2 181 rfl
theorem wx_422 : (Cond.selects "BillShares" ({ cls := "BillShares", name := "tested", desc := "(II)I" } : MethodName) ({ cls := "BillShares", name := "tested", desc := "(II)I" } : MethodName)) ∈ lw_tbl := wd_2 182 rfl
theorem wx_423 : (Cond.code ({ cls := "BillShares", name := "tested", desc := "(II)I" } : MethodName) prog_1_method_7_code (5 : Nat) (Option.some FieldType.int)) ∈ lw_tbl := wd_2 183 rfl
theorem wx_424 : (Cond.methodLink "BillSharesLaw" (110 : Nat) ({ cls := "BillSharesLaw", name := "cost", desc := "(LBillShares;III[J)I" } : MethodName)) ∈ lw_tbl := wd_2 184 rfl
theorem wx_425 : (Cond.static ({ cls := "BillSharesLaw", name := "cost", desc := "(LBillShares;III[J)I" } : MethodName)) ∈ lw_tbl := wd_2 185 rfl
theorem wx_426 : (Cond.codeWith ({ cls := "BillSharesLaw", name := "cost", desc := "(LBillShares;III[J)I" } : MethodName) method_9_code (6 : Nat) (Option.some FieldType.int) [((0 : Nat), (12 : Nat), (15 : Nat), (13 : Nat))]) ∈ lw_tbl := wd_2 186 rfl
theorem wx_427 : (Cond.methodLink "BillSharesLaw" (35 : Nat) ({ cls := "BillShares", name := "cost", desc := "(III)I" } : MethodName)) ∈ lw_tbl := wd_2 187 rfl
theorem wx_428 : (Cond.instanceMethod ({ cls := "BillShares", name := "cost", desc := "(III)I" } : MethodName)) ∈ lw_tbl := wd_2 188 rfl
theorem wx_429 : (Cond.selects "BillShares" ({ cls := "BillShares", name := "cost", desc := "(III)I" } : MethodName) ({ cls := "BillShares", name := "cost", desc := "(III)I" } : MethodName)) ∈ lw_tbl := wd_2 189 rfl
theorem wx_430 : (Cond.code ({ cls := "BillShares", name := "cost", desc := "(III)I" } : MethodName) prog_1_method_8_code (6 : Nat) (Option.some FieldType.int)) ∈ lw_tbl := wd_2 190 rfl
theorem wx_431 : (Cond.methodLink "BillShares" (117 : Nat) ({ cls := "BillShares", name := "checkYear", desc := "(I)V" } : MethodName)) ∈ lw_tbl := wd_2 191 rfl
theorem wx_432 : (Cond.static ({ cls := "BillShares", name := "checkYear", desc := "(I)V" } : MethodName)) ∈ lw_tbl := wd_2 192 rfl
theorem wx_433 : (Cond.code ({ cls := "BillShares", name := "checkYear", desc := "(I)V" } : MethodName) prog_1_method_23_code (1 : Nat) (Option.none : Option FieldType)) ∈ lw_tbl := wd_2 193 rfl
theorem wx_434 : (Cond.constant "BillShares" (120 : Nat) (1000000000 : Int32)) ∈ lw_tbl := wd_2 194 rfl
theorem wx_435 : (Cond.methodLink "BillSharesLaw" (113 : Nat) ({ cls := "BillSharesLaw", name := "base", desc := "(LBillShares;II[J)I" } : MethodName)) ∈ lw_tbl := wd_2 195 rfl
theorem wx_436 : (Cond.static ({ cls := "BillSharesLaw", name := "base", desc := "(LBillShares;II[J)I" } : MethodName)) ∈ lw_tbl := wd_2 196 rfl
theorem wx_437 : (Cond.codeWith ({ cls := "BillSharesLaw", name := "base", desc := "(LBillShares;II[J)I" } : MethodName) method_10_code (5 : Nat) (Option.some FieldType.int) [((0 : Nat), (10 : Nat), (13 : Nat), (13 : Nat))]) ∈ lw_tbl := wd_2 197 rfl
theorem wx_438 : (Cond.methodLink "BillSharesLaw" (38 : Nat) ({ cls := "BillShares", name := "base", desc := "(II)I" } : MethodName)) ∈ lw_tbl := wd_2 198 rfl
theorem wx_439 : (Cond.instanceMethod ({ cls := "BillShares", name := "base", desc := "(II)I" } : MethodName)) ∈ lw_tbl := wd_2 199 rfl
theorem wx_440 : (Cond.selects "BillShares" ({ cls := "BillShares", name := "base", desc := "(II)I" } : MethodName) ({ cls := "BillShares", name := "base", desc := "(II)I" } : MethodName)) ∈ lw_tbl := wd_2 200 rfl
theorem wx_441 : (Cond.code ({ cls := "BillShares", name := "base", desc := "(II)I" } : MethodName) prog_1_method_9_code (4 : Nat) (Option.some FieldType.int)) ∈ lw_tbl := wd_2 201 rfl
theorem wx_442 : (Cond.methodLink "BillSharesLaw" (116 : Nat) ({ cls := "BillSharesLaw", name := "moves", desc := "(LBillShares;II[J)I" } : MethodName)) ∈ lw_tbl := wd_2 202 rfl
theorem wx_443 : (Cond.static ({ cls := "BillSharesLaw", name := "moves", desc := "(LBillShares;II[J)I" } : MethodName)) ∈ lw_tbl := wd_2 203 rfl
theorem wx_444 : (Cond.codeWith ({ cls := "BillSharesLaw", name := "moves", desc := "(LBillShares;II[J)I" } : MethodName) method_11_code (5 : Nat) (Option.some FieldType.int) [((0 : Nat), (10 : Nat), (13 : Nat), (13 : Nat)), ((0 : Nat), (10 : Nat), (17 : Nat), (15 : Nat))]) ∈ lw_tbl := wd_2 204 rfl
theorem wx_445 : (Cond.methodLink "BillSharesLaw" (41 : Nat) ({ cls := "BillShares", name := "moves", desc := "(II)I" } : MethodName)) ∈ lw_tbl := wd_2 205 rfl
theorem wx_446 : (Cond.instanceMethod ({ cls := "BillShares", name := "moves", desc := "(II)I" } : MethodName)) ∈ lw_tbl := wd_2 206 rfl
theorem wx_447 : (Cond.selects "BillShares" ({ cls := "BillShares", name := "moves", desc := "(II)I" } : MethodName) ({ cls := "BillShares", name := "moves", desc := "(II)I" } : MethodName)) ∈ lw_tbl := wd_2 207 rfl
theorem wx_448 : (Cond.code ({ cls := "BillShares", name := "moves", desc := "(II)I" } : MethodName) prog_1_method_10_code (4 : Nat) (Option.some FieldType.int)) ∈ lw_tbl := wd_2 208 rfl
theorem wx_449 : (Cond.methodLink "BillShares" (121 : Nat) ({ cls := "BillShares$Flat", name := "latestMove", desc := "()I" } : MethodName)) ∈ lw_tbl := wd_2 209 rfl
theorem wx_450 : (Cond.instanceMethod ({ cls := "BillShares$Flat", name := "latestMove", desc := "()I" } : MethodName)) ∈ lw_tbl := wd_2 210 rfl
theorem wx_451 : (Cond.selects "BillShares$Flat" ({ cls := "BillShares$Flat", name := "latestMove", desc := "()I" } : MethodName) ({ cls := "BillShares$Flat", name := "latestMove", desc := "()I" } : MethodName)) ∈ lw_tbl := wd_2 211 rfl
theorem wx_452 : (Cond.code ({ cls := "BillShares$Flat", name := "latestMove", desc := "()I" } : MethodName) prog_3_method_2_code (1 : Nat) (Option.some FieldType.int)) ∈ lw_tbl := wd_2 212 rfl
theorem wx_453 : (Cond.methodLink "BillShares$Flat" (42 : Nat) ({ cls := "BillShares$Flat", name := "movedIn", desc := "(I)I" } : MethodName)) ∈ lw_tbl := wd_2 213 rfl
theorem wx_454 : (Cond.instanceMethod ({ cls := "BillShares$Flat", name := "movedIn", desc := "(I)I" } : MethodName)) ∈ lw_tbl := wd_2 214 rfl
theorem wx_455 : (Cond.selects "BillShares$Flat" ({ cls := "BillShares$Flat", name := "movedIn", desc := "(I)I" } : MethodName) ({ cls := "BillShares$Flat", name := "movedIn", desc := "(I)I" } : MethodName)) ∈ lw_tbl := wd_2 215 rfl
theorem wx_456 : (Cond.code ({ cls := "BillShares$Flat", name := "movedIn", desc := "(I)I" } : MethodName) prog_3_method_4_code (2 : Nat) (Option.some FieldType.int)) ∈ lw_tbl := wd_2 216 rfl
theorem wx_457 : (Cond.stringRef "BillShares" (124 : Nat) "not behind the day of the one before") ∈ lw_tbl := wd_2 217 rfl
theorem wx_458 : (Cond.stringRef "BillShares" (129 : Nat) "there were 12 in this flat") ∈ lw_tbl := wd_2 218 rfl
theorem wx_459 : (Cond.methodLink "BillShares" (131 : Nat) ({ cls := "BillShares$Flat", name := "takeIn", desc := "(I)I" } : MethodName)) ∈ lw_tbl := wd_2 219 rfl
theorem wx_460 : (Cond.instanceMethod ({ cls := "BillShares$Flat", name := "takeIn", desc := "(I)I" } : MethodName)) ∈ lw_tbl := wd_2 220 rfl
theorem wx_461 : (Cond.selects "BillShares$Flat" ({ cls := "BillShares$Flat", name := "takeIn", desc := "(I)I" } : MethodName) ({ cls := "BillShares$Flat", name := "takeIn", desc := "(I)I" } : MethodName)) ∈ lw_tbl := wd_2 221 rfl
theorem wx_462 : (Cond.code ({ cls := "BillShares$Flat", name := "takeIn", desc := "(I)I" } : MethodName) prog_3_method_3_code (2 : Nat) (Option.some FieldType.int)) ∈ lw_tbl := wd_2 222 rfl
theorem wx_463 : (Cond.methodLink "BillSharesLaw" (119 : Nat) ({ cls := "BillSharesLaw", name := "prepaid", desc := "(LBillShares;III[J)I" } : MethodName)) ∈ lw_tbl := wd_2 223 rfl
theorem wx_464 : (Cond.static ({ cls := "BillSharesLaw", name := "prepaid", desc := "(LBillShares;III[J)I" } : MethodName)) ∈ lw_tbl := wd_2 224 rfl
theorem wx_465 : (Cond.codeWith ({ cls := "BillSharesLaw", name := "prepaid", desc := "(LBillShares;III[J)I" } : MethodName) method_12_code (6 : Nat) (Option.some FieldType.int) [((0 : Nat), (11 : Nat), (14 : Nat), (13 : Nat))]) ∈ lw_tbl := wd_2 225 rfl
theorem wx_466 : (Cond.methodLink "BillSharesLaw" (44 : Nat) ({ cls := "BillShares", name := "prepaid", desc := "(III)J" } : MethodName)) ∈ lw_tbl := wd_2 226 rfl
theorem wx_467 : (Cond.instanceMethod ({ cls := "BillShares", name := "prepaid", desc := "(III)J" } : MethodName)) ∈ lw_tbl := wd_2 227 rfl
theorem wx_468 : (Cond.selects "BillShares" ({ cls := "BillShares", name := "prepaid", desc := "(III)J" } : MethodName) ({ cls := "BillShares", name := "prepaid", desc := "(III)J" } : MethodName)) ∈ lw_tbl := wd_2 228 rfl
theorem wx_469 : (Cond.code ({ cls := "BillShares", name := "prepaid", desc := "(III)J" } : MethodName) prog_1_method_11_code (5 : Nat) (Option.some FieldType.long)) ∈ lw_tbl := wd_2 229 rfl
theorem wx_470 : (Cond.methodLink "BillSharesLaw" (122 : Nat) ({ cls := "BillSharesLaw", name := "run", desc := "(LBillShares;I[J)I" } : MethodName)) ∈ lw_tbl := wd_2 230 rfl
theorem wx_471 : (Cond.static ({ cls := "BillSharesLaw", name := "run", desc := "(LBillShares;I[J)I" } : MethodName)) ∈ lw_tbl := wd_2 231 rfl
theorem wx_472 : (Cond.codeWith ({ cls := "BillSharesLaw", name := "run", desc := "(LBillShares;I[J)I" } : MethodName) method_13_code (4 : Nat) (Option.some FieldType.int) [((0 : Nat), (9 : Nat), (12 : Nat), (13 : Nat)), ((0 : Nat), (9 : Nat), (15 : Nat), (15 : Nat))]) ∈ lw_tbl := wd_2 232 rfl
theorem wx_473 : (Cond.methodLink "BillSharesLaw" (48 : Nat) ({ cls := "BillShares", name := "run", desc := "(I)I" } : MethodName)) ∈ lw_tbl := wd_2 233 rfl
theorem wx_474 : (Cond.instanceMethod ({ cls := "BillShares", name := "run", desc := "(I)I" } : MethodName)) ∈ lw_tbl := wd_2 234 rfl
theorem wx_475 : (Cond.selects "BillShares" ({ cls := "BillShares", name := "run", desc := "(I)I" } : MethodName) ({ cls := "BillShares", name := "run", desc := "(I)I" } : MethodName)) ∈ lw_tbl := wd_2 235 rfl
theorem wx_476 : (Cond.code ({ cls := "BillShares", name := "run", desc := "(I)I" } : MethodName) prog_1_method_12_code (3 : Nat) (Option.some FieldType.int)) ∈ lw_tbl := wd_2 236 rfl
theorem wx_477 : (Cond.methodLink "BillShares" (138 : Nat) ({ cls := "java/util/ArrayList", name := "isEmpty", desc := "()Z" } : MethodName)) ∈ lw_tbl := wd_2 237 rfl
theorem wx_478 : (Cond.instanceMethod ({ cls := "java/util/ArrayList", name := "isEmpty", desc := "()Z" } : MethodName)) ∈ lw_tbl := wd_2 238 rfl
theorem wx_479 : (Cond.selects "java/util/ArrayList" ({ cls := "java/util/ArrayList", name := "isEmpty", desc := "()Z" } : MethodName) ({ cls := "java/util/ArrayList", name := "isEmpty", desc := "()Z" } : MethodName)) ∈ lw_tbl := wd_2 239 rfl
theorem wx_480 : (Cond.code ({ cls := "java/util/ArrayList", name := "isEmpty", desc := "()Z" } : MethodName) prog_20_method_9_code (1 : Nat) (Option.some FieldType.boolean)) ∈ lw_tbl := wd_3 0 rfl
theorem wx_481 : (Cond.stringRef "BillShares" (142 : Nat) "no flats, or 50 editions") ∈ lw_tbl := wd_3 1 rfl
theorem wx_482 : (Cond.methodLink "BillShares" (144 : Nat) ({ cls := "BillShares", name := "openBills", desc := "(I)V" } : MethodName)) ∈ lw_tbl := wd_3 2 rfl
theorem wx_484 : (Cond.instanceMethod ({ cls := "BillShares", name := "openBills", desc := "(I)V" } : MethodName)) ∈ lw_tbl := wd_3 4 rfl
theorem wx_485 : (Cond.code ({ cls := "BillShares", name := "openBills", desc := "(I)V" } : MethodName) prog_1_method_33_code (4 : Nat) (Option.none : Option FieldType)) ∈ lw_tbl := wd_3 5 rfl
theorem wx_486 : (Cond.methodLink "BillShares" (235 : Nat) ({ cls := "BillShares$Flat", name := "billOf", desc := "(I)LBillShares$Bill;" } : MethodName)) ∈ lw_tbl := wd_3 6 rfl
theorem wx_487 : (Cond.instanceMethod ({ cls := "BillShares$Flat", name := "billOf", desc := "(I)LBillShares$Bill;" } : MethodName)) ∈ lw_tbl := wd_3 7 rfl
theorem wx_488 : (Cond.selects "BillShares$Flat" ({ cls := "BillShares$Flat", name := "billOf", desc := "(I)LBillShares$Bill;" } : MethodName) ({ cls := "BillShares$Flat", name := "billOf", desc := "(I)LBillShares$Bill;" } : MethodName)) ∈ lw_tbl := wd_3 8 rfl
theorem wx_489 : (Cond.code ({ cls := "BillShares$Flat", name := "billOf", desc := "(I)LBillShares$Bill;" } : MethodName) prog_3_method_7_code (2 : Nat) (Option.some (FieldType.object "BillShares$Bill"))) ∈ lw_tbl := wd_3 9 rfl
theorem wx_490 : (Cond.instantiable "BillShares$Bill" (3 : Nat)) ∈ lw_tbl := wd_3 10 rfl
theorem wx_491 : (Cond.methodLinkNest "BillShares$Flat" (49 : Nat) ({ cls := "BillShares$Bill", name := "<init>", desc := "()V" } : MethodName) "BillShares") ∈ lw_tbl := wd_3 11 rfl
theorem wx_492 : (Cond.instanceMethod ({ cls := "BillShares$Bill", name := "<init>", desc := "()V" } : MethodName)) ∈ lw_tbl := wd_3 12 rfl
theorem wx_493 : (Cond.code ({ cls := "BillShares$Bill", name := "<init>", desc := "()V" } : MethodName) prog_2_method_1_code (1 : Nat) (Option.none : Option FieldType)) ∈ lw_tbl := wd_3 13 rfl
theorem wx_494 : (Cond.methodLink "BillShares$Bill" (3 : Nat) ({ cls := "java/lang/Object", name := "<init>", desc := "()V" } : MethodName)) ∈ lw_tbl := wd_3 14 rfl
theorem wx_495 : (Cond.fieldLink "BillShares$Bill" (9 : Nat) "BillShares$Bill" "base" "[J") ∈ lw_tbl := wd_3 15 rfl
theorem wx_496 : (Cond.fieldLink "BillShares" (171 : Nat) "BillShares$Bill" "base" "[J") ∈ lw_tbl := wd_3 16 rfl
theorem wx_497 : (Cond.fieldLink "BillShares$Bill" (15 : Nat) "BillShares$Bill" "used" "[J") ∈ lw_tbl := wd_3 17 rfl
theorem wx_498 : (Cond.fieldLink "BillShares" (176 : Nat) "BillShares$Bill" "used" "[J") ∈ lw_tbl := wd_3 18 rfl
theorem wx_499 : (Cond.fieldLink "BillShares$Bill" (18 : Nat) "BillShares$Bill" "before" "J") ∈ lw_tbl := wd_3 19 rfl
theorem wx_500 : (Cond.fieldLink "BillShares" (190 : Nat) "BillShares$Bill" "before" "J") ∈ lw_tbl := wd_3 20 rfl
theorem wx_501 : (Cond.laysFinal "BillShares$Bill" "BillShares$Bill" "base" "[J") ∈ lw_tbl := wd_3 21 rfl
theorem wx_503 : (Cond.laysFinal "BillShares$Bill" "BillShares$Bill" "used" "[J") ∈ lw_tbl := wd_3 23 rfl
theorem wx_505 : (Cond.lays "BillShares$Bill" "BillShares$Bill" "before" "J") ∈ lw_tbl := wd_3 25 rfl
theorem wx_508 : (Cond.methodLink "BillShares" (179 : Nat) ({ cls := "BillShares$Bill", name := "total", desc := "()J" } : MethodName)) ∈ lw_tbl := wd_3 28 rfl
theorem wx_509 : (Cond.instanceMethod ({ cls := "BillShares$Bill", name := "total", desc := "()J" } : MethodName)) ∈ lw_tbl := wd_3 29 rfl
theorem wx_510 : (Cond.selects "BillShares$Bill" ({ cls := "BillShares$Bill", name := "total", desc := "()J" } : MethodName) ({ cls := "BillShares$Bill", name := "total", desc := "()J" } : MethodName)) ∈ lw_tbl := wd_3 30 rfl
theorem wx_511 : (Cond.code ({ cls := "BillShares$Bill", name := "total", desc := "()J" } : MethodName) prog_2_method_2_code (4 : Nat) (Option.some FieldType.long)) ∈ lw_tbl := wd_3 31 rfl
theorem wx_512 : (Cond.methodLink "BillShares" (147 : Nat) ({ cls := "BillShares", name := "shareOut", desc := "(II)V" } : MethodName)) ∈ lw_tbl := wd_3 32 rfl
theorem wx_514 : (Cond.instanceMethod ({ cls := "BillShares", name := "shareOut", desc := "(II)V" } : MethodName)) ∈ lw_tbl := wd_3 34 rfl
theorem wx_515 : (Cond.code ({ cls := "BillShares", name := "shareOut", desc := "(II)V" } : MethodName) prog_1_method_34_code (9 : Nat) (Option.none : Option FieldType)) ∈ lw_tbl := wd_3 35 rfl
theorem wx_516 : (Cond.constantLong "BillShares" (239 : Nat) (100 : Int64)) ∈ lw_tbl := wd_3 36 rfl
theorem wx_517 : (Cond.methodLink "BillShares" (241 : Nat) ({ cls := "BillShares", name := "portion", desc := "(JJJ)J" } : MethodName)) ∈ lw_tbl := wd_3 37 rfl
theorem wx_518 : (Cond.static ({ cls := "BillShares", name := "portion", desc := "(JJJ)J" } : MethodName)) ∈ lw_tbl := wd_3 38 rfl
theorem wx_519 : (Cond.code ({ cls := "BillShares", name := "portion", desc := "(JJJ)J" } : MethodName) prog_1_method_27_code (13 : Nat) (Option.some FieldType.long)) ∈ lw_tbl := wd_3 39 rfl
theorem wx_520 : (Cond.constantLong "BillShares" (196 : Nat) (8589934591 : Int64)) ∈ lw_tbl := wd_3 40 rfl
theorem wx_521 : (Cond.constantLong "BillShares" (198 : Nat) (8 : Int64)) ∈ lw_tbl := wd_3 41 rfl
theorem wx_522 : (Cond.constantLong "BillShares" (200 : Nat) (7 : Int64)) ∈ lw_tbl := wd_3 42 rfl
theorem wx_523 : (Cond.methodLink "BillShares" (245 : Nat) ({ cls := "BillShares", name := "weighByArea", desc := "()V" } : MethodName)) ∈ lw_tbl := wd_3 43 rfl
theorem wx_525 : (Cond.instanceMethod ({ cls := "BillShares", name := "weighByArea", desc := "()V" } : MethodName)) ∈ lw_tbl := wd_3 45 rfl
theorem wx_526 : (Cond.code ({ cls := "BillShares", name := "weighByArea", desc := "()V" } : MethodName) prog_1_method_35_code (3 : Nat) (Option.none : Option FieldType)) ∈ lw_tbl := wd_3 46 rfl
theorem wx_527 : (Cond.methodLink "BillShares" (248 : Nat) ({ cls := "BillShares", name := "dealOut", desc := "(J)V" } : MethodName)) ∈ lw_tbl := wd_3 47 rfl
theorem wx_529 : (Cond.instanceMethod ({ cls := "BillShares", name := "dealOut", desc := "(J)V" } : MethodName)) ∈ lw_tbl := wd_3 49 rfl
theorem wx_530 : (Cond.code ({ cls := "BillShares", name := "dealOut", desc := "(J)V" } : MethodName) prog_1_method_38_code (9 : Nat) (Option.none : Option FieldType)) ∈ lw_tbl := wd_3 50 rfl
theorem wx_531 : (Cond.methodLink "BillShares" (271 : Nat) ({ cls := "BillShares", name := "sumOfWeights", desc := "()J" } : MethodName)) ∈ lw_tbl := wd_3 51 rfl
theorem wx_533 : (Cond.instanceMethod ({ cls := "BillShares", name := "sumOfWeights", desc := "()J" } : MethodName)) ∈ lw_tbl := wd_3 53 rfl
theorem wx_534 : (Cond.code ({ cls := "BillShares", name := "sumOfWeights", desc := "()J" } : MethodName) prog_1_method_37_code (4 : Nat) (Option.some FieldType.long)) ∈ lw_tbl := wd_3 54 rfl
theorem wx_535 : (Cond.methodLink "BillShares" (255 : Nat) ({ cls := "BillShares", name := "weighByUse", desc := "(II)V" } : MethodName)) ∈ lw_tbl := wd_3 55 rfl
theorem wx_537 : (Cond.instanceMethod ({ cls := "BillShares", name := "weighByUse", desc := "(II)V" } : MethodName)) ∈ lw_tbl := wd_3 57 rfl
theorem wx_538 : (Cond.code ({ cls := "BillShares", name := "weighByUse", desc := "(II)V" } : MethodName) prog_1_method_36_code (9 : Nat) (Option.none : Option FieldType)) ∈ lw_tbl := wd_3 58 rfl
theorem wx_539 : (Cond.methodLink "BillShares" (165 : Nat) ({ cls := "BillShares$Flat", name := "whyBarred", desc := "(II)I" } : MethodName)) ∈ lw_tbl := wd_3 59 rfl
theorem wx_540 : (Cond.instanceMethod ({ cls := "BillShares$Flat", name := "whyBarred", desc := "(II)I" } : MethodName)) ∈ lw_tbl := wd_3 60 rfl
theorem wx_541 : (Cond.selects "BillShares$Flat" ({ cls := "BillShares$Flat", name := "whyBarred", desc := "(II)I" } : MethodName) ({ cls := "BillShares$Flat", name := "whyBarred", desc := "(II)I" } : MethodName)) ∈ lw_tbl := wd_3 61 rfl
theorem wx_542 : (Cond.code ({ cls := "BillShares$Flat", name := "whyBarred", desc := "(II)I" } : MethodName) prog_3_method_8_code (7 : Nat) (Option.some FieldType.int)) ∈ lw_tbl := wd_3 62 rfl
theorem wx_543 : (Cond.methodLink "BillShares$Flat" (50 : Nat) ({ cls := "java/util/ArrayList", name := "size", desc := "()I" } : MethodName)) ∈ lw_tbl := wd_3 63 rfl
theorem wx_544 : (Cond.methodLink "BillShares$Flat" (54 : Nat) ({ cls := "java/util/ArrayList", name := "get", desc := "(I)Ljava/lang/Object;" } : MethodName)) ∈ lw_tbl := wd_3 64 rfl
theorem wx_545 : (Cond.classLink "BillShares$Flat" (58 : Nat) "BillShares$Meter") ∈ lw_tbl := wd_3 65 rfl
theorem wx_546 : (Cond.methodLink "BillShares$Flat" (63 : Nat) ({ cls := "BillShares$Meter", name := "whyBarred", desc := "(I)I" } : MethodName)) ∈ lw_tbl := wd_3 66 rfl
theorem wx_547 : (Cond.instanceMethod ({ cls := "BillShares$Meter", name := "whyBarred", desc := "(I)I" } : MethodName)) ∈ lw_tbl := wd_3 67 rfl
theorem wx_548 : (Cond.selects "BillShares$Meter" ({ cls := "BillShares$Meter", name := "whyBarred", desc := "(I)I" } : MethodName) ({ cls := "BillShares$Meter", name := "whyBarred", desc := "(I)I" } : MethodName)) ∈ lw_tbl := wd_3 68 rfl
theorem wx_549 : (Cond.code ({ cls := "BillShares$Meter", name := "whyBarred", desc := "(I)I" } : MethodName) prog_4_method_8_code (2 : Nat) (Option.some FieldType.int)) ∈ lw_tbl := wd_3 69 rfl
theorem wx_550 : (Cond.methodLinkNest "BillShares$Meter" (41 : Nat) ({ cls := "BillShares", name := "startOf", desc := "(I)I" } : MethodName) "BillShares") ∈ lw_tbl := wd_3 70 rfl
theorem wx_551 : (Cond.static ({ cls := "BillShares", name := "startOf", desc := "(I)I" } : MethodName)) ∈ lw_tbl := wd_3 71 rfl
theorem wx_552 : (Cond.code ({ cls := "BillShares", name := "startOf", desc := "(I)I" } : MethodName) prog_1_method_25_code (1 : Nat) (Option.some FieldType.int)) ∈ lw_tbl := wd_3 72 rfl
theorem wx_553 : (Cond.methodLinkNest "BillShares$Meter" (44 : Nat) ({ cls := "BillShares", name := "endOf", desc := "(I)I" } : MethodName) "BillShares") ∈ lw_tbl := wd_3 73 rfl
theorem wx_554 : (Cond.static ({ cls := "BillShares", name := "endOf", desc := "(I)I" } : MethodName)) ∈ lw_tbl := wd_3 74 rfl
theorem wx_555 : (Cond.code ({ cls := "BillShares", name := "endOf", desc := "(I)I" } : MethodName) prog_1_method_26_code (1 : Nat) (Option.some FieldType.int)) ∈ lw_tbl := wd_3 75 rfl
theorem wx_556 : (Cond.methodLink "BillShares" (153 : Nat) ({ cls := "BillShares", name := "startOf", desc := "(I)I" } : MethodName)) ∈ lw_tbl := wd_3 76 rfl
theorem wx_557 : (Cond.methodLink "BillShares" (156 : Nat) ({ cls := "BillShares", name := "endOf", desc := "(I)I" } : MethodName)) ∈ lw_tbl := wd_3 77 rfl
theorem wx_558 : (Cond.methodLink "BillShares" (268 : Nat) ({ cls := "BillShares$Flat", name := "useBetween", desc := "(III)J" } : MethodName)) ∈ lw_tbl := wd_3 78 rfl
theorem wx_559 : (Cond.instanceMethod ({ cls := "BillShares$Flat", name := "useBetween", desc := "(III)J" } : MethodName)) ∈ lw_tbl := wd_3 79 rfl
theorem wx_560 : (Cond.selects "BillShares$Flat" ({ cls := "BillShares$Flat", name := "useBetween", desc := "(III)J" } : MethodName) ({ cls := "BillShares$Flat", name := "useBetween", desc := "(III)J" } : MethodName)) ∈ lw_tbl := wd_3 80 rfl
theorem wx_561 : (Cond.code ({ cls := "BillShares$Flat", name := "useBetween", desc := "(III)J" } : MethodName) prog_3_method_9_code (8 : Nat) (Option.some FieldType.long)) ∈ lw_tbl := wd_3 81 rfl
theorem wx_562 : (Cond.methodLink "BillShares$Flat" (66 : Nat) ({ cls := "BillShares$Meter", name := "useBetween", desc := "(II)J" } : MethodName)) ∈ lw_tbl := wd_3 82 rfl
theorem wx_563 : (Cond.instanceMethod ({ cls := "BillShares$Meter", name := "useBetween", desc := "(II)J" } : MethodName)) ∈ lw_tbl := wd_3 83 rfl
theorem wx_564 : (Cond.selects "BillShares$Meter" ({ cls := "BillShares$Meter", name := "useBetween", desc := "(II)J" } : MethodName) ({ cls := "BillShares$Meter", name := "useBetween", desc := "(II)J" } : MethodName)) ∈ lw_tbl := wd_3 84 rfl
theorem wx_565 : (Cond.code ({ cls := "BillShares$Meter", name := "useBetween", desc := "(II)J" } : MethodName) prog_4_method_9_code (6 : Nat) (Option.some FieldType.long)) ∈ lw_tbl := wd_3 85 rfl
theorem wx_566 : (Cond.methodLink "BillShares$Meter" (47 : Nat) ({ cls := "BillShares$Meter", name := "comesTo", desc := "(II)J" } : MethodName)) ∈ lw_tbl := wd_3 86 rfl
theorem wx_567 : (Cond.instanceMethod ({ cls := "BillShares$Meter", name := "comesTo", desc := "(II)J" } : MethodName)) ∈ lw_tbl := wd_3 87 rfl
theorem wx_568 : (Cond.selects "BillShares$Meter" ({ cls := "BillShares$Meter", name := "comesTo", desc := "(II)J" } : MethodName) ({ cls := "BillShares$Meter", name := "comesTo", desc := "(II)J" } : MethodName)) ∈ lw_tbl := wd_3 88 rfl
theorem wx_569 : (Cond.code ({ cls := "BillShares$Meter", name := "comesTo", desc := "(II)J" } : MethodName) prog_4_method_10_code (5 : Nat) (Option.some FieldType.long)) ∈ lw_tbl := wd_3 89 rfl
theorem wx_570 : (Cond.methodLinkNest "BillShares$Meter" (51 : Nat) ({ cls := "BillShares", name := "portion", desc := "(JJJ)J" } : MethodName) "BillShares") ∈ lw_tbl := wd_3 90 rfl
theorem wx_571 : (Cond.methodLink "BillSharesLaw" (126 : Nat) ({ cls := "BillSharesLaw", name := "use", desc := "(LBillShares;II[J)I" } : MethodName)) ∈ lw_tbl := wd_3 91 rfl
theorem wx_572 : (Cond.static ({ cls := "BillSharesLaw", name := "use", desc := "(LBillShares;II[J)I" } : MethodName)) ∈ lw_tbl := wd_3 92 rfl
theorem wx_573 : (Cond.codeWith ({ cls := "BillSharesLaw", name := "use", desc := "(LBillShares;II[J)I" } : MethodName) method_14_code (5 : Nat) (Option.some FieldType.int) [((0 : Nat), (9 : Nat), (12 : Nat), (13 : Nat))]) ∈ lw_tbl := wd_3 93 rfl
theorem wx_574 : (Cond.methodLink "BillSharesLaw" (52 : Nat) ({ cls := "BillShares", name := "use", desc := "(II)J" } : MethodName)) ∈ lw_tbl := wd_3 94 rfl
theorem wx_575 : (Cond.instanceMethod ({ cls := "BillShares", name := "use", desc := "(II)J" } : MethodName)) ∈ lw_tbl := wd_3 95 rfl
theorem wx_576 : (Cond.selects "BillShares" ({ cls := "BillShares", name := "use", desc := "(II)J" } : MethodName) ({ cls := "BillShares", name := "use", desc := "(II)J" } : MethodName)) ∈ lw_tbl := wd_3 96 rfl
theorem wx_577 : (Cond.code ({ cls := "BillShares", name := "use", desc := "(II)J" } : MethodName) prog_1_method_13_code (4 : Nat) (Option.some FieldType.long)) ∈ lw_tbl := wd_3 97 rfl
theorem wx_578 : (Cond.methodLink "BillShares" (150 : Nat) ({ cls := "BillShares$Meter", name := "whyBarred", desc := "(I)I" } : MethodName)) ∈ lw_tbl := wd_3 98 rfl
theorem wx_579 : (Cond.methodLink "BillShares" (159 : Nat) ({ cls := "BillShares$Meter", name := "useBetween", desc := "(II)J" } : MethodName)) ∈ lw_tbl := wd_3 99 rfl
theorem wx_580 : (Cond.constantLong "BillShares" (163 : Nat) (-1 : Int64)) ∈ lw_tbl := wd_3 100 rfl
theorem wx_581 : (Cond.methodLink "BillSharesLaw" (129 : Nat) ({ cls := "BillSharesLaw", name := "barred", desc := "(LBillShares;III[J)I" } : MethodName)) ∈ lw_tbl := wd_3 101 rfl
theorem wx_582 : (Cond.static ({ cls := "BillSharesLaw", name := "barred", desc := "(LBillShares;III[J)I" } : MethodName)) ∈ lw_tbl := wd_3 102 rfl
theorem wx_583 : (Cond.codeWith ({ cls := "BillSharesLaw", name := "barred", desc := "(LBillShares;III[J)I" } : MethodName) method_15_code (6 : Nat) (Option.some FieldType.int) [((0 : Nat), (12 : Nat), (15 : Nat), (13 : Nat))]) ∈ lw_tbl := wd_3 103 rfl
theorem wx_584 : (Cond.methodLink "BillSharesLaw" (56 : Nat) ({ cls := "BillShares", name := "barred", desc := "(III)I" } : MethodName)) ∈ lw_tbl := wd_3 104 rfl
theorem wx_585 : (Cond.instanceMethod ({ cls := "BillShares", name := "barred", desc := "(III)I" } : MethodName)) ∈ lw_tbl := wd_3 105 rfl
theorem wx_586 : (Cond.selects "BillShares" ({ cls := "BillShares", name := "barred", desc := "(III)I" } : MethodName) ({ cls := "BillShares", name := "barred", desc := "(III)I" } : MethodName)) ∈ lw_tbl := wd_3 106 rfl
theorem wx_587 : (Cond.code ({ cls := "BillShares", name := "barred", desc := "(III)I" } : MethodName) prog_1_method_14_code (5 : Nat) (Option.some FieldType.int)) ∈ lw_tbl := wd_3 107 rfl
theorem wx_588 : (Cond.methodLink "BillSharesLaw" (132 : Nat) ({ cls := "BillSharesLaw", name := "line", desc := "(LBillShares;IIII[J)I" } : MethodName)) ∈ lw_tbl := wd_3 108 rfl
theorem wx_589 : (Cond.static ({ cls := "BillSharesLaw", name := "line", desc := "(LBillShares;IIII[J)I" } : MethodName)) ∈ lw_tbl := wd_3 109 rfl
theorem wx_590 : (Cond.codeWith ({ cls := "BillSharesLaw", name := "line", desc := "(LBillShares;IIII[J)I" } : MethodName) method_16_code (7 : Nat) (Option.some FieldType.int) [((0 : Nat), (13 : Nat), (16 : Nat), (13 : Nat)), ((0 : Nat), (13 : Nat), (20 : Nat), (15 : Nat))]) ∈ lw_tbl := wd_3 110 rfl
theorem wx_591 : (Cond.methodLink "BillSharesLaw" (59 : Nat) ({ cls := "BillShares", name := "line", desc := "(IIII)J" } : MethodName)) ∈ lw_tbl := wd_3 111 rfl
theorem wx_592 : (Cond.instanceMethod ({ cls := "BillShares", name := "line", desc := "(IIII)J" } : MethodName)) ∈ lw_tbl := wd_3 112 rfl
theorem wx_593 : (Cond.selects "BillShares" ({ cls := "BillShares", name := "line", desc := "(IIII)J" } : MethodName) ({ cls := "BillShares", name := "line", desc := "(IIII)J" } : MethodName)) ∈ lw_tbl := wd_3 113 rfl
theorem wx_594 : (Cond.code ({ cls := "BillShares", name := "line", desc := "(IIII)J" } : MethodName) prog_1_method_15_code (7 : Nat) (Option.some FieldType.long)) ∈ lw_tbl := wd_3 114 rfl
theorem wx_595 : (Cond.methodLink "BillShares" (167 : Nat) ({ cls := "BillShares", name := "latestBill", desc := "(LBillShares$Flat;I)LBillShares$Bill;" } : MethodName)) ∈ lw_tbl := wd_3 115 rfl
theorem wx_597 : (Cond.instanceMethod ({ cls := "BillShares", name := "latestBill", desc := "(LBillShares$Flat;I)LBillShares$Bill;" } : MethodName)) ∈ lw_tbl := wd_3 117 rfl
theorem wx_598 : (Cond.code ({ cls := "BillShares", name := "latestBill", desc := "(LBillShares$Flat;I)LBillShares$Bill;" } : MethodName) prog_1_method_30_code (4 : Nat) (Option.some (FieldType.object "BillShares$Bill"))) ∈ lw_tbl := wd_3 118 rfl
theorem wx_599 : (Cond.stringRef "BillShares" (210 : Nat) "no run of this year") ∈ lw_tbl := wd_3 119 rfl
theorem wx_600 : (Cond.stringRef "BillShares" (216 : Nat) "the flat was not there in the latest run") ∈ lw_tbl := wd_3 120 rfl
theorem wx_601 : (Cond.methodLink "BillSharesLaw" (135 : Nat) ({ cls := "BillSharesLaw", name := "share", desc := "(LBillShares;II[J)I" } : MethodName)) ∈ lw_tbl := wd_3 121 rfl
theorem wx_602 : (Cond.static ({ cls := "BillSharesLaw", name := "share", desc := "(LBillShares;II[J)I" } : MethodName)) ∈ lw_tbl := wd_3 122 rfl
theorem wx_603 : (Cond.codeWith ({ cls := "BillSharesLaw", name := "share", desc := "(LBillShares;II[J)I" } : MethodName) method_17_code (5 : Nat) (Option.some FieldType.int) [((0 : Nat), (9 : Nat), (12 : Nat), (13 : Nat)), ((0 : Nat), (9 : Nat), (16 : Nat), (15 : Nat))]) ∈ lw_tbl := wd_3 123 rfl
theorem wx_604 : (Cond.methodLink "BillSharesLaw" (63 : Nat) ({ cls := "BillShares", name := "share", desc := "(II)J" } : MethodName)) ∈ lw_tbl := wd_3 124 rfl
theorem wx_605 : (Cond.instanceMethod ({ cls := "BillShares", name := "share", desc := "(II)J" } : MethodName)) ∈ lw_tbl := wd_3 125 rfl
theorem wx_606 : (Cond.selects "BillShares" ({ cls := "BillShares", name := "share", desc := "(II)J" } : MethodName) ({ cls := "BillShares", name := "share", desc := "(II)J" } : MethodName)) ∈ lw_tbl := wd_3 126 rfl
theorem wx_607 : (Cond.code ({ cls := "BillShares", name := "share", desc := "(II)J" } : MethodName) prog_1_method_16_code (3 : Nat) (Option.some FieldType.long)) ∈ lw_tbl := wd_3 127 rfl
theorem wx_608 : (Cond.methodLink "BillSharesLaw" (138 : Nat) ({ cls := "BillSharesLaw", name := "part", desc := "(LBillShares;III[J)I" } : MethodName)) ∈ lw_tbl := wd_3 128 rfl
theorem wx_609 : (Cond.static ({ cls := "BillSharesLaw", name := "part", desc := "(LBillShares;III[J)I" } : MethodName)) ∈ lw_tbl := wd_3 129 rfl
theorem wx_610 : (Cond.codeWith ({ cls := "BillSharesLaw", name := "part", desc := "(LBillShares;III[J)I" } : MethodName) method_18_code (6 : Nat) (Option.some FieldType.int) [((0 : Nat), (11 : Nat), (14 : Nat), (13 : Nat)), ((0 : Nat), (11 : Nat), (18 : Nat), (15 : Nat))]) ∈ lw_tbl := wd_3 130 rfl
theorem wx_611 : (Cond.methodLink "BillSharesLaw" (66 : Nat) ({ cls := "BillShares", name := "part", desc := "(III)J" } : MethodName)) ∈ lw_tbl := wd_3 131 rfl
theorem wx_612 : (Cond.instanceMethod ({ cls := "BillShares", name := "part", desc := "(III)J" } : MethodName)) ∈ lw_tbl := wd_3 132 rfl
theorem wx_613 : (Cond.selects "BillShares" ({ cls := "BillShares", name := "part", desc := "(III)J" } : MethodName) ({ cls := "BillShares", name := "part", desc := "(III)J" } : MethodName)) ∈ lw_tbl := wd_3 133 rfl
theorem wx_614 : (Cond.code ({ cls := "BillShares", name := "part", desc := "(III)J" } : MethodName) prog_1_method_17_code (10 : Nat) (Option.some FieldType.long)) ∈ lw_tbl := wd_3 134 rfl
theorem wx_615 : (Cond.methodLink "BillShares" (183 : Nat) ({ cls := "BillShares$Flat", name := "lastDwellerIn", desc := "(I)I" } : MethodName)) ∈ lw_tbl := wd_3 135 rfl
theorem wx_616 : (Cond.instanceMethod ({ cls := "BillShares$Flat", name := "lastDwellerIn", desc := "(I)I" } : MethodName)) ∈ lw_tbl := wd_3 136 rfl
theorem wx_617 : (Cond.selects "BillShares$Flat" ({ cls := "BillShares$Flat", name := "lastDwellerIn", desc := "(I)I" } : MethodName) ({ cls := "BillShares$Flat", name := "lastDwellerIn", desc := "(I)I" } : MethodName)) ∈ lw_tbl := wd_3 137 rfl
theorem wx_618 : (Cond.code ({ cls := "BillShares$Flat", name := "lastDwellerIn", desc := "(I)I" } : MethodName) prog_3_method_6_code (4 : Nat) (Option.some FieldType.int)) ∈ lw_tbl := wd_3 138 rfl
theorem wx_619 : (Cond.methodLinkNest "BillShares$Flat" (46 : Nat) ({ cls := "BillShares", name := "endOf", desc := "(I)I" } : MethodName) "BillShares") ∈ lw_tbl := wd_3 139 rfl
theorem wx_620 : (Cond.methodLink "BillShares" (186 : Nat) ({ cls := "BillShares", name := "partByFloors", desc := "(LBillShares$Flat;LBillShares$Bill;II)J" } : MethodName)) ∈ lw_tbl := wd_3 140 rfl
theorem wx_621 : (Cond.static ({ cls := "BillShares", name := "partByFloors", desc := "(LBillShares$Flat;LBillShares$Bill;II)J" } : MethodName)) ∈ lw_tbl := wd_3 141 rfl
theorem wx_622 : (Cond.code ({ cls := "BillShares", name := "partByFloors", desc := "(LBillShares$Flat;LBillShares$Bill;II)J" } : MethodName) prog_1_method_39_code (9 : Nat) (Option.some FieldType.long)) ∈ lw_tbl := wd_3 142 rfl
theorem wx_623 : (Cond.methodLink "BillShares" (274 : Nat) ({ cls := "BillShares$Flat", name := "movedIn", desc := "(I)I" } : MethodName)) ∈ lw_tbl := wd_3 143 rfl
theorem wx_624 : (Cond.methodLink "BillShares" (277 : Nat) ({ cls := "java/lang/Math", name := "max", desc := "(II)I" } : MethodName)) ∈ lw_tbl := wd_3 144 rfl
theorem wx_625 : (Cond.methodLink "BillShares" (282 : Nat) ({ cls := "BillShares$Flat", name := "movedOut", desc := "(I)I" } : MethodName)) ∈ lw_tbl := wd_3 145 rfl
theorem wx_626 : (Cond.instanceMethod ({ cls := "BillShares$Flat", name := "movedOut", desc := "(I)I" } : MethodName)) ∈ lw_tbl := wd_3 146 rfl
theorem wx_627 : (Cond.selects "BillShares$Flat" ({ cls := "BillShares$Flat", name := "movedOut", desc := "(I)I" } : MethodName) ({ cls := "BillShares$Flat", name := "movedOut", desc := "(I)I" } : MethodName)) ∈ lw_tbl := wd_3 147 rfl
theorem wx_628 : (Cond.code ({ cls := "BillShares$Flat", name := "movedOut", desc := "(I)I" } : MethodName) prog_3_method_5_code (2 : Nat) (Option.some FieldType.int)) ∈ lw_tbl := wd_3 148 rfl
theorem wx_629 : (Cond.methodLink "BillShares" (285 : Nat) ({ cls := "java/lang/Math", name := "min", desc := "(II)I" } : MethodName)) ∈ lw_tbl := wd_3 149 rfl
theorem wx_630 : (Cond.constantLong "BillShares" (288 : Nat) (365 : Int64)) ∈ lw_tbl := wd_3 150 rfl
theorem wx_631 : (Cond.methodLink "BillShares" (290 : Nat) ({ cls := "BillShares", name := "usedPartBetween", desc := "(LBillShares$Flat;JIIII)J" } : MethodName)) ∈ lw_tbl := wd_3 151 rfl
theorem wx_632 : (Cond.static ({ cls := "BillShares", name := "usedPartBetween", desc := "(LBillShares$Flat;JIIII)J" } : MethodName)) ∈ lw_tbl := wd_3 152 rfl
theorem wx_633 : (Cond.code ({ cls := "BillShares", name := "usedPartBetween", desc := "(LBillShares$Flat;JIIII)J" } : MethodName) prog_1_method_40_code (9 : Nat) (Option.some FieldType.long)) ∈ lw_tbl := wd_3 153 rfl
theorem wx_634 : (Cond.methodLink "BillSharesLaw" (141 : Nat) ({ cls := "BillSharesLaw", name := "balance", desc := "(LBillShares;II[J)I" } : MethodName)) ∈ lw_tbl := wd_3 154 rfl
theorem wx_635 : (Cond.static ({ cls := "BillSharesLaw", name := "balance", desc := "(LBillShares;II[J)I" } : MethodName)) ∈ lw_tbl := wd_3 155 rfl
theorem wx_636 : (Cond.codeWith ({ cls := "BillSharesLaw", name := "balance", desc := "(LBillShares;II[J)I" } : MethodName) method_19_code (5 : Nat) (Option.some FieldType.int) [((0 : Nat), (9 : Nat), (12 : Nat), (13 : Nat)), ((0 : Nat), (9 : Nat), (16 : Nat), (15 : Nat))]) ∈ lw_tbl := wd_3 156 rfl
theorem wx_637 : (Cond.methodLink "BillSharesLaw" (69 : Nat) ({ cls := "BillShares", name := "balance", desc := "(II)J" } : MethodName)) ∈ lw_tbl := wd_3 157 rfl
theorem wx_638 : (Cond.instanceMethod ({ cls := "BillShares", name := "balance", desc := "(II)J" } : MethodName)) ∈ lw_tbl := wd_3 158 rfl
theorem wx_639 : (Cond.selects "BillShares" ({ cls := "BillShares", name := "balance", desc := "(II)J" } : MethodName) ({ cls := "BillShares", name := "balance", desc := "(II)J" } : MethodName)) ∈ lw_tbl := wd_3 159 rfl
theorem wx_640 : (Cond.code ({ cls := "BillShares", name := "balance", desc := "(II)J" } : MethodName) prog_1_method_18_code (4 : Nat) (Option.some FieldType.long)) ∈ lw_tbl := wd_3 160 rfl
theorem wx_641 : (Cond.methodLink "BillSharesLaw" (144 : Nat) ({ cls := "BillSharesLaw", name := "difference", desc := "(LBillShares;II[J)I" } : MethodName)) ∈ lw_tbl := wd_3 161 rfl
theorem wx_642 : (Cond.static ({ cls := "BillSharesLaw", name := "difference", desc := "(LBillShares;II[J)I" } : MethodName)) ∈ lw_tbl := wd_3 162 rfl
theorem wx_643 : (Cond.codeWith ({ cls := "BillSharesLaw", name := "difference", desc := "(LBillShares;II[J)I" } : MethodName) method_20_code (5 : Nat) (Option.some FieldType.int) [((0 : Nat), (9 : Nat), (12 : Nat), (13 : Nat)), ((0 : Nat), (9 : Nat), (16 : Nat), (15 : Nat))]) ∈ lw_tbl := wd_3 163 rfl
theorem wx_644 : (Cond.methodLink "BillSharesLaw" (72 : Nat) ({ cls := "BillShares", name := "difference", desc := "(II)J" } : MethodName)) ∈ lw_tbl := wd_3 164 rfl
theorem wx_645 : (Cond.instanceMethod ({ cls := "BillShares", name := "difference", desc := "(II)J" } : MethodName)) ∈ lw_tbl := wd_3 165 rfl
theorem wx_646 : (Cond.selects "BillShares" ({ cls := "BillShares", name := "difference", desc := "(II)J" } : MethodName) ({ cls := "BillShares", name := "difference", desc := "(II)J" } : MethodName)) ∈ lw_tbl := wd_3 166 rfl
theorem wx_647 : (Cond.code ({ cls := "BillShares", name := "difference", desc := "(II)J" } : MethodName) prog_1_method_19_code (4 : Nat) (Option.some FieldType.long)) ∈ lw_tbl := wd_3 167 rfl
theorem wx_648 : (Cond.methodLink "BillSharesLaw" (147 : Nat) ({ cls := "BillSharesLaw", name := "edition", desc := "(LBillShares;I[J)I" } : MethodName)) ∈ lw_tbl := wd_3 168 rfl
theorem wx_649 : (Cond.static ({ cls := "BillSharesLaw", name := "edition", desc := "(LBillShares;I[J)I" } : MethodName)) ∈ lw_tbl := wd_3 169 rfl
theorem wx_650 : (Cond.codeWith ({ cls := "BillSharesLaw", name := "edition", desc := "(LBillShares;I[J)I" } : MethodName) method_21_code (4 : Nat) (Option.some FieldType.int) [((0 : Nat), (9 : Nat), (12 : Nat), (13 : Nat))]) ∈ lw_tbl := wd_3 170 rfl
theorem wx_651 : (Cond.methodLink "BillSharesLaw" (75 : Nat) ({ cls := "BillShares", name := "edition", desc := "(I)I" } : MethodName)) ∈ lw_tbl := wd_3 171 rfl
theorem wx_652 : (Cond.instanceMethod ({ cls := "BillShares", name := "edition", desc := "(I)I" } : MethodName)) ∈ lw_tbl := wd_3 172 rfl
theorem wx_653 : (Cond.selects "BillShares" ({ cls := "BillShares", name := "edition", desc := "(I)I" } : MethodName) ({ cls := "BillShares", name := "edition", desc := "(I)I" } : MethodName)) ∈ lw_tbl := wd_3 173 rfl
theorem wx_654 : (Cond.code ({ cls := "BillShares", name := "edition", desc := "(I)I" } : MethodName) prog_1_method_20_code (2 : Nat) (Option.some FieldType.int)) ∈ lw_tbl := wd_3 174 rfl
theorem wx_655 : (Cond.classLink "BillSharesLaw" (79 : Nat) "BillSharesModel") ∈ lw_tbl := wd_3 175 rfl
theorem wx_656 : (Cond.instantiable "BillSharesModel" (28 : Nat)) ∈ lw_tbl := wd_3 176 rfl
theorem wx_657 : (Cond.methodLink "BillSharesLaw" (81 : Nat) ({ cls := "BillSharesModel", name := "<init>", desc := "()V" } : MethodName)) ∈ lw_tbl := wd_3 177 rfl
theorem wx_658 : (Cond.instanceMethod ({ cls := "BillSharesModel", name := "<init>", desc := "()V" } : MethodName)) ∈ lw_tbl := wd_3 178 rfl
theorem wx_659 : (Cond.code ({ cls := "BillSharesModel", name := "<init>", desc := "()V" } : MethodName) prog_6_method_1_code (2 : Nat) (Option.none : Option FieldType)) ∈ lw_tbl := wd_3 179 rfl
theorem wx_660 : (Cond.methodLink "BillSharesModel" (1 : Nat) ({ cls := "java/lang/Object", name := "<init>", desc := "()V" } : MethodName)) ∈ lw_tbl := wd_3 180 rfl
theorem wx_661 : (Cond.fieldLink "BillSharesModel" (87 : Nat) "BillSharesModel" "code" "I") ∈ lw_tbl := wd_3 181 rfl
theorem wx_662 : (Cond.fieldLink "BillSharesModel" (96 : Nat) "BillSharesModel" "flats" "I") ∈ lw_tbl := wd_3 182 rfl
theorem wx_663 : (Cond.fieldLink "BillSharesModel" (7 : Nat) "BillSharesModel" "area" "[I") ∈ lw_tbl := wd_3 183 rfl
theorem wx_664 : (Cond.fieldLink "BillSharesModel" (13 : Nat) "BillSharesModel" "rank" "[I") ∈ lw_tbl := wd_3 184 rfl
theorem wx_665 : (Cond.fieldLink "BillSharesModel" (16 : Nat) "BillSharesModel" "lives" "[I") ∈ lw_tbl := wd_3 185 rfl
theorem wx_666 : (Cond.fieldLink "BillSharesModel" (19 : Nat) "BillSharesModel" "since" "[I") ∈ lw_tbl := wd_3 186 rfl
theorem wx_667 : (Cond.fieldLink "BillSharesModel" (22 : Nat) "BillSharesModel" "paid" "[J") ∈ lw_tbl := wd_3 187 rfl
theorem wx_668 : (Cond.fieldLink "BillSharesModel" (99 : Nat) "BillSharesModel" "meters" "I") ∈ lw_tbl := wd_3 188 rfl
theorem wx_669 : (Cond.fieldLink "BillSharesModel" (26 : Nat) "BillSharesModel" "flatOf" "[I") ∈ lw_tbl := wd_3 189 rfl
theorem wx_670 : (Cond.fieldLink "BillSharesModel" (29 : Nat) "BillSharesModel" "kindOf" "[I") ∈ lw_tbl := wd_3 190 rfl
theorem wx_671 : (Cond.fieldLink "BillSharesModel" (32 : Nat) "BillSharesModel" "above" "[I") ∈ lw_tbl := wd_3 191 rfl
theorem wx_672 : (Cond.fieldLink "BillSharesModel" (35 : Nat) "BillSharesModel" "below" "[I") ∈ lw_tbl := wd_3 192 rfl
theorem wx_673 : (Cond.fieldLink "BillSharesModel" (38 : Nat) "BillSharesModel" "tested" "[I") ∈ lw_tbl := wd_3 193 rfl
theorem wx_674 : (Cond.fieldLink "BillSharesModel" (41 : Nat) "BillSharesModel" "readings" "[I") ∈ lw_tbl := wd_3 194 rfl
theorem wx_675 : (Cond.fieldLink "BillSharesModel" (44 : Nat) "BillSharesModel" "day" "[I") ∈ lw_tbl := wd_3 195 rfl
theorem wx_676 : (Cond.fieldLink "BillSharesModel" (47 : Nat) "BillSharesModel" "value" "[I") ∈ lw_tbl := wd_3 196 rfl
theorem wx_677 : (Cond.fieldLink "BillSharesModel" (50 : Nat) "BillSharesModel" "goes" "[I") ∈ lw_tbl := wd_3 197 rfl
theorem wx_678 : (Cond.fieldLink "BillSharesModel" (53 : Nat) "BillSharesModel" "renewed" "[Z") ∈ lw_tbl := wd_3 198 rfl
theorem wx_679 : (Cond.fieldLink "BillSharesModel" (57 : Nat) "BillSharesModel" "cost" "[I") ∈ lw_tbl := wd_3 199 rfl
theorem wx_680 : (Cond.fieldLink "BillSharesModel" (60 : Nat) "BillSharesModel" "base" "[I") ∈ lw_tbl := wd_3 200 rfl
theorem wx_681 : (Cond.fieldLink "BillSharesModel" (63 : Nat) "BillSharesModel" "edition" "[I") ∈ lw_tbl := wd_3 201 rfl
theorem wx_682 : (Cond.fieldLink "BillSharesModel" (66 : Nat) "BillSharesModel" "there" "[I") ∈ lw_tbl := wd_3 202 rfl
theorem wx_683 : (Cond.fieldLink "BillSharesModel" (69 : Nat) "BillSharesModel" "thereBefore" "[I") ∈ lw_tbl := wd_3 203 rfl
theorem wx_684 : (Cond.fieldLink "BillSharesModel" (72 : Nat) "BillSharesModel" "basePart" "[J") ∈ lw_tbl := wd_3 204 rfl
theorem wx_685 : (Cond.fieldLink "BillSharesModel" (75 : Nat) "BillSharesModel" "usedPart" "[J") ∈ lw_tbl := wd_3 205 rfl
theorem wx_686 : (Cond.fieldLink "BillSharesModel" (78 : Nat) "BillSharesModel" "shareBefore" "[J") ∈ lw_tbl := wd_3 206 rfl
theorem wx_687 : (Cond.fieldLink "BillSharesModel" (81 : Nat) "BillSharesModel" "numbers" "[J") ∈ lw_tbl := wd_3 207 rfl
theorem wx_688 : (Cond.fieldLink "BillSharesModel" (84 : Nat) "BillSharesModel" "gets" "[J") ∈ lw_tbl := wd_3 208 rfl
theorem wx_689 : (Cond.lays "BillSharesModel" "BillSharesModel" "code" "I") ∈ lw_tbl := wd_3 209 rfl
theorem wx_691 : (Cond.lays "BillSharesModel" "BillSharesModel" "flats" "I") ∈ lw_tbl := wd_3 211 rfl
theorem wx_693 : (Cond.laysFinal "BillSharesModel" "BillSharesModel" "area" "[I") ∈ lw_tbl := wd_3 213 rfl
theorem wx_695 : (Cond.laysFinal "BillSharesModel" "BillSharesModel" "rank" "[I") ∈ lw_tbl := wd_3 215 rfl
theorem wx_697 : (Cond.laysFinal "BillSharesModel" "BillSharesModel" "lives" "[I") ∈ lw_tbl := wd_3 217 rfl
theorem wx_699 : (Cond.laysFinal "BillSharesModel" "BillSharesModel" "since" "[I") ∈ lw_tbl := wd_3 219 rfl
theorem wx_701 : (Cond.laysFinal "BillSharesModel" "BillSharesModel" "paid" "[J") ∈ lw_tbl := wd_3 221 rfl
theorem wx_703 : (Cond.lays "BillSharesModel" "BillSharesModel" "meters" "I") ∈ lw_tbl := wd_3 223 rfl
theorem wx_705 : (Cond.laysFinal "BillSharesModel" "BillSharesModel" "flatOf" "[I") ∈ lw_tbl := wd_3 225 rfl
theorem wx_707 : (Cond.laysFinal "BillSharesModel" "BillSharesModel" "kindOf" "[I") ∈ lw_tbl := wd_3 227 rfl
theorem wx_709 : (Cond.laysFinal "BillSharesModel" "BillSharesModel" "above" "[I") ∈ lw_tbl := wd_3 229 rfl
theorem wx_711 : (Cond.laysFinal "BillSharesModel" "BillSharesModel" "below" "[I") ∈ lw_tbl := wd_3 231 rfl
theorem wx_713 : (Cond.laysFinal "BillSharesModel" "BillSharesModel" "tested" "[I") ∈ lw_tbl := wd_3 233 rfl
theorem wx_715 : (Cond.laysFinal "BillSharesModel" "BillSharesModel" "readings" "[I") ∈ lw_tbl := wd_3 235 rfl
theorem wx_717 : (Cond.laysFinal "BillSharesModel" "BillSharesModel" "day" "[I") ∈ lw_tbl := wd_3 237 rfl
theorem wx_719 : (Cond.laysFinal "BillSharesModel" "BillSharesModel" "value" "[I") ∈ lw_tbl := wd_3 239 rfl
theorem wx_721 : (Cond.laysFinal "BillSharesModel" "BillSharesModel" "goes" "[I") ∈ lw_tbl := wd_4 1 rfl
theorem wx_723 : (Cond.laysFinal "BillSharesModel" "BillSharesModel" "renewed" "[Z") ∈ lw_tbl := wd_4 3 rfl
theorem wx_725 : (Cond.laysFinal "BillSharesModel" "BillSharesModel" "cost" "[I") ∈ lw_tbl := wd_4 5 rfl
theorem wx_727 : (Cond.laysFinal "BillSharesModel" "BillSharesModel" "base" "[I") ∈ lw_tbl := wd_4 7 rfl
theorem wx_729 : (Cond.laysFinal "BillSharesModel" "BillSharesModel" "edition" "[I") ∈ lw_tbl := wd_4 9 rfl
theorem wx_731 : (Cond.laysFinal "BillSharesModel" "BillSharesModel" "there" "[I") ∈ lw_tbl := wd_4 11 rfl
theorem wx_733 : (Cond.laysFinal "BillSharesModel" "BillSharesModel" "thereBefore" "[I") ∈ lw_tbl := wd_4 13 rfl
theorem wx_735 : (Cond.laysFinal "BillSharesModel" "BillSharesModel" "basePart" "[J") ∈ lw_tbl := wd_4 15 rfl
theorem wx_737 : (Cond.laysFinal "BillSharesModel" "BillSharesModel" "usedPart" "[J") ∈ lw_tbl := wd_4 17 rfl
theorem wx_739 : (Cond.laysFinal "BillSharesModel" "BillSharesModel" "shareBefore" "[J") ∈ lw_tbl := wd_4 19 rfl
theorem wx_741 : (Cond.laysFinal "BillSharesModel" "BillSharesModel" "numbers" "[J") ∈ lw_tbl := wd_4 21 rfl
theorem wx_743 : (Cond.laysFinal "BillSharesModel" "BillSharesModel" "gets" "[J") ∈ lw_tbl := wd_4 23 rfl
theorem wx_746 : (Cond.arrayClass FieldType.boolean) ∈ lw_tbl := wd_4 26 rfl
theorem wx_747 : (Cond.methodLink "BillSharesLaw" (88 : Nat) ({ cls := "BillSharesModel", name := "thrown", desc := "()I" } : MethodName)) ∈ lw_tbl := wd_4 27 rfl
theorem wx_748 : (Cond.instanceMethod ({ cls := "BillSharesModel", name := "thrown", desc := "()I" } : MethodName)) ∈ lw_tbl := wd_4 28 rfl
theorem wx_749 : (Cond.selects "BillSharesModel" ({ cls := "BillSharesModel", name := "thrown", desc := "()I" } : MethodName) ({ cls := "BillSharesModel", name := "thrown", desc := "()I" } : MethodName)) ∈ lw_tbl := wd_4 29 rfl
theorem wx_750 : (Cond.code ({ cls := "BillSharesModel", name := "thrown", desc := "()I" } : MethodName) prog_6_method_2_code (1 : Nat) (Option.some FieldType.int)) ∈ lw_tbl := wd_4 30 rfl
theorem wx_751 : (Cond.methodLink "BillSharesLaw" (87 : Nat) ({ cls := "BillSharesModel", name := "flat", desc := "(II)I" } : MethodName)) ∈ lw_tbl := wd_4 31 rfl
theorem wx_752 : (Cond.instanceMethod ({ cls := "BillSharesModel", name := "flat", desc := "(II)I" } : MethodName)) ∈ lw_tbl := wd_4 32 rfl
theorem wx_753 : (Cond.selects "BillSharesModel" ({ cls := "BillSharesModel", name := "flat", desc := "(II)I" } : MethodName) ({ cls := "BillSharesModel", name := "flat", desc := "(II)I" } : MethodName)) ∈ lw_tbl := wd_4 33 rfl
theorem wx_754 : (Cond.code ({ cls := "BillSharesModel", name := "flat", desc := "(II)I" } : MethodName) prog_6_method_8_code (3 : Nat) (Option.some FieldType.int)) ∈ lw_tbl := wd_4 34 rfl
theorem wx_755 : (Cond.methodLink "BillSharesModel" (92 : Nat) ({ cls := "BillSharesModel", name := "isIn", desc := "(III)Z" } : MethodName)) ∈ lw_tbl := wd_4 35 rfl
theorem wx_756 : (Cond.static ({ cls := "BillSharesModel", name := "isIn", desc := "(III)Z" } : MethodName)) ∈ lw_tbl := wd_4 36 rfl
theorem wx_757 : (Cond.code ({ cls := "BillSharesModel", name := "isIn", desc := "(III)Z" } : MethodName) prog_6_method_4_code (3 : Nat) (Option.some FieldType.boolean)) ∈ lw_tbl := wd_4 37 rfl
theorem wx_758 : (Cond.methodLink "BillSharesModel" (102 : Nat) ({ cls := "BillSharesModel", name := "allows", desc := "(ZZ)Z" } : MethodName)) ∈ lw_tbl := wd_4 38 rfl
theorem wx_760 : (Cond.instanceMethod ({ cls := "BillSharesModel", name := "allows", desc := "(ZZ)Z" } : MethodName)) ∈ lw_tbl := wd_4 40 rfl
theorem wx_761 : (Cond.code ({ cls := "BillSharesModel", name := "allows", desc := "(ZZ)Z" } : MethodName) prog_6_method_3_code (3 : Nat) (Option.some FieldType.boolean)) ∈ lw_tbl := wd_4 41 rfl
theorem wx_762 : (Cond.methodLink "BillSharesLaw" (95 : Nat) ({ cls := "BillSharesModel", name := "meter", desc := "(IIIII)I" } : MethodName)) ∈ lw_tbl := wd_4 42 rfl
theorem wx_763 : (Cond.instanceMethod ({ cls := "BillSharesModel", name := "meter", desc := "(IIIII)I" } : MethodName)) ∈ lw_tbl := wd_4 43 rfl
theorem wx_764 : (Cond.selects "BillSharesModel" ({ cls := "BillSharesModel", name := "meter", desc := "(IIIII)I" } : MethodName) ({ cls := "BillSharesModel", name := "meter", desc := "(IIIII)I" } : MethodName)) ∈ lw_tbl := wd_4 44 rfl
theorem wx_765 : (Cond.code ({ cls := "BillSharesModel", name := "meter", desc := "(IIIII)I" } : MethodName) prog_6_method_9_code (7 : Nat) (Option.some FieldType.int)) ∈ lw_tbl := wd_4 45 rfl
theorem wx_766 : (Cond.methodLink "BillSharesModel" (106 : Nat) ({ cls := "BillSharesModel", name := "isFlat", desc := "(I)Z" } : MethodName)) ∈ lw_tbl := wd_4 46 rfl
theorem wx_768 : (Cond.instanceMethod ({ cls := "BillSharesModel", name := "isFlat", desc := "(I)Z" } : MethodName)) ∈ lw_tbl := wd_4 48 rfl
theorem wx_769 : (Cond.code ({ cls := "BillSharesModel", name := "isFlat", desc := "(I)Z" } : MethodName) prog_6_method_6_code (2 : Nat) (Option.some FieldType.boolean)) ∈ lw_tbl := wd_4 49 rfl
theorem wx_770 : (Cond.methodLink "BillSharesLaw" (99 : Nat) ({ cls := "BillSharesModel", name := "reading", desc := "(III)I" } : MethodName)) ∈ lw_tbl := wd_4 50 rfl
theorem wx_771 : (Cond.instanceMethod ({ cls := "BillSharesModel", name := "reading", desc := "(III)I" } : MethodName)) ∈ lw_tbl := wd_4 51 rfl
theorem wx_772 : (Cond.selects "BillSharesModel" ({ cls := "BillSharesModel", name := "reading", desc := "(III)I" } : MethodName) ({ cls := "BillSharesModel", name := "reading", desc := "(III)I" } : MethodName)) ∈ lw_tbl := wd_4 52 rfl
theorem wx_773 : (Cond.code ({ cls := "BillSharesModel", name := "reading", desc := "(III)I" } : MethodName) prog_6_method_11_code (4 : Nat) (Option.some FieldType.int)) ∈ lw_tbl := wd_4 53 rfl
theorem wx_774 : (Cond.methodLink "BillSharesModel" (116 : Nat) ({ cls := "BillSharesModel", name := "put", desc := "(IIIIZ)I" } : MethodName)) ∈ lw_tbl := wd_4 54 rfl
theorem wx_776 : (Cond.instanceMethod ({ cls := "BillSharesModel", name := "put", desc := "(IIIIZ)I" } : MethodName)) ∈ lw_tbl := wd_4 56 rfl
theorem wx_777 : (Cond.code ({ cls := "BillSharesModel", name := "put", desc := "(IIIIZ)I" } : MethodName) prog_6_method_10_code (8 : Nat) (Option.some FieldType.int)) ∈ lw_tbl := wd_4 57 rfl
theorem wx_778 : (Cond.methodLink "BillSharesModel" (110 : Nat) ({ cls := "BillSharesModel", name := "isMeter", desc := "(I)Z" } : MethodName)) ∈ lw_tbl := wd_4 58 rfl
theorem wx_780 : (Cond.instanceMethod ({ cls := "BillSharesModel", name := "isMeter", desc := "(I)Z" } : MethodName)) ∈ lw_tbl := wd_4 60 rfl
theorem wx_781 : (Cond.code ({ cls := "BillSharesModel", name := "isMeter", desc := "(I)Z" } : MethodName) prog_6_method_7_code (2 : Nat) (Option.some FieldType.boolean)) ∈ lw_tbl := wd_4 61 rfl
theorem wx_782 : (Cond.methodLink "BillSharesModel" (113 : Nat) ({ cls := "BillSharesModel", name := "isValue", desc := "(I)Z" } : MethodName)) ∈ lw_tbl := wd_4 62 rfl
theorem wx_783 : (Cond.static ({ cls := "BillSharesModel", name := "isValue", desc := "(I)Z" } : MethodName)) ∈ lw_tbl := wd_4 63 rfl
theorem wx_784 : (Cond.code ({ cls := "BillSharesModel", name := "isValue", desc := "(I)Z" } : MethodName) prog_6_method_5_code (1 : Nat) (Option.some FieldType.boolean)) ∈ lw_tbl := wd_4 64 rfl
theorem wx_785 : (Cond.constant "BillSharesModel" (91 : Nat) (10000000 : Int32)) ∈ lw_tbl := wd_4 65 rfl
theorem wx_786 : (Cond.methodLink "BillSharesLaw" (103 : Nat) ({ cls := "BillSharesModel", name := "changed", desc := "(IIII)I" } : MethodName)) ∈ lw_tbl := wd_4 66 rfl
theorem wx_787 : (Cond.instanceMethod ({ cls := "BillSharesModel", name := "changed", desc := "(IIII)I" } : MethodName)) ∈ lw_tbl := wd_4 67 rfl
theorem wx_788 : (Cond.selects "BillSharesModel" ({ cls := "BillSharesModel", name := "changed", desc := "(IIII)I" } : MethodName) ({ cls := "BillSharesModel", name := "changed", desc := "(IIII)I" } : MethodName)) ∈ lw_tbl := wd_4 68 rfl
theorem wx_789 : (Cond.code ({ cls := "BillSharesModel", name := "changed", desc := "(IIII)I" } : MethodName) prog_6_method_12_code (5 : Nat) (Option.some FieldType.int)) ∈ lw_tbl := wd_4 69 rfl
theorem wx_790 : (Cond.methodLink "BillSharesLaw" (106 : Nat) ({ cls := "BillSharesModel", name := "correct", desc := "(III)I" } : MethodName)) ∈ lw_tbl := wd_4 70 rfl
theorem wx_791 : (Cond.instanceMethod ({ cls := "BillSharesModel", name := "correct", desc := "(III)I" } : MethodName)) ∈ lw_tbl := wd_4 71 rfl
theorem wx_792 : (Cond.selects "BillSharesModel" ({ cls := "BillSharesModel", name := "correct", desc := "(III)I" } : MethodName) ({ cls := "BillSharesModel", name := "correct", desc := "(III)I" } : MethodName)) ∈ lw_tbl := wd_4 72 rfl
theorem wx_793 : (Cond.code ({ cls := "BillSharesModel", name := "correct", desc := "(III)I" } : MethodName) prog_6_method_13_code (7 : Nat) (Option.some FieldType.int)) ∈ lw_tbl := wd_4 73 rfl
theorem wx_794 : (Cond.methodLink "BillSharesLaw" (109 : Nat) ({ cls := "BillSharesModel", name := "tested", desc := "(II)I" } : MethodName)) ∈ lw_tbl := wd_4 74 rfl
theorem wx_795 : (Cond.instanceMethod ({ cls := "BillSharesModel", name := "tested", desc := "(II)I" } : MethodName)) ∈ lw_tbl := wd_4 75 rfl
theorem wx_796 : (Cond.selects "BillSharesModel" ({ cls := "BillSharesModel", name := "tested", desc := "(II)I" } : MethodName) ({ cls := "BillSharesModel", name := "tested", desc := "(II)I" } : MethodName)) ∈ lw_tbl := wd_4 76 rfl
theorem wx_797 : (Cond.code ({ cls := "BillSharesModel", name := "tested", desc := "(II)I" } : MethodName) prog_6_method_14_code (4 : Nat) (Option.some FieldType.int)) ∈ lw_tbl := wd_4 77 rfl
theorem wx_798 : (Cond.methodLink "BillSharesLaw" (112 : Nat) ({ cls := "BillSharesModel", name := "cost", desc := "(III)I" } : MethodName)) ∈ lw_tbl := wd_4 78 rfl
theorem wx_799 : (Cond.instanceMethod ({ cls := "BillSharesModel", name := "cost", desc := "(III)I" } : MethodName)) ∈ lw_tbl := wd_4 79 rfl
theorem wx_800 : (Cond.selects "BillSharesModel" ({ cls := "BillSharesModel", name := "cost", desc := "(III)I" } : MethodName) ({ cls := "BillSharesModel", name := "cost", desc := "(III)I" } : MethodName)) ∈ lw_tbl := wd_4 80 rfl
theorem wx_801 : (Cond.code ({ cls := "BillSharesModel", name := "cost", desc := "(III)I" } : MethodName) prog_6_method_15_code (5 : Nat) (Option.some FieldType.int)) ∈ lw_tbl := wd_4 81 rfl
theorem wx_802 : (Cond.constant "BillSharesModel" (120 : Nat) (1000000000 : Int32)) ∈ lw_tbl := wd_4 82 rfl
theorem wx_803 : (Cond.methodLink "BillSharesLaw" (115 : Nat) ({ cls := "BillSharesModel", name := "base", desc := "(II)I" } : MethodName)) ∈ lw_tbl := wd_4 83 rfl
theorem wx_804 : (Cond.instanceMethod ({ cls := "BillSharesModel", name := "base", desc := "(II)I" } : MethodName)) ∈ lw_tbl := wd_4 84 rfl
theorem wx_805 : (Cond.selects "BillSharesModel" ({ cls := "BillSharesModel", name := "base", desc := "(II)I" } : MethodName) ({ cls := "BillSharesModel", name := "base", desc := "(II)I" } : MethodName)) ∈ lw_tbl := wd_4 85 rfl
theorem wx_806 : (Cond.code ({ cls := "BillSharesModel", name := "base", desc := "(II)I" } : MethodName) prog_6_method_16_code (4 : Nat) (Option.some FieldType.int)) ∈ lw_tbl := wd_4 86 rfl
theorem wx_807 : (Cond.methodLink "BillSharesLaw" (118 : Nat) ({ cls := "BillSharesModel", name := "moves", desc := "(II)I" } : MethodName)) ∈ lw_tbl := wd_4 87 rfl
theorem wx_808 : (Cond.instanceMethod ({ cls := "BillSharesModel", name := "moves", desc := "(II)I" } : MethodName)) ∈ lw_tbl := wd_4 88 rfl
theorem wx_809 : (Cond.selects "BillSharesModel" ({ cls := "BillSharesModel", name := "moves", desc := "(II)I" } : MethodName) ({ cls := "BillSharesModel", name := "moves", desc := "(II)I" } : MethodName)) ∈ lw_tbl := wd_4 89 rfl
theorem wx_810 : (Cond.code ({ cls := "BillSharesModel", name := "moves", desc := "(II)I" } : MethodName) prog_6_method_17_code (4 : Nat) (Option.some FieldType.int)) ∈ lw_tbl := wd_4 90 rfl
theorem wx_811 : (Cond.methodLink "BillSharesLaw" (121 : Nat) ({ cls := "BillSharesModel", name := "prepaid", desc := "(III)J" } : MethodName)) ∈ lw_tbl := wd_4 91 rfl
theorem wx_812 : (Cond.instanceMethod ({ cls := "BillSharesModel", name := "prepaid", desc := "(III)J" } : MethodName)) ∈ lw_tbl := wd_4 92 rfl
theorem wx_813 : (Cond.selects "BillSharesModel" ({ cls := "BillSharesModel", name := "prepaid", desc := "(III)J" } : MethodName) ({ cls := "BillSharesModel", name := "prepaid", desc := "(III)J" } : MethodName)) ∈ lw_tbl := wd_4 93 rfl
theorem wx_814 : (Cond.code ({ cls := "BillSharesModel", name := "prepaid", desc := "(III)J" } : MethodName) prog_6_method_18_code (4 : Nat) (Option.some FieldType.long)) ∈ lw_tbl := wd_4 94 rfl
theorem wx_815 : (Cond.methodLink "BillSharesLaw" (125 : Nat) ({ cls := "BillSharesModel", name := "run", desc := "(I)I" } : MethodName)) ∈ lw_tbl := wd_4 95 rfl
theorem wx_816 : (Cond.instanceMethod ({ cls := "BillSharesModel", name := "run", desc := "(I)I" } : MethodName)) ∈ lw_tbl := wd_4 96 rfl
theorem wx_817 : (Cond.selects "BillSharesModel" ({ cls := "BillSharesModel", name := "run", desc := "(I)I" } : MethodName) ({ cls := "BillSharesModel", name := "run", desc := "(I)I" } : MethodName)) ∈ lw_tbl := wd_4 97 rfl
theorem wx_818 : (Cond.code ({ cls := "BillSharesModel", name := "run", desc := "(I)I" } : MethodName) prog_6_method_29_code (9 : Nat) (Option.some FieldType.int)) ∈ lw_tbl := wd_4 98 rfl
theorem wx_819 : (Cond.methodLink "BillSharesModel" (150 : Nat) ({ cls := "BillSharesModel", name := "shareOf", desc := "(II)J" } : MethodName)) ∈ lw_tbl := wd_4 99 rfl
theorem wx_821 : (Cond.instanceMethod ({ cls := "BillSharesModel", name := "shareOf", desc := "(II)J" } : MethodName)) ∈ lw_tbl := wd_4 101 rfl
theorem wx_822 : (Cond.code ({ cls := "BillSharesModel", name := "shareOf", desc := "(II)J" } : MethodName) prog_6_method_28_code (6 : Nat) (Option.some FieldType.long)) ∈ lw_tbl := wd_4 102 rfl
theorem wx_823 : (Cond.constantLong "BillSharesModel" (154 : Nat) (100 : Int64)) ∈ lw_tbl := wd_4 103 rfl
theorem wx_824 : (Cond.methodLink "BillSharesModel" (147 : Nat) ({ cls := "BillSharesModel", name := "byAreas", desc := "()V" } : MethodName)) ∈ lw_tbl := wd_4 104 rfl
theorem wx_826 : (Cond.instanceMethod ({ cls := "BillSharesModel", name := "byAreas", desc := "()V" } : MethodName)) ∈ lw_tbl := wd_4 106 rfl
theorem wx_827 : (Cond.code ({ cls := "BillSharesModel", name := "byAreas", desc := "()V" } : MethodName) prog_6_method_26_code (2 : Nat) (Option.none : Option FieldType)) ∈ lw_tbl := wd_4 107 rfl
theorem wx_828 : (Cond.methodLink "BillSharesModel" (156 : Nat) ({ cls := "BillSharesModel", name := "deal", desc := "(J)V" } : MethodName)) ∈ lw_tbl := wd_4 108 rfl
theorem wx_830 : (Cond.instanceMethod ({ cls := "BillSharesModel", name := "deal", desc := "(J)V" } : MethodName)) ∈ lw_tbl := wd_4 110 rfl
theorem wx_831 : (Cond.code ({ cls := "BillSharesModel", name := "deal", desc := "(J)V" } : MethodName) prog_6_method_25_code (8 : Nat) (Option.none : Option FieldType)) ∈ lw_tbl := wd_4 111 rfl
theorem wx_832 : (Cond.methodLink "BillSharesModel" (131 : Nat) ({ cls := "BillSharesModel", name := "portion", desc := "(JJJ)J" } : MethodName)) ∈ lw_tbl := wd_4 112 rfl
theorem wx_833 : (Cond.static ({ cls := "BillSharesModel", name := "portion", desc := "(JJJ)J" } : MethodName)) ∈ lw_tbl := wd_4 113 rfl
theorem wx_834 : (Cond.code ({ cls := "BillSharesModel", name := "portion", desc := "(JJJ)J" } : MethodName) prog_6_method_23_code (17 : Nat) (Option.some FieldType.long)) ∈ lw_tbl := wd_4 114 rfl
theorem wx_835 : (Cond.constantLong "BillSharesModel" (129 : Nat) (2 : Int64)) ∈ lw_tbl := wd_4 115 rfl
theorem wx_836 : (Cond.methodLink "BillSharesModel" (135 : Nat) ({ cls := "BillSharesModel", name := "before", desc := "(I)I" } : MethodName)) ∈ lw_tbl := wd_4 116 rfl
theorem wx_838 : (Cond.instanceMethod ({ cls := "BillSharesModel", name := "before", desc := "(I)I" } : MethodName)) ∈ lw_tbl := wd_4 118 rfl
theorem wx_839 : (Cond.code ({ cls := "BillSharesModel", name := "before", desc := "(I)I" } : MethodName) prog_6_method_24_code (4 : Nat) (Option.some FieldType.int)) ∈ lw_tbl := wd_4 119 rfl
theorem wx_840 : (Cond.methodLink "BillSharesModel" (160 : Nat) ({ cls := "BillSharesModel", name := "byUses", desc := "(II)V" } : MethodName)) ∈ lw_tbl := wd_4 120 rfl
theorem wx_842 : (Cond.instanceMethod ({ cls := "BillSharesModel", name := "byUses", desc := "(II)V" } : MethodName)) ∈ lw_tbl := wd_4 122 rfl
theorem wx_843 : (Cond.code ({ cls := "BillSharesModel", name := "byUses", desc := "(II)V" } : MethodName) prog_6_method_27_code (9 : Nat) (Option.none : Option FieldType)) ∈ lw_tbl := wd_4 123 rfl
theorem wx_844 : (Cond.methodLink "BillSharesModel" (139 : Nat) ({ cls := "BillSharesModel", name := "barredOf", desc := "(III)I" } : MethodName)) ∈ lw_tbl := wd_4 124 rfl
theorem wx_846 : (Cond.instanceMethod ({ cls := "BillSharesModel", name := "barredOf", desc := "(III)I" } : MethodName)) ∈ lw_tbl := wd_4 126 rfl
theorem wx_847 : (Cond.code ({ cls := "BillSharesModel", name := "barredOf", desc := "(III)I" } : MethodName) prog_6_method_21_code (6 : Nat) (Option.some FieldType.int)) ∈ lw_tbl := wd_4 127 rfl
theorem wx_848 : (Cond.methodLink "BillSharesModel" (121 : Nat) ({ cls := "BillSharesModel", name := "why", desc := "(II)I" } : MethodName)) ∈ lw_tbl := wd_4 128 rfl
theorem wx_850 : (Cond.instanceMethod ({ cls := "BillSharesModel", name := "why", desc := "(II)I" } : MethodName)) ∈ lw_tbl := wd_4 130 rfl
theorem wx_851 : (Cond.code ({ cls := "BillSharesModel", name := "why", desc := "(II)I" } : MethodName) prog_6_method_19_code (6 : Nat) (Option.some FieldType.int)) ∈ lw_tbl := wd_4 131 rfl
theorem wx_852 : (Cond.methodLink "BillSharesModel" (143 : Nat) ({ cls := "BillSharesModel", name := "usedBy", desc := "(IIII)J" } : MethodName)) ∈ lw_tbl := wd_4 132 rfl
theorem wx_854 : (Cond.instanceMethod ({ cls := "BillSharesModel", name := "usedBy", desc := "(IIII)J" } : MethodName)) ∈ lw_tbl := wd_4 134 rfl
theorem wx_855 : (Cond.code ({ cls := "BillSharesModel", name := "usedBy", desc := "(IIII)J" } : MethodName) prog_6_method_22_code (8 : Nat) (Option.some FieldType.long)) ∈ lw_tbl := wd_4 135 rfl
theorem wx_856 : (Cond.methodLink "BillSharesModel" (125 : Nat) ({ cls := "BillSharesModel", name := "useOf", desc := "(III)J" } : MethodName)) ∈ lw_tbl := wd_4 136 rfl
theorem wx_858 : (Cond.instanceMethod ({ cls := "BillSharesModel", name := "useOf", desc := "(III)J" } : MethodName)) ∈ lw_tbl := wd_4 138 rfl
theorem wx_859 : (Cond.code ({ cls := "BillSharesModel", name := "useOf", desc := "(III)J" } : MethodName) prog_6_method_20_code (13 : Nat) (Option.some FieldType.long)) ∈ lw_tbl := wd_4 139 rfl
theorem wx_860 : (Cond.methodLink "BillSharesLaw" (128 : Nat) ({ cls := "BillSharesModel", name := "use", desc := "(II)J" } : MethodName)) ∈ lw_tbl := wd_4 140 rfl
theorem wx_861 : (Cond.instanceMethod ({ cls := "BillSharesModel", name := "use", desc := "(II)J" } : MethodName)) ∈ lw_tbl := wd_4 141 rfl
theorem wx_862 : (Cond.selects "BillSharesModel" ({ cls := "BillSharesModel", name := "use", desc := "(II)J" } : MethodName) ({ cls := "BillSharesModel", name := "use", desc := "(II)J" } : MethodName)) ∈ lw_tbl := wd_4 142 rfl
theorem wx_863 : (Cond.code ({ cls := "BillSharesModel", name := "use", desc := "(II)J" } : MethodName) prog_6_method_30_code (3 : Nat) (Option.some FieldType.long)) ∈ lw_tbl := wd_4 143 rfl
theorem wx_864 : (Cond.constantLong "BillSharesModel" (164 : Nat) (-1 : Int64)) ∈ lw_tbl := wd_4 144 rfl
theorem wx_865 : (Cond.methodLink "BillSharesLaw" (131 : Nat) ({ cls := "BillSharesModel", name := "barred", desc := "(III)I" } : MethodName)) ∈ lw_tbl := wd_4 145 rfl
theorem wx_866 : (Cond.instanceMethod ({ cls := "BillSharesModel", name := "barred", desc := "(III)I" } : MethodName)) ∈ lw_tbl := wd_4 146 rfl
theorem wx_867 : (Cond.selects "BillSharesModel" ({ cls := "BillSharesModel", name := "barred", desc := "(III)I" } : MethodName) ({ cls := "BillSharesModel", name := "barred", desc := "(III)I" } : MethodName)) ∈ lw_tbl := wd_4 147 rfl
theorem wx_868 : (Cond.code ({ cls := "BillSharesModel", name := "barred", desc := "(III)I" } : MethodName) prog_6_method_31_code (4 : Nat) (Option.some FieldType.int)) ∈ lw_tbl := wd_4 148 rfl
theorem wx_869 : (Cond.methodLink "BillSharesLaw" (134 : Nat) ({ cls := "BillSharesModel", name := "line", desc := "(IIII)J" } : MethodName)) ∈ lw_tbl := wd_4 149 rfl
theorem wx_870 : (Cond.instanceMethod ({ cls := "BillSharesModel", name := "line", desc := "(IIII)J" } : MethodName)) ∈ lw_tbl := wd_4 150 rfl
theorem wx_871 : (Cond.selects "BillSharesModel" ({ cls := "BillSharesModel", name := "line", desc := "(IIII)J" } : MethodName) ({ cls := "BillSharesModel", name := "line", desc := "(IIII)J" } : MethodName)) ∈ lw_tbl := wd_4 151 rfl
theorem wx_872 : (Cond.code ({ cls := "BillSharesModel", name := "line", desc := "(IIII)J" } : MethodName) prog_6_method_33_code (6 : Nat) (Option.some FieldType.long)) ∈ lw_tbl := wd_4 152 rfl
theorem wx_873 : (Cond.methodLink "BillSharesModel" (166 : Nat) ({ cls := "BillSharesModel", name := "has", desc := "(ZII)Z" } : MethodName)) ∈ lw_tbl := wd_4 153 rfl
theorem wx_875 : (Cond.instanceMethod ({ cls := "BillSharesModel", name := "has", desc := "(ZII)Z" } : MethodName)) ∈ lw_tbl := wd_4 155 rfl
theorem wx_876 : (Cond.code ({ cls := "BillSharesModel", name := "has", desc := "(ZII)Z" } : MethodName) prog_6_method_32_code (5 : Nat) (Option.some FieldType.boolean)) ∈ lw_tbl := wd_4 156 rfl
theorem wx_877 : (Cond.methodLink "BillSharesLaw" (137 : Nat) ({ cls := "BillSharesModel", name := "share", desc := "(II)J" } : MethodName)) ∈ lw_tbl := wd_4 157 rfl
theorem wx_878 : (Cond.instanceMethod ({ cls := "BillSharesModel", name := "share", desc := "(II)J" } : MethodName)) ∈ lw_tbl := wd_4 158 rfl
theorem wx_879 : (Cond.selects "BillSharesModel" ({ cls := "BillSharesModel", name := "share", desc := "(II)J" } : MethodName) ({ cls := "BillSharesModel", name := "share", desc := "(II)J" } : MethodName)) ∈ lw_tbl := wd_4 159 rfl
theorem wx_880 : (Cond.code ({ cls := "BillSharesModel", name := "share", desc := "(II)J" } : MethodName) prog_6_method_34_code (3 : Nat) (Option.some FieldType.long)) ∈ lw_tbl := wd_4 160 rfl
theorem wx_881 : (Cond.methodLink "BillSharesLaw" (140 : Nat) ({ cls := "BillSharesModel", name := "part", desc := "(III)J" } : MethodName)) ∈ lw_tbl := wd_4 161 rfl
theorem wx_882 : (Cond.instanceMethod ({ cls := "BillSharesModel", name := "part", desc := "(III)J" } : MethodName)) ∈ lw_tbl := wd_4 162 rfl
theorem wx_883 : (Cond.selects "BillSharesModel" ({ cls := "BillSharesModel", name := "part", desc := "(III)J" } : MethodName) ({ cls := "BillSharesModel", name := "part", desc := "(III)J" } : MethodName)) ∈ lw_tbl := wd_4 163 rfl
theorem wx_884 : (Cond.code ({ cls := "BillSharesModel", name := "part", desc := "(III)J" } : MethodName) prog_6_method_39_code (11 : Nat) (Option.some FieldType.long)) ∈ lw_tbl := wd_4 164 rfl
theorem wx_885 : (Cond.methodLink "BillSharesModel" (176 : Nat) ({ cls := "BillSharesModel", name := "days", desc := "(III)I" } : MethodName)) ∈ lw_tbl := wd_4 165 rfl
theorem wx_887 : (Cond.instanceMethod ({ cls := "BillSharesModel", name := "days", desc := "(III)I" } : MethodName)) ∈ lw_tbl := wd_4 167 rfl
theorem wx_888 : (Cond.code ({ cls := "BillSharesModel", name := "days", desc := "(III)I" } : MethodName) prog_6_method_37_code (5 : Nat) (Option.some FieldType.int)) ∈ lw_tbl := wd_4 168 rfl
theorem wx_889 : (Cond.methodLink "BillSharesModel" (170 : Nat) ({ cls := "BillSharesModel", name := "end", desc := "(III)I" } : MethodName)) ∈ lw_tbl := wd_4 169 rfl
theorem wx_891 : (Cond.instanceMethod ({ cls := "BillSharesModel", name := "end", desc := "(III)I" } : MethodName)) ∈ lw_tbl := wd_4 171 rfl
theorem wx_892 : (Cond.code ({ cls := "BillSharesModel", name := "end", desc := "(III)I" } : MethodName) prog_6_method_36_code (5 : Nat) (Option.some FieldType.int)) ∈ lw_tbl := wd_4 172 rfl
theorem wx_893 : (Cond.methodLink "BillSharesModel" (173 : Nat) ({ cls := "BillSharesModel", name := "begin", desc := "(III)I" } : MethodName)) ∈ lw_tbl := wd_4 173 rfl
theorem wx_895 : (Cond.instanceMethod ({ cls := "BillSharesModel", name := "begin", desc := "(III)I" } : MethodName)) ∈ lw_tbl := wd_4 175 rfl
theorem wx_896 : (Cond.code ({ cls := "BillSharesModel", name := "begin", desc := "(III)I" } : MethodName) prog_6_method_35_code (5 : Nat) (Option.some FieldType.int)) ∈ lw_tbl := wd_4 176 rfl
theorem wx_897 : (Cond.methodLink "BillSharesModel" (181 : Nat) ({ cls := "BillSharesModel", name := "own", desc := "(IIII)J" } : MethodName)) ∈ lw_tbl := wd_4 177 rfl
theorem wx_899 : (Cond.instanceMethod ({ cls := "BillSharesModel", name := "own", desc := "(IIII)J" } : MethodName)) ∈ lw_tbl := wd_4 179 rfl
theorem wx_900 : (Cond.code ({ cls := "BillSharesModel", name := "own", desc := "(IIII)J" } : MethodName) prog_6_method_38_code (11 : Nat) (Option.some FieldType.long)) ∈ lw_tbl := wd_4 180 rfl
theorem wx_901 : (Cond.constantLong "BillSharesModel" (179 : Nat) (365 : Int64)) ∈ lw_tbl := wd_4 181 rfl
theorem wx_902 : (Cond.methodLink "BillSharesLaw" (143 : Nat) ({ cls := "BillSharesModel", name := "balance", desc := "(II)J" } : MethodName)) ∈ lw_tbl := wd_4 182 rfl
theorem wx_903 : (Cond.instanceMethod ({ cls := "BillSharesModel", name := "balance", desc := "(II)J" } : MethodName)) ∈ lw_tbl := wd_4 183 rfl
theorem wx_904 : (Cond.selects "BillSharesModel" ({ cls := "BillSharesModel", name := "balance", desc := "(II)J" } : MethodName) ({ cls := "BillSharesModel", name := "balance", desc := "(II)J" } : MethodName)) ∈ lw_tbl := wd_4 184 rfl
theorem wx_905 : (Cond.code ({ cls := "BillSharesModel", name := "balance", desc := "(II)J" } : MethodName) prog_6_method_40_code (3 : Nat) (Option.some FieldType.long)) ∈ lw_tbl := wd_4 185 rfl
theorem wx_906 : (Cond.methodLink "BillSharesLaw" (146 : Nat) ({ cls := "BillSharesModel", name := "difference", desc := "(II)J" } : MethodName)) ∈ lw_tbl := wd_4 186 rfl
theorem wx_907 : (Cond.instanceMethod ({ cls := "BillSharesModel", name := "difference", desc := "(II)J" } : MethodName)) ∈ lw_tbl := wd_4 187 rfl
theorem wx_908 : (Cond.selects "BillSharesModel" ({ cls := "BillSharesModel", name := "difference", desc := "(II)J" } : MethodName) ({ cls := "BillSharesModel", name := "difference", desc := "(II)J" } : MethodName)) ∈ lw_tbl := wd_4 188 rfl
theorem wx_909 : (Cond.code ({ cls := "BillSharesModel", name := "difference", desc := "(II)J" } : MethodName) prog_6_method_41_code (3 : Nat) (Option.some FieldType.long)) ∈ lw_tbl := wd_4 189 rfl
theorem wx_910 : (Cond.methodLink "BillSharesLaw" (149 : Nat) ({ cls := "BillSharesModel", name := "edition", desc := "(I)I" } : MethodName)) ∈ lw_tbl := wd_4 190 rfl
theorem wx_911 : (Cond.instanceMethod ({ cls := "BillSharesModel", name := "edition", desc := "(I)I" } : MethodName)) ∈ lw_tbl := wd_4 191 rfl
theorem wx_912 : (Cond.selects "BillSharesModel" ({ cls := "BillSharesModel", name := "edition", desc := "(I)I" } : MethodName) ({ cls := "BillSharesModel", name := "edition", desc := "(I)I" } : MethodName)) ∈ lw_tbl := wd_4 192 rfl
theorem wx_913 : (Cond.code ({ cls := "BillSharesModel", name := "edition", desc := "(I)I" } : MethodName) prog_6_method_42_code (2 : Nat) (Option.some FieldType.int)) ∈ lw_tbl := wd_4 193 rfl
theorem wx_914 : (Cond.sameMethod "java/lang/Throwable" "java/lang/Throwable" "fillInStackTrace" "(I)Ljava/lang/Throwable;") ∈ lw_tbl := wd_4 194 rfl
theorem wx_915 : (Cond.castable "BillShares$Flat" "BillShares$Flat") ∈ lw_tbl := wd_4 195 rfl
theorem wx_916 : (Cond.castable "BillShares$Meter" "BillShares$Meter") ∈ lw_tbl := wd_4 196 rfl
theorem wx_917 : (Cond.sameMethod "[Ljava/lang/Object;" "java/lang/Object" "getClass" "()Ljava/lang/Class;") ∈ lw_tbl := wd_4 197 rfl
theorem wx_918 : (Cond.selects "[Ljava/lang/Object;" ({ cls := "java/lang/Object", name := "getClass", desc := "()Ljava/lang/Class;" } : MethodName) ({ cls := "java/lang/Object", name := "getClass", desc := "()Ljava/lang/Class;" } : MethodName)) ∈ lw_tbl := wd_4 198 rfl
theorem wx_919 : (Cond.declares ({ cls := "java/lang/Object", name := "getClass", desc := "()Ljava/lang/Class;" } : MethodName)) ∈ lw_tbl := wd_4 199 rfl
theorem wx_920 : (Cond.castable "BillShares" "java/lang/Object") ∈ lw_tbl := wd_4 200 rfl
theorem wx_921 : (Cond.castable "BillSharesModel" "java/lang/Object") ∈ lw_tbl := wd_4 201 rfl
theorem wx_922 : (Cond.castable "BillShares$Flat" "java/lang/Object") ∈ lw_tbl := wd_4 202 rfl
theorem wx_923 : (Cond.castable "BillShares$Meter" "java/lang/Object") ∈ lw_tbl := wd_4 203 rfl
theorem wx_924 : (Cond.castable "BillShares$Bill" "java/lang/Object") ∈ lw_tbl := wd_4 204 rfl
theorem wx_925 : (Cond.castable "java/lang/String" "java/lang/Object") ∈ lw_tbl := wd_4 205 rfl
theorem wp_0 : Cond.selects "java/lang/Throwable" ⟨"java/lang/Throwable", "fillInStackTrace", "(I)Ljava/lang/Throwable;"⟩ ⟨"java/lang/Throwable", "fillInStackTrace", "(I)Ljava/lang/Throwable;"⟩ ∈ lw_tbl := ws_in 0 rfl
theorem wp_1 : Cond.selects "java/util/ArrayList" ⟨"java/util/ArrayList", "add", "(Ljava/lang/Object;[Ljava/lang/Object;I)V"⟩ ⟨"java/util/ArrayList", "add", "(Ljava/lang/Object;[Ljava/lang/Object;I)V"⟩ ∈ lw_tbl := ws_in 1 rfl
theorem wp_2 : Cond.selects "java/util/ArrayList" ⟨"java/util/ArrayList", "grow", "()[Ljava/lang/Object;"⟩ ⟨"java/util/ArrayList", "grow", "()[Ljava/lang/Object;"⟩ ∈ lw_tbl := ws_in 2 rfl
theorem wp_3 : Cond.selects "java/util/ArrayList" ⟨"java/util/ArrayList", "grow", "(I)[Ljava/lang/Object;"⟩ ⟨"java/util/ArrayList", "grow", "(I)[Ljava/lang/Object;"⟩ ∈ lw_tbl := ws_in 3 rfl
theorem wp_4 : Cond.selects "BillShares" ⟨"BillShares", "placeByRank", "(I)I"⟩ ⟨"BillShares", "placeByRank", "(I)I"⟩ ∈ lw_tbl := ws_in 4 rfl
theorem wp_5 : Cond.selects "java/util/ArrayList" ⟨"java/util/ArrayList", "rangeCheckForAdd", "(I)V"⟩ ⟨"java/util/ArrayList", "rangeCheckForAdd", "(I)V"⟩ ∈ lw_tbl := ws_in 5 rfl
theorem wp_6 : Cond.selects "BillShares" ⟨"BillShares", "flatAt", "(I)LBillShares$Flat;"⟩ ⟨"BillShares", "flatAt", "(I)LBillShares$Flat;"⟩ ∈ lw_tbl := ws_in 6 rfl
theorem wp_7 : Cond.selects "BillShares" ⟨"BillShares", "addReading", "(IIII)I"⟩ ⟨"BillShares", "addReading", "(IIII)I"⟩ ∈ lw_tbl := ws_in 7 rfl
theorem wp_8 : Cond.selects "BillShares" ⟨"BillShares", "meterAt", "(I)LBillShares$Meter;"⟩ ⟨"BillShares", "meterAt", "(I)LBillShares$Meter;"⟩ ∈ lw_tbl := ws_in 8 rfl
theorem wp_9 : Cond.selects "BillShares" ⟨"BillShares", "openBills", "(I)V"⟩ ⟨"BillShares", "openBills", "(I)V"⟩ ∈ lw_tbl := ws_in 9 rfl
theorem wp_10 : Cond.selects "BillShares" ⟨"BillShares", "shareOut", "(II)V"⟩ ⟨"BillShares", "shareOut", "(II)V"⟩ ∈ lw_tbl := ws_in 10 rfl
theorem wp_11 : Cond.selects "BillShares" ⟨"BillShares", "weighByArea", "()V"⟩ ⟨"BillShares", "weighByArea", "()V"⟩ ∈ lw_tbl := ws_in 11 rfl
theorem wp_12 : Cond.selects "BillShares" ⟨"BillShares", "dealOut", "(J)V"⟩ ⟨"BillShares", "dealOut", "(J)V"⟩ ∈ lw_tbl := ws_in 12 rfl
theorem wp_13 : Cond.selects "BillShares" ⟨"BillShares", "sumOfWeights", "()J"⟩ ⟨"BillShares", "sumOfWeights", "()J"⟩ ∈ lw_tbl := ws_in 13 rfl
theorem wp_14 : Cond.selects "BillShares" ⟨"BillShares", "weighByUse", "(II)V"⟩ ⟨"BillShares", "weighByUse", "(II)V"⟩ ∈ lw_tbl := ws_in 14 rfl
theorem wp_15 : Cond.selects "BillShares" ⟨"BillShares", "latestBill", "(LBillShares$Flat;I)LBillShares$Bill;"⟩ ⟨"BillShares", "latestBill", "(LBillShares$Flat;I)LBillShares$Bill;"⟩ ∈ lw_tbl := ws_in 15 rfl
theorem wp_16 : Cond.selects "BillSharesModel" ⟨"BillSharesModel", "allows", "(ZZ)Z"⟩ ⟨"BillSharesModel", "allows", "(ZZ)Z"⟩ ∈ lw_tbl := ws_in 16 rfl
theorem wp_17 : Cond.selects "BillSharesModel" ⟨"BillSharesModel", "isFlat", "(I)Z"⟩ ⟨"BillSharesModel", "isFlat", "(I)Z"⟩ ∈ lw_tbl := ws_in 17 rfl
theorem wp_18 : Cond.selects "BillSharesModel" ⟨"BillSharesModel", "put", "(IIIIZ)I"⟩ ⟨"BillSharesModel", "put", "(IIIIZ)I"⟩ ∈ lw_tbl := ws_in 18 rfl
theorem wp_19 : Cond.selects "BillSharesModel" ⟨"BillSharesModel", "isMeter", "(I)Z"⟩ ⟨"BillSharesModel", "isMeter", "(I)Z"⟩ ∈ lw_tbl := ws_in 19 rfl
theorem wp_20 : Cond.selects "BillSharesModel" ⟨"BillSharesModel", "shareOf", "(II)J"⟩ ⟨"BillSharesModel", "shareOf", "(II)J"⟩ ∈ lw_tbl := ws_in 20 rfl
theorem wp_21 : Cond.selects "BillSharesModel" ⟨"BillSharesModel", "byAreas", "()V"⟩ ⟨"BillSharesModel", "byAreas", "()V"⟩ ∈ lw_tbl := ws_in 21 rfl
theorem wp_22 : Cond.selects "BillSharesModel" ⟨"BillSharesModel", "deal", "(J)V"⟩ ⟨"BillSharesModel", "deal", "(J)V"⟩ ∈ lw_tbl := ws_in 22 rfl
theorem wp_23 : Cond.selects "BillSharesModel" ⟨"BillSharesModel", "before", "(I)I"⟩ ⟨"BillSharesModel", "before", "(I)I"⟩ ∈ lw_tbl := ws_in 23 rfl
theorem wp_24 : Cond.selects "BillSharesModel" ⟨"BillSharesModel", "byUses", "(II)V"⟩ ⟨"BillSharesModel", "byUses", "(II)V"⟩ ∈ lw_tbl := ws_in 24 rfl
theorem wp_25 : Cond.selects "BillSharesModel" ⟨"BillSharesModel", "barredOf", "(III)I"⟩ ⟨"BillSharesModel", "barredOf", "(III)I"⟩ ∈ lw_tbl := ws_in 25 rfl
theorem wp_26 : Cond.selects "BillSharesModel" ⟨"BillSharesModel", "why", "(II)I"⟩ ⟨"BillSharesModel", "why", "(II)I"⟩ ∈ lw_tbl := ws_in 26 rfl
theorem wp_27 : Cond.selects "BillSharesModel" ⟨"BillSharesModel", "usedBy", "(IIII)J"⟩ ⟨"BillSharesModel", "usedBy", "(IIII)J"⟩ ∈ lw_tbl := ws_in 27 rfl
theorem wp_28 : Cond.selects "BillSharesModel" ⟨"BillSharesModel", "useOf", "(III)J"⟩ ⟨"BillSharesModel", "useOf", "(III)J"⟩ ∈ lw_tbl := ws_in 28 rfl
theorem wp_29 : Cond.selects "BillSharesModel" ⟨"BillSharesModel", "has", "(ZII)Z"⟩ ⟨"BillSharesModel", "has", "(ZII)Z"⟩ ∈ lw_tbl := ws_in 29 rfl
theorem wp_30 : Cond.selects "BillSharesModel" ⟨"BillSharesModel", "days", "(III)I"⟩ ⟨"BillSharesModel", "days", "(III)I"⟩ ∈ lw_tbl := ws_in 30 rfl
theorem wp_31 : Cond.selects "BillSharesModel" ⟨"BillSharesModel", "end", "(III)I"⟩ ⟨"BillSharesModel", "end", "(III)I"⟩ ∈ lw_tbl := ws_in 31 rfl
theorem wp_32 : Cond.selects "BillSharesModel" ⟨"BillSharesModel", "begin", "(III)I"⟩ ⟨"BillSharesModel", "begin", "(III)I"⟩ ∈ lw_tbl := ws_in 32 rfl
theorem wp_33 : Cond.selects "BillSharesModel" ⟨"BillSharesModel", "own", "(IIII)J"⟩ ⟨"BillSharesModel", "own", "(IIII)J"⟩ ∈ lw_tbl := ws_in 33 rfl
end
section
/-! code rows (written by wip/whole/mkcode.py) -/
abbrev y_M_init : MethodName := ⟨"BillSharesModel", "<init>", "()V"⟩
abbrev b_M_init : ByteArray := prog_6_method_1_code
theorem d_M_init_0 : decode b_M_init 0 = .ok (.aload_n 0, 1) := by decide +kernel
theorem d_M_init_1 : decode b_M_init 1 = .ok (.invokespecial 1, 3) := by decide +kernel
theorem d_M_init_4 : decode b_M_init 4 = .ok (.aload_n 0, 1) := by decide +kernel
theorem d_M_init_5 : decode b_M_init 5 = .ok (.bipush 20, 2) := by decide +kernel
theorem d_M_init_7 : decode b_M_init 7 = .ok (.newarray .int, 2) := by decide +kernel
theorem d_M_init_9 : decode b_M_init 9 = .ok (.putfield 7, 3) := by decide +kernel
theorem d_M_init_12 : decode b_M_init 12 = .ok (.aload_n 0, 1) := by decide +kernel
theorem d_M_init_13 : decode b_M_init 13 = .ok (.bipush 20, 2) := by decide +kernel
theorem d_M_init_15 : decode b_M_init 15 = .ok (.newarray .int, 2) := by decide +kernel
theorem d_M_init_17 : decode b_M_init 17 = .ok (.putfield 13, 3) := by decide +kernel
theorem d_M_init_20 : decode b_M_init 20 = .ok (.aload_n 0, 1) := by decide +kernel
theorem d_M_init_21 : decode b_M_init 21 = .ok (.bipush 20, 2) := by decide +kernel
theorem d_M_init_23 : decode b_M_init 23 = .ok (.newarray .int, 2) := by decide +kernel
theorem d_M_init_25 : decode b_M_init 25 = .ok (.putfield 16, 3) := by decide +kernel
theorem d_M_init_28 : decode b_M_init 28 = .ok (.aload_n 0, 1) := by decide +kernel
theorem d_M_init_29 : decode b_M_init 29 = .ok (.sipush 240, 3) := by decide +kernel
theorem d_M_init_32 : decode b_M_init 32 = .ok (.newarray .int, 2) := by decide +kernel
theorem d_M_init_34 : decode b_M_init 34 = .ok (.putfield 19, 3) := by decide +kernel
theorem d_M_init_37 : decode b_M_init 37 = .ok (.aload_n 0, 1) := by decide +kernel
theorem d_M_init_38 : decode b_M_init 38 = .ok (.sipush 200, 3) := by decide +kernel
theorem d_M_init_41 : decode b_M_init 41 = .ok (.newarray .long, 2) := by decide +kernel
theorem d_M_init_43 : decode b_M_init 43 = .ok (.putfield 22, 3) := by decide +kernel
theorem d_M_init_46 : decode b_M_init 46 = .ok (.aload_n 0, 1) := by decide +kernel
theorem d_M_init_47 : decode b_M_init 47 = .ok (.bipush 60, 2) := by decide +kernel
theorem d_M_init_49 : decode b_M_init 49 = .ok (.newarray .int, 2) := by decide +kernel
theorem d_M_init_51 : decode b_M_init 51 = .ok (.putfield 26, 3) := by decide +kernel
theorem d_M_init_54 : decode b_M_init 54 = .ok (.aload_n 0, 1) := by decide +kernel
theorem d_M_init_55 : decode b_M_init 55 = .ok (.bipush 60, 2) := by decide +kernel
theorem d_M_init_57 : decode b_M_init 57 = .ok (.newarray .int, 2) := by decide +kernel
theorem d_M_init_59 : decode b_M_init 59 = .ok (.putfield 29, 3) := by decide +kernel
theorem d_M_init_62 : decode b_M_init 62 = .ok (.aload_n 0, 1) := by decide +kernel
theorem d_M_init_63 : decode b_M_init 63 = .ok (.bipush 60, 2) := by decide +kernel
theorem d_M_init_65 : decode b_M_init 65 = .ok (.newarray .int, 2) := by decide +kernel
theorem d_M_init_67 : decode b_M_init 67 = .ok (.putfield 32, 3) := by decide +kernel
theorem d_M_init_70 : decode b_M_init 70 = .ok (.aload_n 0, 1) := by decide +kernel
theorem d_M_init_71 : decode b_M_init 71 = .ok (.bipush 60, 2) := by decide +kernel
theorem d_M_init_73 : decode b_M_init 73 = .ok (.newarray .int, 2) := by decide +kernel
theorem d_M_init_75 : decode b_M_init 75 = .ok (.putfield 35, 3) := by decide +kernel
theorem d_M_init_78 : decode b_M_init 78 = .ok (.aload_n 0, 1) := by decide +kernel
theorem d_M_init_79 : decode b_M_init 79 = .ok (.bipush 60, 2) := by decide +kernel
theorem d_M_init_81 : decode b_M_init 81 = .ok (.newarray .int, 2) := by decide +kernel
theorem d_M_init_83 : decode b_M_init 83 = .ok (.putfield 38, 3) := by decide +kernel
theorem d_M_init_86 : decode b_M_init 86 = .ok (.aload_n 0, 1) := by decide +kernel
theorem d_M_init_87 : decode b_M_init 87 = .ok (.bipush 60, 2) := by decide +kernel
theorem d_M_init_89 : decode b_M_init 89 = .ok (.newarray .int, 2) := by decide +kernel
theorem d_M_init_91 : decode b_M_init 91 = .ok (.putfield 41, 3) := by decide +kernel
theorem d_M_init_94 : decode b_M_init 94 = .ok (.aload_n 0, 1) := by decide +kernel
theorem d_M_init_95 : decode b_M_init 95 = .ok (.sipush 2400, 3) := by decide +kernel
theorem d_M_init_98 : decode b_M_init 98 = .ok (.newarray .int, 2) := by decide +kernel
theorem d_M_init_100 : decode b_M_init 100 = .ok (.putfield 44, 3) := by decide +kernel
theorem d_M_init_103 : decode b_M_init 103 = .ok (.aload_n 0, 1) := by decide +kernel
theorem d_M_init_104 : decode b_M_init 104 = .ok (.sipush 2400, 3) := by decide +kernel
theorem d_M_init_107 : decode b_M_init 107 = .ok (.newarray .int, 2) := by decide +kernel
theorem d_M_init_109 : decode b_M_init 109 = .ok (.putfield 47, 3) := by decide +kernel
theorem d_M_init_112 : decode b_M_init 112 = .ok (.aload_n 0, 1) := by decide +kernel
theorem d_M_init_113 : decode b_M_init 113 = .ok (.sipush 2400, 3) := by decide +kernel
theorem d_M_init_116 : decode b_M_init 116 = .ok (.newarray .int, 2) := by decide +kernel
theorem d_M_init_118 : decode b_M_init 118 = .ok (.putfield 50, 3) := by decide +kernel
theorem d_M_init_121 : decode b_M_init 121 = .ok (.aload_n 0, 1) := by decide +kernel
theorem d_M_init_122 : decode b_M_init 122 = .ok (.sipush 2400, 3) := by decide +kernel
theorem d_M_init_125 : decode b_M_init 125 = .ok (.newarray .boolean, 2) := by decide +kernel
theorem d_M_init_127 : decode b_M_init 127 = .ok (.putfield 53, 3) := by decide +kernel
theorem d_M_init_130 : decode b_M_init 130 = .ok (.aload_n 0, 1) := by decide +kernel
theorem d_M_init_131 : decode b_M_init 131 = .ok (.bipush 40, 2) := by decide +kernel
theorem d_M_init_133 : decode b_M_init 133 = .ok (.newarray .int, 2) := by decide +kernel
theorem d_M_init_135 : decode b_M_init 135 = .ok (.putfield 57, 3) := by decide +kernel
theorem d_M_init_138 : decode b_M_init 138 = .ok (.aload_n 0, 1) := by decide +kernel
theorem d_M_init_139 : decode b_M_init 139 = .ok (.iconst 4, 1) := by decide +kernel
theorem d_M_init_140 : decode b_M_init 140 = .ok (.newarray .int, 2) := by decide +kernel
theorem d_M_init_142 : decode b_M_init 142 = .ok (.putfield 60, 3) := by decide +kernel
theorem d_M_init_145 : decode b_M_init 145 = .ok (.aload_n 0, 1) := by decide +kernel
theorem d_M_init_146 : decode b_M_init 146 = .ok (.bipush 10, 2) := by decide +kernel
theorem d_M_init_148 : decode b_M_init 148 = .ok (.newarray .int, 2) := by decide +kernel
theorem d_M_init_150 : decode b_M_init 150 = .ok (.putfield 63, 3) := by decide +kernel
theorem d_M_init_153 : decode b_M_init 153 = .ok (.aload_n 0, 1) := by decide +kernel
theorem d_M_init_154 : decode b_M_init 154 = .ok (.bipush 10, 2) := by decide +kernel
theorem d_M_init_156 : decode b_M_init 156 = .ok (.newarray .int, 2) := by decide +kernel
theorem d_M_init_158 : decode b_M_init 158 = .ok (.putfield 66, 3) := by decide +kernel
theorem d_M_init_161 : decode b_M_init 161 = .ok (.aload_n 0, 1) := by decide +kernel
theorem d_M_init_162 : decode b_M_init 162 = .ok (.bipush 10, 2) := by decide +kernel
theorem d_M_init_164 : decode b_M_init 164 = .ok (.newarray .int, 2) := by decide +kernel
theorem d_M_init_166 : decode b_M_init 166 = .ok (.putfield 69, 3) := by decide +kernel
theorem d_M_init_169 : decode b_M_init 169 = .ok (.aload_n 0, 1) := by decide +kernel
theorem d_M_init_170 : decode b_M_init 170 = .ok (.sipush 800, 3) := by decide +kernel
theorem d_M_init_173 : decode b_M_init 173 = .ok (.newarray .long, 2) := by decide +kernel
theorem d_M_init_175 : decode b_M_init 175 = .ok (.putfield 72, 3) := by decide +kernel
theorem d_M_init_178 : decode b_M_init 178 = .ok (.aload_n 0, 1) := by decide +kernel
theorem d_M_init_179 : decode b_M_init 179 = .ok (.sipush 800, 3) := by decide +kernel
theorem d_M_init_182 : decode b_M_init 182 = .ok (.newarray .long, 2) := by decide +kernel
theorem d_M_init_184 : decode b_M_init 184 = .ok (.putfield 75, 3) := by decide +kernel
theorem d_M_init_187 : decode b_M_init 187 = .ok (.aload_n 0, 1) := by decide +kernel
theorem d_M_init_188 : decode b_M_init 188 = .ok (.sipush 200, 3) := by decide +kernel
theorem d_M_init_191 : decode b_M_init 191 = .ok (.newarray .long, 2) := by decide +kernel
theorem d_M_init_193 : decode b_M_init 193 = .ok (.putfield 78, 3) := by decide +kernel
theorem d_M_init_196 : decode b_M_init 196 = .ok (.aload_n 0, 1) := by decide +kernel
theorem d_M_init_197 : decode b_M_init 197 = .ok (.bipush 20, 2) := by decide +kernel
theorem d_M_init_199 : decode b_M_init 199 = .ok (.newarray .long, 2) := by decide +kernel
theorem d_M_init_201 : decode b_M_init 201 = .ok (.putfield 81, 3) := by decide +kernel
theorem d_M_init_204 : decode b_M_init 204 = .ok (.aload_n 0, 1) := by decide +kernel
theorem d_M_init_205 : decode b_M_init 205 = .ok (.bipush 20, 2) := by decide +kernel
theorem d_M_init_207 : decode b_M_init 207 = .ok (.newarray .long, 2) := by decide +kernel
theorem d_M_init_209 : decode b_M_init 209 = .ok (.putfield 84, 3) := by decide +kernel
theorem d_M_init_212 : decode b_M_init 212 = .ok (.iconst 0, 1) := by decide +kernel
theorem d_M_init_213 : decode b_M_init 213 = .ok (.istore_n 1, 1) := by decide +kernel
theorem d_M_init_214 : decode b_M_init 214 = .ok (.iload_n 1, 1) := by decide +kernel
theorem d_M_init_215 : decode b_M_init 215 = .ok (.iconst 4, 1) := by decide +kernel
theorem d_M_init_216 : decode b_M_init 216 = .ok (.if_icmp .ge 17, 3) := by decide +kernel
theorem d_M_init_219 : decode b_M_init 219 = .ok (.aload_n 0, 1) := by decide +kernel
theorem d_M_init_220 : decode b_M_init 220 = .ok (.getfield 60, 3) := by decide +kernel
theorem d_M_init_223 : decode b_M_init 223 = .ok (.iload_n 1, 1) := by decide +kernel
theorem d_M_init_224 : decode b_M_init 224 = .ok (.bipush 30, 2) := by decide +kernel
theorem d_M_init_226 : decode b_M_init 226 = .ok (.iastore, 1) := by decide +kernel
theorem d_M_init_227 : decode b_M_init 227 = .ok (.iinc 1 1, 3) := by decide +kernel
theorem d_M_init_230 : decode b_M_init 230 = .ok (.goto (-16), 3) := by decide +kernel
theorem d_M_init_233 : decode b_M_init 233 = .ok (.return_, 1) := by decide +kernel
theorem cal_M_init : am_cal y_M_init b_M_init 2 ((Option.none : Option FieldType)) 0 := ⟨Or.inl wx_659, wx_6, by decide, by decide +kernel⟩
abbrev y_M_thrown : MethodName := ⟨"BillSharesModel", "thrown", "()I"⟩
abbrev b_M_thrown : ByteArray := prog_6_method_2_code
theorem d_M_thrown_0 : decode b_M_thrown 0 = .ok (.aload_n 0, 1) := by decide +kernel
theorem d_M_thrown_1 : decode b_M_thrown 1 = .ok (.getfield 87, 3) := by decide +kernel
theorem d_M_thrown_4 : decode b_M_thrown 4 = .ok (.ireturn, 1) := by decide +kernel
theorem cal_M_thrown : am_cal y_M_thrown b_M_thrown 1 ((Option.some FieldType.int)) 0 := ⟨Or.inl wx_750, wx_6, by decide, by decide +kernel⟩
abbrev y_M_flat : MethodName := ⟨"BillSharesModel", "flat", "(II)I"⟩
abbrev b_M_flat : ByteArray := prog_6_method_8_code
theorem d_M_flat_0 : decode b_M_flat 0 = .ok (.aload_n 0, 1) := by decide +kernel
theorem d_M_flat_1 : decode b_M_flat 1 = .ok (.iload_n 1, 1) := by decide +kernel
theorem d_M_flat_2 : decode b_M_flat 2 = .ok (.iconst 1, 1) := by decide +kernel
theorem d_M_flat_3 : decode b_M_flat 3 = .ok (.sipush 1000, 3) := by decide +kernel
theorem d_M_flat_6 : decode b_M_flat 6 = .ok (.invokestatic 92, 3) := by decide +kernel
theorem d_M_flat_9 : decode b_M_flat 9 = .ok (.ifCond .eq 17, 3) := by decide +kernel
theorem d_M_flat_12 : decode b_M_flat 12 = .ok (.iload_n 2, 1) := by decide +kernel
theorem d_M_flat_13 : decode b_M_flat 13 = .ok (.iconst 0, 1) := by decide +kernel
theorem d_M_flat_14 : decode b_M_flat 14 = .ok (.bipush 99, 2) := by decide +kernel
theorem d_M_flat_16 : decode b_M_flat 16 = .ok (.invokestatic 92, 3) := by decide +kernel
theorem d_M_flat_19 : decode b_M_flat 19 = .ok (.ifCond .eq 7, 3) := by decide +kernel
theorem d_M_flat_22 : decode b_M_flat 22 = .ok (.iconst 1, 1) := by decide +kernel
theorem d_M_flat_23 : decode b_M_flat 23 = .ok (.goto 4, 3) := by decide +kernel
theorem d_M_flat_26 : decode b_M_flat 26 = .ok (.iconst 0, 1) := by decide +kernel
theorem d_M_flat_27 : decode b_M_flat 27 = .ok (.aload_n 0, 1) := by decide +kernel
theorem d_M_flat_28 : decode b_M_flat 28 = .ok (.getfield 96, 3) := by decide +kernel
theorem d_M_flat_31 : decode b_M_flat 31 = .ok (.bipush 20, 2) := by decide +kernel
theorem d_M_flat_33 : decode b_M_flat 33 = .ok (.if_icmp .ge 7, 3) := by decide +kernel
theorem d_M_flat_36 : decode b_M_flat 36 = .ok (.iconst 1, 1) := by decide +kernel
theorem d_M_flat_37 : decode b_M_flat 37 = .ok (.goto 4, 3) := by decide +kernel
theorem d_M_flat_40 : decode b_M_flat 40 = .ok (.iconst 0, 1) := by decide +kernel
theorem d_M_flat_41 : decode b_M_flat 41 = .ok (.invokevirtual 102, 3) := by decide +kernel
theorem d_M_flat_44 : decode b_M_flat 44 = .ok (.ifCond .ne 5, 3) := by decide +kernel
theorem d_M_flat_47 : decode b_M_flat 47 = .ok (.iconst 0, 1) := by decide +kernel
theorem d_M_flat_48 : decode b_M_flat 48 = .ok (.ireturn, 1) := by decide +kernel
theorem d_M_flat_49 : decode b_M_flat 49 = .ok (.aload_n 0, 1) := by decide +kernel
theorem d_M_flat_50 : decode b_M_flat 50 = .ok (.getfield 7, 3) := by decide +kernel
theorem d_M_flat_53 : decode b_M_flat 53 = .ok (.aload_n 0, 1) := by decide +kernel
theorem d_M_flat_54 : decode b_M_flat 54 = .ok (.getfield 96, 3) := by decide +kernel
theorem d_M_flat_57 : decode b_M_flat 57 = .ok (.iload_n 1, 1) := by decide +kernel
theorem d_M_flat_58 : decode b_M_flat 58 = .ok (.iastore, 1) := by decide +kernel
theorem d_M_flat_59 : decode b_M_flat 59 = .ok (.aload_n 0, 1) := by decide +kernel
theorem d_M_flat_60 : decode b_M_flat 60 = .ok (.getfield 13, 3) := by decide +kernel
theorem d_M_flat_63 : decode b_M_flat 63 = .ok (.aload_n 0, 1) := by decide +kernel
theorem d_M_flat_64 : decode b_M_flat 64 = .ok (.getfield 96, 3) := by decide +kernel
theorem d_M_flat_67 : decode b_M_flat 67 = .ok (.iload_n 2, 1) := by decide +kernel
theorem d_M_flat_68 : decode b_M_flat 68 = .ok (.iastore, 1) := by decide +kernel
theorem d_M_flat_69 : decode b_M_flat 69 = .ok (.aload_n 0, 1) := by decide +kernel
theorem d_M_flat_70 : decode b_M_flat 70 = .ok (.getfield 16, 3) := by decide +kernel
theorem d_M_flat_73 : decode b_M_flat 73 = .ok (.aload_n 0, 1) := by decide +kernel
theorem d_M_flat_74 : decode b_M_flat 74 = .ok (.getfield 96, 3) := by decide +kernel
theorem d_M_flat_77 : decode b_M_flat 77 = .ok (.iconst 1, 1) := by decide +kernel
theorem d_M_flat_78 : decode b_M_flat 78 = .ok (.iastore, 1) := by decide +kernel
theorem d_M_flat_79 : decode b_M_flat 79 = .ok (.aload_n 0, 1) := by decide +kernel
theorem d_M_flat_80 : decode b_M_flat 80 = .ok (.dup, 1) := by decide +kernel
theorem d_M_flat_81 : decode b_M_flat 81 = .ok (.getfield 96, 3) := by decide +kernel
theorem d_M_flat_84 : decode b_M_flat 84 = .ok (.iconst 1, 1) := by decide +kernel
theorem d_M_flat_85 : decode b_M_flat 85 = .ok (.iadd, 1) := by decide +kernel
theorem d_M_flat_86 : decode b_M_flat 86 = .ok (.putfield 96, 3) := by decide +kernel
theorem d_M_flat_89 : decode b_M_flat 89 = .ok (.aload_n 0, 1) := by decide +kernel
theorem d_M_flat_90 : decode b_M_flat 90 = .ok (.getfield 96, 3) := by decide +kernel
theorem d_M_flat_93 : decode b_M_flat 93 = .ok (.iconst 1, 1) := by decide +kernel
theorem d_M_flat_94 : decode b_M_flat 94 = .ok (.isub, 1) := by decide +kernel
theorem d_M_flat_95 : decode b_M_flat 95 = .ok (.ireturn, 1) := by decide +kernel
theorem cal_M_flat : am_cal y_M_flat b_M_flat 3 ((Option.some FieldType.int)) 2 := ⟨Or.inl wx_754, wx_6, by decide, by decide +kernel⟩
abbrev y_M_isIn : MethodName := ⟨"BillSharesModel", "isIn", "(III)Z"⟩
abbrev b_M_isIn : ByteArray := prog_6_method_4_code
theorem d_M_isIn_0 : decode b_M_isIn 0 = .ok (.iload_n 0, 1) := by decide +kernel
theorem d_M_isIn_1 : decode b_M_isIn 1 = .ok (.iload_n 1, 1) := by decide +kernel
theorem d_M_isIn_2 : decode b_M_isIn 2 = .ok (.if_icmp .lt 12, 3) := by decide +kernel
theorem d_M_isIn_5 : decode b_M_isIn 5 = .ok (.iload_n 0, 1) := by decide +kernel
theorem d_M_isIn_6 : decode b_M_isIn 6 = .ok (.iload_n 2, 1) := by decide +kernel
theorem d_M_isIn_7 : decode b_M_isIn 7 = .ok (.if_icmp .gt 7, 3) := by decide +kernel
theorem d_M_isIn_10 : decode b_M_isIn 10 = .ok (.iconst 1, 1) := by decide +kernel
theorem d_M_isIn_11 : decode b_M_isIn 11 = .ok (.goto 4, 3) := by decide +kernel
theorem d_M_isIn_14 : decode b_M_isIn 14 = .ok (.iconst 0, 1) := by decide +kernel
theorem d_M_isIn_15 : decode b_M_isIn 15 = .ok (.ireturn, 1) := by decide +kernel
theorem cal_M_isIn : am_cal y_M_isIn b_M_isIn 3 ((Option.some FieldType.boolean)) 3 := ⟨Or.inl wx_757, wx_6, by decide, by decide +kernel⟩
abbrev y_M_allows : MethodName := ⟨"BillSharesModel", "allows", "(ZZ)Z"⟩
abbrev b_M_allows : ByteArray := prog_6_method_3_code
theorem d_M_allows_0 : decode b_M_allows 0 = .ok (.aload_n 0, 1) := by decide +kernel
theorem d_M_allows_1 : decode b_M_allows 1 = .ok (.iload_n 1, 1) := by decide +kernel
theorem d_M_allows_2 : decode b_M_allows 2 = .ok (.ifCond .ne 7, 3) := by decide +kernel
theorem d_M_allows_5 : decode b_M_allows 5 = .ok (.iconst 1, 1) := by decide +kernel
theorem d_M_allows_6 : decode b_M_allows 6 = .ok (.goto 12, 3) := by decide +kernel
theorem d_M_allows_9 : decode b_M_allows 9 = .ok (.iload_n 2, 1) := by decide +kernel
theorem d_M_allows_10 : decode b_M_allows 10 = .ok (.ifCond .ne 7, 3) := by decide +kernel
theorem d_M_allows_13 : decode b_M_allows 13 = .ok (.iconst 2, 1) := by decide +kernel
theorem d_M_allows_14 : decode b_M_allows 14 = .ok (.goto 4, 3) := by decide +kernel
theorem d_M_allows_17 : decode b_M_allows 17 = .ok (.iconst 0, 1) := by decide +kernel
theorem d_M_allows_18 : decode b_M_allows 18 = .ok (.putfield 87, 3) := by decide +kernel
theorem d_M_allows_21 : decode b_M_allows 21 = .ok (.aload_n 0, 1) := by decide +kernel
theorem d_M_allows_22 : decode b_M_allows 22 = .ok (.getfield 87, 3) := by decide +kernel
theorem d_M_allows_25 : decode b_M_allows 25 = .ok (.ifCond .ne 7, 3) := by decide +kernel
theorem d_M_allows_28 : decode b_M_allows 28 = .ok (.iconst 1, 1) := by decide +kernel
theorem d_M_allows_29 : decode b_M_allows 29 = .ok (.goto 4, 3) := by decide +kernel
theorem d_M_allows_32 : decode b_M_allows 32 = .ok (.iconst 0, 1) := by decide +kernel
theorem d_M_allows_33 : decode b_M_allows 33 = .ok (.ireturn, 1) := by decide +kernel
theorem cal_M_allows : am_cal y_M_allows b_M_allows 3 ((Option.some FieldType.boolean)) 2 := ⟨Or.inl wx_761, wx_6, by decide, by decide +kernel⟩
abbrev y_M_meter : MethodName := ⟨"BillSharesModel", "meter", "(IIIII)I"⟩
abbrev b_M_meter : ByteArray := prog_6_method_9_code
theorem d_M_meter_0 : decode b_M_meter 0 = .ok (.aload_n 0, 1) := by decide +kernel
theorem d_M_meter_1 : decode b_M_meter 1 = .ok (.iload_n 1, 1) := by decide +kernel
theorem d_M_meter_2 : decode b_M_meter 2 = .ok (.invokevirtual 106, 3) := by decide +kernel
theorem d_M_meter_5 : decode b_M_meter 5 = .ok (.ifCond .eq 51, 3) := by decide +kernel
theorem d_M_meter_8 : decode b_M_meter 8 = .ok (.iload_n 2, 1) := by decide +kernel
theorem d_M_meter_9 : decode b_M_meter 9 = .ok (.iconst 0, 1) := by decide +kernel
theorem d_M_meter_10 : decode b_M_meter 10 = .ok (.iconst 3, 1) := by decide +kernel
theorem d_M_meter_11 : decode b_M_meter 11 = .ok (.invokestatic 92, 3) := by decide +kernel
theorem d_M_meter_14 : decode b_M_meter 14 = .ok (.ifCond .eq 42, 3) := by decide +kernel
theorem d_M_meter_17 : decode b_M_meter 17 = .ok (.iload_n 3, 1) := by decide +kernel
theorem d_M_meter_18 : decode b_M_meter 18 = .ok (.iconst 1, 1) := by decide +kernel
theorem d_M_meter_19 : decode b_M_meter 19 = .ok (.sipush 1000, 3) := by decide +kernel
theorem d_M_meter_22 : decode b_M_meter 22 = .ok (.invokestatic 92, 3) := by decide +kernel
theorem d_M_meter_25 : decode b_M_meter 25 = .ok (.ifCond .eq 31, 3) := by decide +kernel
theorem d_M_meter_28 : decode b_M_meter 28 = .ok (.iload 4, 2) := by decide +kernel
theorem d_M_meter_30 : decode b_M_meter 30 = .ok (.iconst 1, 1) := by decide +kernel
theorem d_M_meter_31 : decode b_M_meter 31 = .ok (.sipush 1000, 3) := by decide +kernel
theorem d_M_meter_34 : decode b_M_meter 34 = .ok (.invokestatic 92, 3) := by decide +kernel
theorem d_M_meter_37 : decode b_M_meter 37 = .ok (.ifCond .eq 19, 3) := by decide +kernel
theorem d_M_meter_40 : decode b_M_meter 40 = .ok (.iload 5, 2) := by decide +kernel
theorem d_M_meter_42 : decode b_M_meter 42 = .ok (.iconst 0, 1) := by decide +kernel
theorem d_M_meter_43 : decode b_M_meter 43 = .ok (.sipush 3649, 3) := by decide +kernel
theorem d_M_meter_46 : decode b_M_meter 46 = .ok (.invokestatic 92, 3) := by decide +kernel
theorem d_M_meter_49 : decode b_M_meter 49 = .ok (.ifCond .eq 7, 3) := by decide +kernel
theorem d_M_meter_52 : decode b_M_meter 52 = .ok (.iconst 1, 1) := by decide +kernel
theorem d_M_meter_53 : decode b_M_meter 53 = .ok (.goto 4, 3) := by decide +kernel
theorem d_M_meter_56 : decode b_M_meter 56 = .ok (.iconst 0, 1) := by decide +kernel
theorem d_M_meter_57 : decode b_M_meter 57 = .ok (.istore 6, 2) := by decide +kernel
theorem d_M_meter_59 : decode b_M_meter 59 = .ok (.aload_n 0, 1) := by decide +kernel
theorem d_M_meter_60 : decode b_M_meter 60 = .ok (.iload 6, 2) := by decide +kernel
theorem d_M_meter_62 : decode b_M_meter 62 = .ok (.aload_n 0, 1) := by decide +kernel
theorem d_M_meter_63 : decode b_M_meter 63 = .ok (.getfield 99, 3) := by decide +kernel
theorem d_M_meter_66 : decode b_M_meter 66 = .ok (.bipush 60, 2) := by decide +kernel
theorem d_M_meter_68 : decode b_M_meter 68 = .ok (.if_icmp .ge 7, 3) := by decide +kernel
theorem d_M_meter_71 : decode b_M_meter 71 = .ok (.iconst 1, 1) := by decide +kernel
theorem d_M_meter_72 : decode b_M_meter 72 = .ok (.goto 4, 3) := by decide +kernel
theorem d_M_meter_75 : decode b_M_meter 75 = .ok (.iconst 0, 1) := by decide +kernel
theorem d_M_meter_76 : decode b_M_meter 76 = .ok (.invokevirtual 102, 3) := by decide +kernel
theorem d_M_meter_79 : decode b_M_meter 79 = .ok (.ifCond .ne 5, 3) := by decide +kernel
theorem d_M_meter_82 : decode b_M_meter 82 = .ok (.iconst 0, 1) := by decide +kernel
theorem d_M_meter_83 : decode b_M_meter 83 = .ok (.ireturn, 1) := by decide +kernel
theorem d_M_meter_84 : decode b_M_meter 84 = .ok (.aload_n 0, 1) := by decide +kernel
theorem d_M_meter_85 : decode b_M_meter 85 = .ok (.getfield 26, 3) := by decide +kernel
theorem d_M_meter_88 : decode b_M_meter 88 = .ok (.aload_n 0, 1) := by decide +kernel
theorem d_M_meter_89 : decode b_M_meter 89 = .ok (.getfield 99, 3) := by decide +kernel
theorem d_M_meter_92 : decode b_M_meter 92 = .ok (.iload_n 1, 1) := by decide +kernel
theorem d_M_meter_93 : decode b_M_meter 93 = .ok (.iastore, 1) := by decide +kernel
theorem d_M_meter_94 : decode b_M_meter 94 = .ok (.aload_n 0, 1) := by decide +kernel
theorem d_M_meter_95 : decode b_M_meter 95 = .ok (.getfield 29, 3) := by decide +kernel
theorem d_M_meter_98 : decode b_M_meter 98 = .ok (.aload_n 0, 1) := by decide +kernel
theorem d_M_meter_99 : decode b_M_meter 99 = .ok (.getfield 99, 3) := by decide +kernel
theorem d_M_meter_102 : decode b_M_meter 102 = .ok (.iload_n 2, 1) := by decide +kernel
theorem d_M_meter_103 : decode b_M_meter 103 = .ok (.iastore, 1) := by decide +kernel
theorem d_M_meter_104 : decode b_M_meter 104 = .ok (.aload_n 0, 1) := by decide +kernel
theorem d_M_meter_105 : decode b_M_meter 105 = .ok (.getfield 32, 3) := by decide +kernel
theorem d_M_meter_108 : decode b_M_meter 108 = .ok (.aload_n 0, 1) := by decide +kernel
theorem d_M_meter_109 : decode b_M_meter 109 = .ok (.getfield 99, 3) := by decide +kernel
theorem d_M_meter_112 : decode b_M_meter 112 = .ok (.iload_n 3, 1) := by decide +kernel
theorem d_M_meter_113 : decode b_M_meter 113 = .ok (.iastore, 1) := by decide +kernel
theorem d_M_meter_114 : decode b_M_meter 114 = .ok (.aload_n 0, 1) := by decide +kernel
theorem d_M_meter_115 : decode b_M_meter 115 = .ok (.getfield 35, 3) := by decide +kernel
theorem d_M_meter_118 : decode b_M_meter 118 = .ok (.aload_n 0, 1) := by decide +kernel
theorem d_M_meter_119 : decode b_M_meter 119 = .ok (.getfield 99, 3) := by decide +kernel
theorem d_M_meter_122 : decode b_M_meter 122 = .ok (.iload 4, 2) := by decide +kernel
theorem d_M_meter_124 : decode b_M_meter 124 = .ok (.iastore, 1) := by decide +kernel
theorem d_M_meter_125 : decode b_M_meter 125 = .ok (.aload_n 0, 1) := by decide +kernel
theorem d_M_meter_126 : decode b_M_meter 126 = .ok (.getfield 38, 3) := by decide +kernel
theorem d_M_meter_129 : decode b_M_meter 129 = .ok (.aload_n 0, 1) := by decide +kernel
theorem d_M_meter_130 : decode b_M_meter 130 = .ok (.getfield 99, 3) := by decide +kernel
theorem d_M_meter_133 : decode b_M_meter 133 = .ok (.iload 5, 2) := by decide +kernel
theorem d_M_meter_135 : decode b_M_meter 135 = .ok (.iastore, 1) := by decide +kernel
theorem d_M_meter_136 : decode b_M_meter 136 = .ok (.aload_n 0, 1) := by decide +kernel
theorem d_M_meter_137 : decode b_M_meter 137 = .ok (.dup, 1) := by decide +kernel
theorem d_M_meter_138 : decode b_M_meter 138 = .ok (.getfield 99, 3) := by decide +kernel
theorem d_M_meter_141 : decode b_M_meter 141 = .ok (.iconst 1, 1) := by decide +kernel
theorem d_M_meter_142 : decode b_M_meter 142 = .ok (.iadd, 1) := by decide +kernel
theorem d_M_meter_143 : decode b_M_meter 143 = .ok (.putfield 99, 3) := by decide +kernel
theorem d_M_meter_146 : decode b_M_meter 146 = .ok (.aload_n 0, 1) := by decide +kernel
theorem d_M_meter_147 : decode b_M_meter 147 = .ok (.getfield 99, 3) := by decide +kernel
theorem d_M_meter_150 : decode b_M_meter 150 = .ok (.iconst 1, 1) := by decide +kernel
theorem d_M_meter_151 : decode b_M_meter 151 = .ok (.isub, 1) := by decide +kernel
theorem d_M_meter_152 : decode b_M_meter 152 = .ok (.ireturn, 1) := by decide +kernel
theorem cal_M_meter : am_cal y_M_meter b_M_meter 7 ((Option.some FieldType.int)) 5 := ⟨Or.inl wx_765, wx_6, by decide, by decide +kernel⟩
abbrev y_M_isFlat : MethodName := ⟨"BillSharesModel", "isFlat", "(I)Z"⟩
abbrev b_M_isFlat : ByteArray := prog_6_method_6_code
theorem d_M_isFlat_0 : decode b_M_isFlat 0 = .ok (.iload_n 1, 1) := by decide +kernel
theorem d_M_isFlat_1 : decode b_M_isFlat 1 = .ok (.ifCond .lt 15, 3) := by decide +kernel
theorem d_M_isFlat_4 : decode b_M_isFlat 4 = .ok (.iload_n 1, 1) := by decide +kernel
theorem d_M_isFlat_5 : decode b_M_isFlat 5 = .ok (.aload_n 0, 1) := by decide +kernel
theorem d_M_isFlat_6 : decode b_M_isFlat 6 = .ok (.getfield 96, 3) := by decide +kernel
theorem d_M_isFlat_9 : decode b_M_isFlat 9 = .ok (.if_icmp .ge 7, 3) := by decide +kernel
theorem d_M_isFlat_12 : decode b_M_isFlat 12 = .ok (.iconst 1, 1) := by decide +kernel
theorem d_M_isFlat_13 : decode b_M_isFlat 13 = .ok (.goto 4, 3) := by decide +kernel
theorem d_M_isFlat_16 : decode b_M_isFlat 16 = .ok (.iconst 0, 1) := by decide +kernel
theorem d_M_isFlat_17 : decode b_M_isFlat 17 = .ok (.ireturn, 1) := by decide +kernel
theorem cal_M_isFlat : am_cal y_M_isFlat b_M_isFlat 2 ((Option.some FieldType.boolean)) 1 := ⟨Or.inl wx_769, wx_6, by decide, by decide +kernel⟩
abbrev y_M_reading : MethodName := ⟨"BillSharesModel", "reading", "(III)I"⟩
abbrev b_M_reading : ByteArray := prog_6_method_11_code
theorem d_M_reading_0 : decode b_M_reading 0 = .ok (.aload_n 0, 1) := by decide +kernel
theorem d_M_reading_1 : decode b_M_reading 1 = .ok (.iload_n 1, 1) := by decide +kernel
theorem d_M_reading_2 : decode b_M_reading 2 = .ok (.iload_n 2, 1) := by decide +kernel
theorem d_M_reading_3 : decode b_M_reading 3 = .ok (.iload_n 3, 1) := by decide +kernel
theorem d_M_reading_4 : decode b_M_reading 4 = .ok (.iload_n 3, 1) := by decide +kernel
theorem d_M_reading_5 : decode b_M_reading 5 = .ok (.iconst 0, 1) := by decide +kernel
theorem d_M_reading_6 : decode b_M_reading 6 = .ok (.invokevirtual 116, 3) := by decide +kernel
theorem d_M_reading_9 : decode b_M_reading 9 = .ok (.ireturn, 1) := by decide +kernel
theorem cal_M_reading : am_cal y_M_reading b_M_reading 4 ((Option.some FieldType.int)) 3 := ⟨Or.inl wx_773, wx_6, by decide, by decide +kernel⟩
abbrev y_M_put : MethodName := ⟨"BillSharesModel", "put", "(IIIIZ)I"⟩
abbrev b_M_put : ByteArray := prog_6_method_10_code
theorem d_M_put_0 : decode b_M_put 0 = .ok (.aload_n 0, 1) := by decide +kernel
theorem d_M_put_1 : decode b_M_put 1 = .ok (.iload_n 1, 1) := by decide +kernel
theorem d_M_put_2 : decode b_M_put 2 = .ok (.invokevirtual 110, 3) := by decide +kernel
theorem d_M_put_5 : decode b_M_put 5 = .ok (.ifCond .eq 19, 3) := by decide +kernel
theorem d_M_put_8 : decode b_M_put 8 = .ok (.bipush 40, 2) := by decide +kernel
theorem d_M_put_10 : decode b_M_put 10 = .ok (.iload_n 1, 1) := by decide +kernel
theorem d_M_put_11 : decode b_M_put 11 = .ok (.imul, 1) := by decide +kernel
theorem d_M_put_12 : decode b_M_put 12 = .ok (.aload_n 0, 1) := by decide +kernel
theorem d_M_put_13 : decode b_M_put 13 = .ok (.getfield 41, 3) := by decide +kernel
theorem d_M_put_16 : decode b_M_put 16 = .ok (.iload_n 1, 1) := by decide +kernel
theorem d_M_put_17 : decode b_M_put 17 = .ok (.iaload, 1) := by decide +kernel
theorem d_M_put_18 : decode b_M_put 18 = .ok (.iadd, 1) := by decide +kernel
theorem d_M_put_19 : decode b_M_put 19 = .ok (.iconst 1, 1) := by decide +kernel
theorem d_M_put_20 : decode b_M_put 20 = .ok (.isub, 1) := by decide +kernel
theorem d_M_put_21 : decode b_M_put 21 = .ok (.goto 4, 3) := by decide +kernel
theorem d_M_put_24 : decode b_M_put 24 = .ok (.iconst 0, 1) := by decide +kernel
theorem d_M_put_25 : decode b_M_put 25 = .ok (.istore 6, 2) := by decide +kernel
theorem d_M_put_27 : decode b_M_put 27 = .ok (.aload_n 0, 1) := by decide +kernel
theorem d_M_put_28 : decode b_M_put 28 = .ok (.iload_n 1, 1) := by decide +kernel
theorem d_M_put_29 : decode b_M_put 29 = .ok (.invokevirtual 110, 3) := by decide +kernel
theorem d_M_put_32 : decode b_M_put 32 = .ok (.ifCond .eq 33, 3) := by decide +kernel
theorem d_M_put_35 : decode b_M_put 35 = .ok (.iload_n 2, 1) := by decide +kernel
theorem d_M_put_36 : decode b_M_put 36 = .ok (.iconst 0, 1) := by decide +kernel
theorem d_M_put_37 : decode b_M_put 37 = .ok (.sipush 3649, 3) := by decide +kernel
theorem d_M_put_40 : decode b_M_put 40 = .ok (.invokestatic 92, 3) := by decide +kernel
theorem d_M_put_43 : decode b_M_put 43 = .ok (.ifCond .eq 22, 3) := by decide +kernel
theorem d_M_put_46 : decode b_M_put 46 = .ok (.iload_n 3, 1) := by decide +kernel
theorem d_M_put_47 : decode b_M_put 47 = .ok (.invokestatic 113, 3) := by decide +kernel
theorem d_M_put_50 : decode b_M_put 50 = .ok (.ifCond .eq 15, 3) := by decide +kernel
theorem d_M_put_53 : decode b_M_put 53 = .ok (.iload 4, 2) := by decide +kernel
theorem d_M_put_55 : decode b_M_put 55 = .ok (.invokestatic 113, 3) := by decide +kernel
theorem d_M_put_58 : decode b_M_put 58 = .ok (.ifCond .eq 7, 3) := by decide +kernel
theorem d_M_put_61 : decode b_M_put 61 = .ok (.iconst 1, 1) := by decide +kernel
theorem d_M_put_62 : decode b_M_put 62 = .ok (.goto 4, 3) := by decide +kernel
theorem d_M_put_65 : decode b_M_put 65 = .ok (.iconst 0, 1) := by decide +kernel
theorem d_M_put_66 : decode b_M_put 66 = .ok (.istore 7, 2) := by decide +kernel
theorem d_M_put_68 : decode b_M_put 68 = .ok (.iload 7, 2) := by decide +kernel
theorem d_M_put_70 : decode b_M_put 70 = .ok (.ifCond .eq 38, 3) := by decide +kernel
theorem d_M_put_73 : decode b_M_put 73 = .ok (.aload_n 0, 1) := by decide +kernel
theorem d_M_put_74 : decode b_M_put 74 = .ok (.getfield 41, 3) := by decide +kernel
theorem d_M_put_77 : decode b_M_put 77 = .ok (.iload_n 1, 1) := by decide +kernel
theorem d_M_put_78 : decode b_M_put 78 = .ok (.iaload, 1) := by decide +kernel
theorem d_M_put_79 : decode b_M_put 79 = .ok (.ifCond .eq 25, 3) := by decide +kernel
theorem d_M_put_82 : decode b_M_put 82 = .ok (.aload_n 0, 1) := by decide +kernel
theorem d_M_put_83 : decode b_M_put 83 = .ok (.getfield 44, 3) := by decide +kernel
theorem d_M_put_86 : decode b_M_put 86 = .ok (.iload 6, 2) := by decide +kernel
theorem d_M_put_88 : decode b_M_put 88 = .ok (.iaload, 1) := by decide +kernel
theorem d_M_put_89 : decode b_M_put 89 = .ok (.iload_n 2, 1) := by decide +kernel
theorem d_M_put_90 : decode b_M_put 90 = .ok (.if_icmp .ge 18, 3) := by decide +kernel
theorem d_M_put_93 : decode b_M_put 93 = .ok (.aload_n 0, 1) := by decide +kernel
theorem d_M_put_94 : decode b_M_put 94 = .ok (.getfield 50, 3) := by decide +kernel
theorem d_M_put_97 : decode b_M_put 97 = .ok (.iload 6, 2) := by decide +kernel
theorem d_M_put_99 : decode b_M_put 99 = .ok (.iaload, 1) := by decide +kernel
theorem d_M_put_100 : decode b_M_put 100 = .ok (.iload_n 3, 1) := by decide +kernel
theorem d_M_put_101 : decode b_M_put 101 = .ok (.if_icmp .gt 7, 3) := by decide +kernel
theorem d_M_put_104 : decode b_M_put 104 = .ok (.iconst 1, 1) := by decide +kernel
theorem d_M_put_105 : decode b_M_put 105 = .ok (.goto 4, 3) := by decide +kernel
theorem d_M_put_108 : decode b_M_put 108 = .ok (.iconst 0, 1) := by decide +kernel
theorem d_M_put_109 : decode b_M_put 109 = .ok (.istore 7, 2) := by decide +kernel
theorem d_M_put_111 : decode b_M_put 111 = .ok (.aload_n 0, 1) := by decide +kernel
theorem d_M_put_112 : decode b_M_put 112 = .ok (.iload 7, 2) := by decide +kernel
theorem d_M_put_114 : decode b_M_put 114 = .ok (.iload 7, 2) := by decide +kernel
theorem d_M_put_116 : decode b_M_put 116 = .ok (.ifCond .eq 18, 3) := by decide +kernel
theorem d_M_put_119 : decode b_M_put 119 = .ok (.aload_n 0, 1) := by decide +kernel
theorem d_M_put_120 : decode b_M_put 120 = .ok (.getfield 41, 3) := by decide +kernel
theorem d_M_put_123 : decode b_M_put 123 = .ok (.iload_n 1, 1) := by decide +kernel
theorem d_M_put_124 : decode b_M_put 124 = .ok (.iaload, 1) := by decide +kernel
theorem d_M_put_125 : decode b_M_put 125 = .ok (.bipush 40, 2) := by decide +kernel
theorem d_M_put_127 : decode b_M_put 127 = .ok (.if_icmp .ge 7, 3) := by decide +kernel
theorem d_M_put_130 : decode b_M_put 130 = .ok (.iconst 1, 1) := by decide +kernel
theorem d_M_put_131 : decode b_M_put 131 = .ok (.goto 4, 3) := by decide +kernel
theorem d_M_put_134 : decode b_M_put 134 = .ok (.iconst 0, 1) := by decide +kernel
theorem d_M_put_135 : decode b_M_put 135 = .ok (.invokevirtual 102, 3) := by decide +kernel
theorem d_M_put_138 : decode b_M_put 138 = .ok (.ifCond .ne 5, 3) := by decide +kernel
theorem d_M_put_141 : decode b_M_put 141 = .ok (.iconst 0, 1) := by decide +kernel
theorem d_M_put_142 : decode b_M_put 142 = .ok (.ireturn, 1) := by decide +kernel
theorem d_M_put_143 : decode b_M_put 143 = .ok (.aload_n 0, 1) := by decide +kernel
theorem d_M_put_144 : decode b_M_put 144 = .ok (.getfield 44, 3) := by decide +kernel
theorem d_M_put_147 : decode b_M_put 147 = .ok (.iload 6, 2) := by decide +kernel
theorem d_M_put_149 : decode b_M_put 149 = .ok (.iconst 1, 1) := by decide +kernel
theorem d_M_put_150 : decode b_M_put 150 = .ok (.iadd, 1) := by decide +kernel
theorem d_M_put_151 : decode b_M_put 151 = .ok (.iload_n 2, 1) := by decide +kernel
theorem d_M_put_152 : decode b_M_put 152 = .ok (.iastore, 1) := by decide +kernel
theorem d_M_put_153 : decode b_M_put 153 = .ok (.aload_n 0, 1) := by decide +kernel
theorem d_M_put_154 : decode b_M_put 154 = .ok (.getfield 47, 3) := by decide +kernel
theorem d_M_put_157 : decode b_M_put 157 = .ok (.iload 6, 2) := by decide +kernel
theorem d_M_put_159 : decode b_M_put 159 = .ok (.iconst 1, 1) := by decide +kernel
theorem d_M_put_160 : decode b_M_put 160 = .ok (.iadd, 1) := by decide +kernel
theorem d_M_put_161 : decode b_M_put 161 = .ok (.iload_n 3, 1) := by decide +kernel
theorem d_M_put_162 : decode b_M_put 162 = .ok (.iastore, 1) := by decide +kernel
theorem d_M_put_163 : decode b_M_put 163 = .ok (.aload_n 0, 1) := by decide +kernel
theorem d_M_put_164 : decode b_M_put 164 = .ok (.getfield 50, 3) := by decide +kernel
theorem d_M_put_167 : decode b_M_put 167 = .ok (.iload 6, 2) := by decide +kernel
theorem d_M_put_169 : decode b_M_put 169 = .ok (.iconst 1, 1) := by decide +kernel
theorem d_M_put_170 : decode b_M_put 170 = .ok (.iadd, 1) := by decide +kernel
theorem d_M_put_171 : decode b_M_put 171 = .ok (.iload 4, 2) := by decide +kernel
theorem d_M_put_173 : decode b_M_put 173 = .ok (.iastore, 1) := by decide +kernel
theorem d_M_put_174 : decode b_M_put 174 = .ok (.aload_n 0, 1) := by decide +kernel
theorem d_M_put_175 : decode b_M_put 175 = .ok (.getfield 53, 3) := by decide +kernel
theorem d_M_put_178 : decode b_M_put 178 = .ok (.iload 6, 2) := by decide +kernel
theorem d_M_put_180 : decode b_M_put 180 = .ok (.iconst 1, 1) := by decide +kernel
theorem d_M_put_181 : decode b_M_put 181 = .ok (.iadd, 1) := by decide +kernel
theorem d_M_put_182 : decode b_M_put 182 = .ok (.iload 5, 2) := by decide +kernel
theorem d_M_put_184 : decode b_M_put 184 = .ok (.bastore, 1) := by decide +kernel
theorem d_M_put_185 : decode b_M_put 185 = .ok (.aload_n 0, 1) := by decide +kernel
theorem d_M_put_186 : decode b_M_put 186 = .ok (.getfield 41, 3) := by decide +kernel
theorem d_M_put_189 : decode b_M_put 189 = .ok (.iload_n 1, 1) := by decide +kernel
theorem d_M_put_190 : decode b_M_put 190 = .ok (.dup2, 1) := by decide +kernel
theorem d_M_put_191 : decode b_M_put 191 = .ok (.iaload, 1) := by decide +kernel
theorem d_M_put_192 : decode b_M_put 192 = .ok (.iconst 1, 1) := by decide +kernel
theorem d_M_put_193 : decode b_M_put 193 = .ok (.iadd, 1) := by decide +kernel
theorem d_M_put_194 : decode b_M_put 194 = .ok (.iastore, 1) := by decide +kernel
theorem d_M_put_195 : decode b_M_put 195 = .ok (.aload_n 0, 1) := by decide +kernel
theorem d_M_put_196 : decode b_M_put 196 = .ok (.getfield 41, 3) := by decide +kernel
theorem d_M_put_199 : decode b_M_put 199 = .ok (.iload_n 1, 1) := by decide +kernel
theorem d_M_put_200 : decode b_M_put 200 = .ok (.iaload, 1) := by decide +kernel
theorem d_M_put_201 : decode b_M_put 201 = .ok (.ireturn, 1) := by decide +kernel
theorem cal_M_put : am_cal y_M_put b_M_put 8 ((Option.some FieldType.int)) 5 := ⟨Or.inl wx_777, wx_6, by decide, by decide +kernel⟩
abbrev y_M_isMeter : MethodName := ⟨"BillSharesModel", "isMeter", "(I)Z"⟩
abbrev b_M_isMeter : ByteArray := prog_6_method_7_code
theorem d_M_isMeter_0 : decode b_M_isMeter 0 = .ok (.iload_n 1, 1) := by decide +kernel
theorem d_M_isMeter_1 : decode b_M_isMeter 1 = .ok (.ifCond .lt 15, 3) := by decide +kernel
theorem d_M_isMeter_4 : decode b_M_isMeter 4 = .ok (.iload_n 1, 1) := by decide +kernel
theorem d_M_isMeter_5 : decode b_M_isMeter 5 = .ok (.aload_n 0, 1) := by decide +kernel
theorem d_M_isMeter_6 : decode b_M_isMeter 6 = .ok (.getfield 99, 3) := by decide +kernel
theorem d_M_isMeter_9 : decode b_M_isMeter 9 = .ok (.if_icmp .ge 7, 3) := by decide +kernel
theorem d_M_isMeter_12 : decode b_M_isMeter 12 = .ok (.iconst 1, 1) := by decide +kernel
theorem d_M_isMeter_13 : decode b_M_isMeter 13 = .ok (.goto 4, 3) := by decide +kernel
theorem d_M_isMeter_16 : decode b_M_isMeter 16 = .ok (.iconst 0, 1) := by decide +kernel
theorem d_M_isMeter_17 : decode b_M_isMeter 17 = .ok (.ireturn, 1) := by decide +kernel
theorem cal_M_isMeter : am_cal y_M_isMeter b_M_isMeter 2 ((Option.some FieldType.boolean)) 1 := ⟨Or.inl wx_781, wx_6, by decide, by decide +kernel⟩
abbrev y_M_isValue : MethodName := ⟨"BillSharesModel", "isValue", "(I)Z"⟩
abbrev b_M_isValue : ByteArray := prog_6_method_5_code
theorem d_M_isValue_0 : decode b_M_isValue 0 = .ok (.iload_n 0, 1) := by decide +kernel
theorem d_M_isValue_1 : decode b_M_isValue 1 = .ok (.iconst 0, 1) := by decide +kernel
theorem d_M_isValue_2 : decode b_M_isValue 2 = .ok (.ldc 91, 2) := by decide +kernel
theorem d_M_isValue_4 : decode b_M_isValue 4 = .ok (.invokestatic 92, 3) := by decide +kernel
theorem d_M_isValue_7 : decode b_M_isValue 7 = .ok (.ireturn, 1) := by decide +kernel
theorem cal_M_isValue : am_cal y_M_isValue b_M_isValue 1 ((Option.some FieldType.boolean)) 1 := ⟨Or.inl wx_784, wx_6, by decide, by decide +kernel⟩
abbrev y_M_changed : MethodName := ⟨"BillSharesModel", "changed", "(IIII)I"⟩
abbrev b_M_changed : ByteArray := prog_6_method_12_code
theorem d_M_changed_0 : decode b_M_changed 0 = .ok (.aload_n 0, 1) := by decide +kernel
theorem d_M_changed_1 : decode b_M_changed 1 = .ok (.iload_n 1, 1) := by decide +kernel
theorem d_M_changed_2 : decode b_M_changed 2 = .ok (.iload_n 2, 1) := by decide +kernel
theorem d_M_changed_3 : decode b_M_changed 3 = .ok (.iload_n 3, 1) := by decide +kernel
theorem d_M_changed_4 : decode b_M_changed 4 = .ok (.iload 4, 2) := by decide +kernel
theorem d_M_changed_6 : decode b_M_changed 6 = .ok (.iconst 1, 1) := by decide +kernel
theorem d_M_changed_7 : decode b_M_changed 7 = .ok (.invokevirtual 116, 3) := by decide +kernel
theorem d_M_changed_10 : decode b_M_changed 10 = .ok (.ireturn, 1) := by decide +kernel
theorem cal_M_changed : am_cal y_M_changed b_M_changed 5 ((Option.some FieldType.int)) 4 := ⟨Or.inl wx_789, wx_6, by decide, by decide +kernel⟩
abbrev y_M_correct : MethodName := ⟨"BillSharesModel", "correct", "(III)I"⟩
abbrev b_M_correct : ByteArray := prog_6_method_13_code
theorem d_M_correct_0 : decode b_M_correct 0 = .ok (.iconst (-1), 1) := by decide +kernel
theorem d_M_correct_1 : decode b_M_correct 1 = .ok (.istore 4, 2) := by decide +kernel
theorem d_M_correct_3 : decode b_M_correct 3 = .ok (.iconst 0, 1) := by decide +kernel
theorem d_M_correct_4 : decode b_M_correct 4 = .ok (.istore 5, 2) := by decide +kernel
theorem d_M_correct_6 : decode b_M_correct 6 = .ok (.aload_n 0, 1) := by decide +kernel
theorem d_M_correct_7 : decode b_M_correct 7 = .ok (.iload_n 1, 1) := by decide +kernel
theorem d_M_correct_8 : decode b_M_correct 8 = .ok (.invokevirtual 110, 3) := by decide +kernel
theorem d_M_correct_11 : decode b_M_correct 11 = .ok (.ifCond .eq 50, 3) := by decide +kernel
theorem d_M_correct_14 : decode b_M_correct 14 = .ok (.iload 5, 2) := by decide +kernel
theorem d_M_correct_16 : decode b_M_correct 16 = .ok (.aload_n 0, 1) := by decide +kernel
theorem d_M_correct_17 : decode b_M_correct 17 = .ok (.getfield 41, 3) := by decide +kernel
theorem d_M_correct_20 : decode b_M_correct 20 = .ok (.iload_n 1, 1) := by decide +kernel
theorem d_M_correct_21 : decode b_M_correct 21 = .ok (.iaload, 1) := by decide +kernel
theorem d_M_correct_22 : decode b_M_correct 22 = .ok (.if_icmp .ge 39, 3) := by decide +kernel
theorem d_M_correct_25 : decode b_M_correct 25 = .ok (.aload_n 0, 1) := by decide +kernel
theorem d_M_correct_26 : decode b_M_correct 26 = .ok (.getfield 44, 3) := by decide +kernel
theorem d_M_correct_29 : decode b_M_correct 29 = .ok (.bipush 40, 2) := by decide +kernel
theorem d_M_correct_31 : decode b_M_correct 31 = .ok (.iload_n 1, 1) := by decide +kernel
theorem d_M_correct_32 : decode b_M_correct 32 = .ok (.imul, 1) := by decide +kernel
theorem d_M_correct_33 : decode b_M_correct 33 = .ok (.iload 5, 2) := by decide +kernel
theorem d_M_correct_35 : decode b_M_correct 35 = .ok (.iadd, 1) := by decide +kernel
theorem d_M_correct_36 : decode b_M_correct 36 = .ok (.iaload, 1) := by decide +kernel
theorem d_M_correct_37 : decode b_M_correct 37 = .ok (.iload_n 2, 1) := by decide +kernel
theorem d_M_correct_38 : decode b_M_correct 38 = .ok (.if_icmp .ne 13, 3) := by decide +kernel
theorem d_M_correct_41 : decode b_M_correct 41 = .ok (.bipush 40, 2) := by decide +kernel
theorem d_M_correct_43 : decode b_M_correct 43 = .ok (.iload_n 1, 1) := by decide +kernel
theorem d_M_correct_44 : decode b_M_correct 44 = .ok (.imul, 1) := by decide +kernel
theorem d_M_correct_45 : decode b_M_correct 45 = .ok (.iload 5, 2) := by decide +kernel
theorem d_M_correct_47 : decode b_M_correct 47 = .ok (.iadd, 1) := by decide +kernel
theorem d_M_correct_48 : decode b_M_correct 48 = .ok (.goto 5, 3) := by decide +kernel
theorem d_M_correct_51 : decode b_M_correct 51 = .ok (.iload 4, 2) := by decide +kernel
theorem d_M_correct_53 : decode b_M_correct 53 = .ok (.istore 4, 2) := by decide +kernel
theorem d_M_correct_55 : decode b_M_correct 55 = .ok (.iinc 5 1, 3) := by decide +kernel
theorem d_M_correct_58 : decode b_M_correct 58 = .ok (.goto (-52), 3) := by decide +kernel
theorem d_M_correct_61 : decode b_M_correct 61 = .ok (.iload 4, 2) := by decide +kernel
theorem d_M_correct_63 : decode b_M_correct 63 = .ok (.ifCond .lt 14, 3) := by decide +kernel
theorem d_M_correct_66 : decode b_M_correct 66 = .ok (.iload_n 3, 1) := by decide +kernel
theorem d_M_correct_67 : decode b_M_correct 67 = .ok (.invokestatic 113, 3) := by decide +kernel
theorem d_M_correct_70 : decode b_M_correct 70 = .ok (.ifCond .eq 7, 3) := by decide +kernel
theorem d_M_correct_73 : decode b_M_correct 73 = .ok (.iconst 1, 1) := by decide +kernel
theorem d_M_correct_74 : decode b_M_correct 74 = .ok (.goto 4, 3) := by decide +kernel
theorem d_M_correct_77 : decode b_M_correct 77 = .ok (.iconst 0, 1) := by decide +kernel
theorem d_M_correct_78 : decode b_M_correct 78 = .ok (.istore 5, 2) := by decide +kernel
theorem d_M_correct_80 : decode b_M_correct 80 = .ok (.iload 5, 2) := by decide +kernel
theorem d_M_correct_82 : decode b_M_correct 82 = .ok (.ifCond .eq 29, 3) := by decide +kernel
theorem d_M_correct_85 : decode b_M_correct 85 = .ok (.iload 4, 2) := by decide +kernel
theorem d_M_correct_87 : decode b_M_correct 87 = .ok (.bipush 40, 2) := by decide +kernel
theorem d_M_correct_89 : decode b_M_correct 89 = .ok (.iload_n 1, 1) := by decide +kernel
theorem d_M_correct_90 : decode b_M_correct 90 = .ok (.imul, 1) := by decide +kernel
theorem d_M_correct_91 : decode b_M_correct 91 = .ok (.if_icmp .eq 16, 3) := by decide +kernel
theorem d_M_correct_94 : decode b_M_correct 94 = .ok (.aload_n 0, 1) := by decide +kernel
theorem d_M_correct_95 : decode b_M_correct 95 = .ok (.getfield 50, 3) := by decide +kernel
theorem d_M_correct_98 : decode b_M_correct 98 = .ok (.iload 4, 2) := by decide +kernel
theorem d_M_correct_100 : decode b_M_correct 100 = .ok (.iconst 1, 1) := by decide +kernel
theorem d_M_correct_101 : decode b_M_correct 101 = .ok (.isub, 1) := by decide +kernel
theorem d_M_correct_102 : decode b_M_correct 102 = .ok (.iaload, 1) := by decide +kernel
theorem d_M_correct_103 : decode b_M_correct 103 = .ok (.iload_n 3, 1) := by decide +kernel
theorem d_M_correct_104 : decode b_M_correct 104 = .ok (.if_icmp .gt 7, 3) := by decide +kernel
theorem d_M_correct_107 : decode b_M_correct 107 = .ok (.iconst 1, 1) := by decide +kernel
theorem d_M_correct_108 : decode b_M_correct 108 = .ok (.goto 4, 3) := by decide +kernel
theorem d_M_correct_111 : decode b_M_correct 111 = .ok (.iconst 0, 1) := by decide +kernel
theorem d_M_correct_112 : decode b_M_correct 112 = .ok (.istore 5, 2) := by decide +kernel
theorem d_M_correct_114 : decode b_M_correct 114 = .ok (.iload 5, 2) := by decide +kernel
theorem d_M_correct_116 : decode b_M_correct 116 = .ok (.ifCond .eq 48, 3) := by decide +kernel
theorem d_M_correct_119 : decode b_M_correct 119 = .ok (.aload_n 0, 1) := by decide +kernel
theorem d_M_correct_120 : decode b_M_correct 120 = .ok (.getfield 53, 3) := by decide +kernel
theorem d_M_correct_123 : decode b_M_correct 123 = .ok (.iload 4, 2) := by decide +kernel
theorem d_M_correct_125 : decode b_M_correct 125 = .ok (.baload, 1) := by decide +kernel
theorem d_M_correct_126 : decode b_M_correct 126 = .ok (.ifCond .ne 34, 3) := by decide +kernel
theorem d_M_correct_129 : decode b_M_correct 129 = .ok (.iload 4, 2) := by decide +kernel
theorem d_M_correct_131 : decode b_M_correct 131 = .ok (.bipush 40, 2) := by decide +kernel
theorem d_M_correct_133 : decode b_M_correct 133 = .ok (.iload_n 1, 1) := by decide +kernel
theorem d_M_correct_134 : decode b_M_correct 134 = .ok (.imul, 1) := by decide +kernel
theorem d_M_correct_135 : decode b_M_correct 135 = .ok (.aload_n 0, 1) := by decide +kernel
theorem d_M_correct_136 : decode b_M_correct 136 = .ok (.getfield 41, 3) := by decide +kernel
theorem d_M_correct_139 : decode b_M_correct 139 = .ok (.iload_n 1, 1) := by decide +kernel
theorem d_M_correct_140 : decode b_M_correct 140 = .ok (.iaload, 1) := by decide +kernel
theorem d_M_correct_141 : decode b_M_correct 141 = .ok (.iadd, 1) := by decide +kernel
theorem d_M_correct_142 : decode b_M_correct 142 = .ok (.iconst 1, 1) := by decide +kernel
theorem d_M_correct_143 : decode b_M_correct 143 = .ok (.isub, 1) := by decide +kernel
theorem d_M_correct_144 : decode b_M_correct 144 = .ok (.if_icmp .eq 16, 3) := by decide +kernel
theorem d_M_correct_147 : decode b_M_correct 147 = .ok (.iload_n 3, 1) := by decide +kernel
theorem d_M_correct_148 : decode b_M_correct 148 = .ok (.aload_n 0, 1) := by decide +kernel
theorem d_M_correct_149 : decode b_M_correct 149 = .ok (.getfield 47, 3) := by decide +kernel
theorem d_M_correct_152 : decode b_M_correct 152 = .ok (.iload 4, 2) := by decide +kernel
theorem d_M_correct_154 : decode b_M_correct 154 = .ok (.iconst 1, 1) := by decide +kernel
theorem d_M_correct_155 : decode b_M_correct 155 = .ok (.iadd, 1) := by decide +kernel
theorem d_M_correct_156 : decode b_M_correct 156 = .ok (.iaload, 1) := by decide +kernel
theorem d_M_correct_157 : decode b_M_correct 157 = .ok (.if_icmp .gt 7, 3) := by decide +kernel
theorem d_M_correct_160 : decode b_M_correct 160 = .ok (.iconst 1, 1) := by decide +kernel
theorem d_M_correct_161 : decode b_M_correct 161 = .ok (.goto 4, 3) := by decide +kernel
theorem d_M_correct_164 : decode b_M_correct 164 = .ok (.iconst 0, 1) := by decide +kernel
theorem d_M_correct_165 : decode b_M_correct 165 = .ok (.istore 5, 2) := by decide +kernel
theorem d_M_correct_167 : decode b_M_correct 167 = .ok (.aload_n 0, 1) := by decide +kernel
theorem d_M_correct_168 : decode b_M_correct 168 = .ok (.iload 5, 2) := by decide +kernel
theorem d_M_correct_170 : decode b_M_correct 170 = .ok (.iconst 1, 1) := by decide +kernel
theorem d_M_correct_171 : decode b_M_correct 171 = .ok (.invokevirtual 102, 3) := by decide +kernel
theorem d_M_correct_174 : decode b_M_correct 174 = .ok (.ifCond .ne 5, 3) := by decide +kernel
theorem d_M_correct_177 : decode b_M_correct 177 = .ok (.iconst 0, 1) := by decide +kernel
theorem d_M_correct_178 : decode b_M_correct 178 = .ok (.ireturn, 1) := by decide +kernel
theorem d_M_correct_179 : decode b_M_correct 179 = .ok (.aload_n 0, 1) := by decide +kernel
theorem d_M_correct_180 : decode b_M_correct 180 = .ok (.getfield 47, 3) := by decide +kernel
theorem d_M_correct_183 : decode b_M_correct 183 = .ok (.iload 4, 2) := by decide +kernel
theorem d_M_correct_185 : decode b_M_correct 185 = .ok (.iaload, 1) := by decide +kernel
theorem d_M_correct_186 : decode b_M_correct 186 = .ok (.istore 6, 2) := by decide +kernel
theorem d_M_correct_188 : decode b_M_correct 188 = .ok (.aload_n 0, 1) := by decide +kernel
theorem d_M_correct_189 : decode b_M_correct 189 = .ok (.getfield 47, 3) := by decide +kernel
theorem d_M_correct_192 : decode b_M_correct 192 = .ok (.iload 4, 2) := by decide +kernel
theorem d_M_correct_194 : decode b_M_correct 194 = .ok (.iload_n 3, 1) := by decide +kernel
theorem d_M_correct_195 : decode b_M_correct 195 = .ok (.iastore, 1) := by decide +kernel
theorem d_M_correct_196 : decode b_M_correct 196 = .ok (.aload_n 0, 1) := by decide +kernel
theorem d_M_correct_197 : decode b_M_correct 197 = .ok (.getfield 50, 3) := by decide +kernel
theorem d_M_correct_200 : decode b_M_correct 200 = .ok (.iload 4, 2) := by decide +kernel
theorem d_M_correct_202 : decode b_M_correct 202 = .ok (.aload_n 0, 1) := by decide +kernel
theorem d_M_correct_203 : decode b_M_correct 203 = .ok (.getfield 53, 3) := by decide +kernel
theorem d_M_correct_206 : decode b_M_correct 206 = .ok (.iload 4, 2) := by decide +kernel
theorem d_M_correct_208 : decode b_M_correct 208 = .ok (.baload, 1) := by decide +kernel
theorem d_M_correct_209 : decode b_M_correct 209 = .ok (.ifCond .eq 13, 3) := by decide +kernel
theorem d_M_correct_212 : decode b_M_correct 212 = .ok (.aload_n 0, 1) := by decide +kernel
theorem d_M_correct_213 : decode b_M_correct 213 = .ok (.getfield 50, 3) := by decide +kernel
theorem d_M_correct_216 : decode b_M_correct 216 = .ok (.iload 4, 2) := by decide +kernel
theorem d_M_correct_218 : decode b_M_correct 218 = .ok (.iaload, 1) := by decide +kernel
theorem d_M_correct_219 : decode b_M_correct 219 = .ok (.goto 4, 3) := by decide +kernel
theorem d_M_correct_222 : decode b_M_correct 222 = .ok (.iload_n 3, 1) := by decide +kernel
theorem d_M_correct_223 : decode b_M_correct 223 = .ok (.iastore, 1) := by decide +kernel
theorem d_M_correct_224 : decode b_M_correct 224 = .ok (.iload 6, 2) := by decide +kernel
theorem d_M_correct_226 : decode b_M_correct 226 = .ok (.ireturn, 1) := by decide +kernel
theorem cal_M_correct : am_cal y_M_correct b_M_correct 7 ((Option.some FieldType.int)) 3 := ⟨Or.inl wx_793, wx_6, by decide, by decide +kernel⟩
abbrev y_M_tested : MethodName := ⟨"BillSharesModel", "tested", "(II)I"⟩
abbrev b_M_tested : ByteArray := prog_6_method_14_code
theorem d_M_tested_0 : decode b_M_tested 0 = .ok (.aload_n 0, 1) := by decide +kernel
theorem d_M_tested_1 : decode b_M_tested 1 = .ok (.aload_n 0, 1) := by decide +kernel
theorem d_M_tested_2 : decode b_M_tested 2 = .ok (.iload_n 1, 1) := by decide +kernel
theorem d_M_tested_3 : decode b_M_tested 3 = .ok (.invokevirtual 110, 3) := by decide +kernel
theorem d_M_tested_6 : decode b_M_tested 6 = .ok (.ifCond .eq 18, 3) := by decide +kernel
theorem d_M_tested_9 : decode b_M_tested 9 = .ok (.iload_n 2, 1) := by decide +kernel
theorem d_M_tested_10 : decode b_M_tested 10 = .ok (.iconst 0, 1) := by decide +kernel
theorem d_M_tested_11 : decode b_M_tested 11 = .ok (.sipush 3649, 3) := by decide +kernel
theorem d_M_tested_14 : decode b_M_tested 14 = .ok (.invokestatic 92, 3) := by decide +kernel
theorem d_M_tested_17 : decode b_M_tested 17 = .ok (.ifCond .eq 7, 3) := by decide +kernel
theorem d_M_tested_20 : decode b_M_tested 20 = .ok (.iconst 1, 1) := by decide +kernel
theorem d_M_tested_21 : decode b_M_tested 21 = .ok (.goto 4, 3) := by decide +kernel
theorem d_M_tested_24 : decode b_M_tested 24 = .ok (.iconst 0, 1) := by decide +kernel
theorem d_M_tested_25 : decode b_M_tested 25 = .ok (.iconst 1, 1) := by decide +kernel
theorem d_M_tested_26 : decode b_M_tested 26 = .ok (.invokevirtual 102, 3) := by decide +kernel
theorem d_M_tested_29 : decode b_M_tested 29 = .ok (.ifCond .ne 5, 3) := by decide +kernel
theorem d_M_tested_32 : decode b_M_tested 32 = .ok (.iconst 0, 1) := by decide +kernel
theorem d_M_tested_33 : decode b_M_tested 33 = .ok (.ireturn, 1) := by decide +kernel
theorem d_M_tested_34 : decode b_M_tested 34 = .ok (.aload_n 0, 1) := by decide +kernel
theorem d_M_tested_35 : decode b_M_tested 35 = .ok (.getfield 38, 3) := by decide +kernel
theorem d_M_tested_38 : decode b_M_tested 38 = .ok (.iload_n 1, 1) := by decide +kernel
theorem d_M_tested_39 : decode b_M_tested 39 = .ok (.iaload, 1) := by decide +kernel
theorem d_M_tested_40 : decode b_M_tested 40 = .ok (.istore_n 3, 1) := by decide +kernel
theorem d_M_tested_41 : decode b_M_tested 41 = .ok (.aload_n 0, 1) := by decide +kernel
theorem d_M_tested_42 : decode b_M_tested 42 = .ok (.getfield 38, 3) := by decide +kernel
theorem d_M_tested_45 : decode b_M_tested 45 = .ok (.iload_n 1, 1) := by decide +kernel
theorem d_M_tested_46 : decode b_M_tested 46 = .ok (.iload_n 2, 1) := by decide +kernel
theorem d_M_tested_47 : decode b_M_tested 47 = .ok (.iastore, 1) := by decide +kernel
theorem d_M_tested_48 : decode b_M_tested 48 = .ok (.iload_n 3, 1) := by decide +kernel
theorem d_M_tested_49 : decode b_M_tested 49 = .ok (.ireturn, 1) := by decide +kernel
theorem cal_M_tested : am_cal y_M_tested b_M_tested 4 ((Option.some FieldType.int)) 2 := ⟨Or.inl wx_797, wx_6, by decide, by decide +kernel⟩
abbrev y_M_cost : MethodName := ⟨"BillSharesModel", "cost", "(III)I"⟩
abbrev b_M_cost : ByteArray := prog_6_method_15_code
theorem d_M_cost_0 : decode b_M_cost 0 = .ok (.aload_n 0, 1) := by decide +kernel
theorem d_M_cost_1 : decode b_M_cost 1 = .ok (.iload_n 1, 1) := by decide +kernel
theorem d_M_cost_2 : decode b_M_cost 2 = .ok (.iconst 0, 1) := by decide +kernel
theorem d_M_cost_3 : decode b_M_cost 3 = .ok (.iconst 3, 1) := by decide +kernel
theorem d_M_cost_4 : decode b_M_cost 4 = .ok (.invokestatic 92, 3) := by decide +kernel
theorem d_M_cost_7 : decode b_M_cost 7 = .ok (.ifCond .eq 27, 3) := by decide +kernel
theorem d_M_cost_10 : decode b_M_cost 10 = .ok (.iload_n 2, 1) := by decide +kernel
theorem d_M_cost_11 : decode b_M_cost 11 = .ok (.iconst 0, 1) := by decide +kernel
theorem d_M_cost_12 : decode b_M_cost 12 = .ok (.bipush 9, 2) := by decide +kernel
theorem d_M_cost_14 : decode b_M_cost 14 = .ok (.invokestatic 92, 3) := by decide +kernel
theorem d_M_cost_17 : decode b_M_cost 17 = .ok (.ifCond .eq 17, 3) := by decide +kernel
theorem d_M_cost_20 : decode b_M_cost 20 = .ok (.iload_n 3, 1) := by decide +kernel
theorem d_M_cost_21 : decode b_M_cost 21 = .ok (.iconst 0, 1) := by decide +kernel
theorem d_M_cost_22 : decode b_M_cost 22 = .ok (.ldc 120, 2) := by decide +kernel
theorem d_M_cost_24 : decode b_M_cost 24 = .ok (.invokestatic 92, 3) := by decide +kernel
theorem d_M_cost_27 : decode b_M_cost 27 = .ok (.ifCond .eq 7, 3) := by decide +kernel
theorem d_M_cost_30 : decode b_M_cost 30 = .ok (.iconst 1, 1) := by decide +kernel
theorem d_M_cost_31 : decode b_M_cost 31 = .ok (.goto 4, 3) := by decide +kernel
theorem d_M_cost_34 : decode b_M_cost 34 = .ok (.iconst 0, 1) := by decide +kernel
theorem d_M_cost_35 : decode b_M_cost 35 = .ok (.iconst 1, 1) := by decide +kernel
theorem d_M_cost_36 : decode b_M_cost 36 = .ok (.invokevirtual 102, 3) := by decide +kernel
theorem d_M_cost_39 : decode b_M_cost 39 = .ok (.ifCond .ne 5, 3) := by decide +kernel
theorem d_M_cost_42 : decode b_M_cost 42 = .ok (.iconst 0, 1) := by decide +kernel
theorem d_M_cost_43 : decode b_M_cost 43 = .ok (.ireturn, 1) := by decide +kernel
theorem d_M_cost_44 : decode b_M_cost 44 = .ok (.aload_n 0, 1) := by decide +kernel
theorem d_M_cost_45 : decode b_M_cost 45 = .ok (.getfield 57, 3) := by decide +kernel
theorem d_M_cost_48 : decode b_M_cost 48 = .ok (.iconst 4, 1) := by decide +kernel
theorem d_M_cost_49 : decode b_M_cost 49 = .ok (.iload_n 2, 1) := by decide +kernel
theorem d_M_cost_50 : decode b_M_cost 50 = .ok (.imul, 1) := by decide +kernel
theorem d_M_cost_51 : decode b_M_cost 51 = .ok (.iload_n 1, 1) := by decide +kernel
theorem d_M_cost_52 : decode b_M_cost 52 = .ok (.iadd, 1) := by decide +kernel
theorem d_M_cost_53 : decode b_M_cost 53 = .ok (.iaload, 1) := by decide +kernel
theorem d_M_cost_54 : decode b_M_cost 54 = .ok (.istore 4, 2) := by decide +kernel
theorem d_M_cost_56 : decode b_M_cost 56 = .ok (.aload_n 0, 1) := by decide +kernel
theorem d_M_cost_57 : decode b_M_cost 57 = .ok (.getfield 57, 3) := by decide +kernel
theorem d_M_cost_60 : decode b_M_cost 60 = .ok (.iconst 4, 1) := by decide +kernel
theorem d_M_cost_61 : decode b_M_cost 61 = .ok (.iload_n 2, 1) := by decide +kernel
theorem d_M_cost_62 : decode b_M_cost 62 = .ok (.imul, 1) := by decide +kernel
theorem d_M_cost_63 : decode b_M_cost 63 = .ok (.iload_n 1, 1) := by decide +kernel
theorem d_M_cost_64 : decode b_M_cost 64 = .ok (.iadd, 1) := by decide +kernel
theorem d_M_cost_65 : decode b_M_cost 65 = .ok (.iload_n 3, 1) := by decide +kernel
theorem d_M_cost_66 : decode b_M_cost 66 = .ok (.iastore, 1) := by decide +kernel
theorem d_M_cost_67 : decode b_M_cost 67 = .ok (.iload 4, 2) := by decide +kernel
theorem d_M_cost_69 : decode b_M_cost 69 = .ok (.ireturn, 1) := by decide +kernel
theorem cal_M_cost : am_cal y_M_cost b_M_cost 5 ((Option.some FieldType.int)) 3 := ⟨Or.inl wx_801, wx_6, by decide, by decide +kernel⟩
abbrev y_M_base : MethodName := ⟨"BillSharesModel", "base", "(II)I"⟩
abbrev b_M_base : ByteArray := prog_6_method_16_code
theorem d_M_base_0 : decode b_M_base 0 = .ok (.aload_n 0, 1) := by decide +kernel
theorem d_M_base_1 : decode b_M_base 1 = .ok (.iload_n 1, 1) := by decide +kernel
theorem d_M_base_2 : decode b_M_base 2 = .ok (.iconst 0, 1) := by decide +kernel
theorem d_M_base_3 : decode b_M_base 3 = .ok (.iconst 3, 1) := by decide +kernel
theorem d_M_base_4 : decode b_M_base 4 = .ok (.invokestatic 92, 3) := by decide +kernel
theorem d_M_base_7 : decode b_M_base 7 = .ok (.ifCond .eq 17, 3) := by decide +kernel
theorem d_M_base_10 : decode b_M_base 10 = .ok (.iload_n 2, 1) := by decide +kernel
theorem d_M_base_11 : decode b_M_base 11 = .ok (.iconst 0, 1) := by decide +kernel
theorem d_M_base_12 : decode b_M_base 12 = .ok (.bipush 100, 2) := by decide +kernel
theorem d_M_base_14 : decode b_M_base 14 = .ok (.invokestatic 92, 3) := by decide +kernel
theorem d_M_base_17 : decode b_M_base 17 = .ok (.ifCond .eq 7, 3) := by decide +kernel
theorem d_M_base_20 : decode b_M_base 20 = .ok (.iconst 1, 1) := by decide +kernel
theorem d_M_base_21 : decode b_M_base 21 = .ok (.goto 4, 3) := by decide +kernel
theorem d_M_base_24 : decode b_M_base 24 = .ok (.iconst 0, 1) := by decide +kernel
theorem d_M_base_25 : decode b_M_base 25 = .ok (.iconst 1, 1) := by decide +kernel
theorem d_M_base_26 : decode b_M_base 26 = .ok (.invokevirtual 102, 3) := by decide +kernel
theorem d_M_base_29 : decode b_M_base 29 = .ok (.ifCond .ne 5, 3) := by decide +kernel
theorem d_M_base_32 : decode b_M_base 32 = .ok (.iconst 0, 1) := by decide +kernel
theorem d_M_base_33 : decode b_M_base 33 = .ok (.ireturn, 1) := by decide +kernel
theorem d_M_base_34 : decode b_M_base 34 = .ok (.aload_n 0, 1) := by decide +kernel
theorem d_M_base_35 : decode b_M_base 35 = .ok (.getfield 60, 3) := by decide +kernel
theorem d_M_base_38 : decode b_M_base 38 = .ok (.iload_n 1, 1) := by decide +kernel
theorem d_M_base_39 : decode b_M_base 39 = .ok (.iaload, 1) := by decide +kernel
theorem d_M_base_40 : decode b_M_base 40 = .ok (.istore_n 3, 1) := by decide +kernel
theorem d_M_base_41 : decode b_M_base 41 = .ok (.aload_n 0, 1) := by decide +kernel
theorem d_M_base_42 : decode b_M_base 42 = .ok (.getfield 60, 3) := by decide +kernel
theorem d_M_base_45 : decode b_M_base 45 = .ok (.iload_n 1, 1) := by decide +kernel
theorem d_M_base_46 : decode b_M_base 46 = .ok (.iload_n 2, 1) := by decide +kernel
theorem d_M_base_47 : decode b_M_base 47 = .ok (.iastore, 1) := by decide +kernel
theorem d_M_base_48 : decode b_M_base 48 = .ok (.iload_n 3, 1) := by decide +kernel
theorem d_M_base_49 : decode b_M_base 49 = .ok (.ireturn, 1) := by decide +kernel
theorem cal_M_base : am_cal y_M_base b_M_base 4 ((Option.some FieldType.int)) 2 := ⟨Or.inl wx_806, wx_6, by decide, by decide +kernel⟩
abbrev y_M_moves : MethodName := ⟨"BillSharesModel", "moves", "(II)I"⟩
abbrev b_M_moves : ByteArray := prog_6_method_17_code
theorem d_M_moves_0 : decode b_M_moves 0 = .ok (.aload_n 0, 1) := by decide +kernel
theorem d_M_moves_1 : decode b_M_moves 1 = .ok (.iload_n 1, 1) := by decide +kernel
theorem d_M_moves_2 : decode b_M_moves 2 = .ok (.invokevirtual 106, 3) := by decide +kernel
theorem d_M_moves_5 : decode b_M_moves 5 = .ok (.ifCond .eq 40, 3) := by decide +kernel
theorem d_M_moves_8 : decode b_M_moves 8 = .ok (.iload_n 2, 1) := by decide +kernel
theorem d_M_moves_9 : decode b_M_moves 9 = .ok (.iconst 0, 1) := by decide +kernel
theorem d_M_moves_10 : decode b_M_moves 10 = .ok (.sipush 3649, 3) := by decide +kernel
theorem d_M_moves_13 : decode b_M_moves 13 = .ok (.invokestatic 92, 3) := by decide +kernel
theorem d_M_moves_16 : decode b_M_moves 16 = .ok (.ifCond .eq 29, 3) := by decide +kernel
theorem d_M_moves_19 : decode b_M_moves 19 = .ok (.iload_n 2, 1) := by decide +kernel
theorem d_M_moves_20 : decode b_M_moves 20 = .ok (.aload_n 0, 1) := by decide +kernel
theorem d_M_moves_21 : decode b_M_moves 21 = .ok (.getfield 19, 3) := by decide +kernel
theorem d_M_moves_24 : decode b_M_moves 24 = .ok (.bipush 12, 2) := by decide +kernel
theorem d_M_moves_26 : decode b_M_moves 26 = .ok (.iload_n 1, 1) := by decide +kernel
theorem d_M_moves_27 : decode b_M_moves 27 = .ok (.imul, 1) := by decide +kernel
theorem d_M_moves_28 : decode b_M_moves 28 = .ok (.aload_n 0, 1) := by decide +kernel
theorem d_M_moves_29 : decode b_M_moves 29 = .ok (.getfield 16, 3) := by decide +kernel
theorem d_M_moves_32 : decode b_M_moves 32 = .ok (.iload_n 1, 1) := by decide +kernel
theorem d_M_moves_33 : decode b_M_moves 33 = .ok (.iaload, 1) := by decide +kernel
theorem d_M_moves_34 : decode b_M_moves 34 = .ok (.iadd, 1) := by decide +kernel
theorem d_M_moves_35 : decode b_M_moves 35 = .ok (.iconst 1, 1) := by decide +kernel
theorem d_M_moves_36 : decode b_M_moves 36 = .ok (.isub, 1) := by decide +kernel
theorem d_M_moves_37 : decode b_M_moves 37 = .ok (.iaload, 1) := by decide +kernel
theorem d_M_moves_38 : decode b_M_moves 38 = .ok (.if_icmp .le 7, 3) := by decide +kernel
theorem d_M_moves_41 : decode b_M_moves 41 = .ok (.iconst 1, 1) := by decide +kernel
theorem d_M_moves_42 : decode b_M_moves 42 = .ok (.goto 4, 3) := by decide +kernel
theorem d_M_moves_45 : decode b_M_moves 45 = .ok (.iconst 0, 1) := by decide +kernel
theorem d_M_moves_46 : decode b_M_moves 46 = .ok (.istore_n 3, 1) := by decide +kernel
theorem d_M_moves_47 : decode b_M_moves 47 = .ok (.aload_n 0, 1) := by decide +kernel
theorem d_M_moves_48 : decode b_M_moves 48 = .ok (.iload_n 3, 1) := by decide +kernel
theorem d_M_moves_49 : decode b_M_moves 49 = .ok (.iload_n 3, 1) := by decide +kernel
theorem d_M_moves_50 : decode b_M_moves 50 = .ok (.ifCond .eq 18, 3) := by decide +kernel
theorem d_M_moves_53 : decode b_M_moves 53 = .ok (.aload_n 0, 1) := by decide +kernel
theorem d_M_moves_54 : decode b_M_moves 54 = .ok (.getfield 16, 3) := by decide +kernel
theorem d_M_moves_57 : decode b_M_moves 57 = .ok (.iload_n 1, 1) := by decide +kernel
theorem d_M_moves_58 : decode b_M_moves 58 = .ok (.iaload, 1) := by decide +kernel
theorem d_M_moves_59 : decode b_M_moves 59 = .ok (.bipush 12, 2) := by decide +kernel
theorem d_M_moves_61 : decode b_M_moves 61 = .ok (.if_icmp .ge 7, 3) := by decide +kernel
theorem d_M_moves_64 : decode b_M_moves 64 = .ok (.iconst 1, 1) := by decide +kernel
theorem d_M_moves_65 : decode b_M_moves 65 = .ok (.goto 4, 3) := by decide +kernel
theorem d_M_moves_68 : decode b_M_moves 68 = .ok (.iconst 0, 1) := by decide +kernel
theorem d_M_moves_69 : decode b_M_moves 69 = .ok (.invokevirtual 102, 3) := by decide +kernel
theorem d_M_moves_72 : decode b_M_moves 72 = .ok (.ifCond .ne 5, 3) := by decide +kernel
theorem d_M_moves_75 : decode b_M_moves 75 = .ok (.iconst 0, 1) := by decide +kernel
theorem d_M_moves_76 : decode b_M_moves 76 = .ok (.ireturn, 1) := by decide +kernel
theorem d_M_moves_77 : decode b_M_moves 77 = .ok (.aload_n 0, 1) := by decide +kernel
theorem d_M_moves_78 : decode b_M_moves 78 = .ok (.getfield 19, 3) := by decide +kernel
theorem d_M_moves_81 : decode b_M_moves 81 = .ok (.bipush 12, 2) := by decide +kernel
theorem d_M_moves_83 : decode b_M_moves 83 = .ok (.iload_n 1, 1) := by decide +kernel
theorem d_M_moves_84 : decode b_M_moves 84 = .ok (.imul, 1) := by decide +kernel
theorem d_M_moves_85 : decode b_M_moves 85 = .ok (.aload_n 0, 1) := by decide +kernel
theorem d_M_moves_86 : decode b_M_moves 86 = .ok (.getfield 16, 3) := by decide +kernel
theorem d_M_moves_89 : decode b_M_moves 89 = .ok (.iload_n 1, 1) := by decide +kernel
theorem d_M_moves_90 : decode b_M_moves 90 = .ok (.iaload, 1) := by decide +kernel
theorem d_M_moves_91 : decode b_M_moves 91 = .ok (.iadd, 1) := by decide +kernel
theorem d_M_moves_92 : decode b_M_moves 92 = .ok (.iload_n 2, 1) := by decide +kernel
theorem d_M_moves_93 : decode b_M_moves 93 = .ok (.iastore, 1) := by decide +kernel
theorem d_M_moves_94 : decode b_M_moves 94 = .ok (.aload_n 0, 1) := by decide +kernel
theorem d_M_moves_95 : decode b_M_moves 95 = .ok (.getfield 16, 3) := by decide +kernel
theorem d_M_moves_98 : decode b_M_moves 98 = .ok (.iload_n 1, 1) := by decide +kernel
theorem d_M_moves_99 : decode b_M_moves 99 = .ok (.dup2, 1) := by decide +kernel
theorem d_M_moves_100 : decode b_M_moves 100 = .ok (.iaload, 1) := by decide +kernel
theorem d_M_moves_101 : decode b_M_moves 101 = .ok (.iconst 1, 1) := by decide +kernel
theorem d_M_moves_102 : decode b_M_moves 102 = .ok (.iadd, 1) := by decide +kernel
theorem d_M_moves_103 : decode b_M_moves 103 = .ok (.iastore, 1) := by decide +kernel
theorem d_M_moves_104 : decode b_M_moves 104 = .ok (.aload_n 0, 1) := by decide +kernel
theorem d_M_moves_105 : decode b_M_moves 105 = .ok (.getfield 16, 3) := by decide +kernel
theorem d_M_moves_108 : decode b_M_moves 108 = .ok (.iload_n 1, 1) := by decide +kernel
theorem d_M_moves_109 : decode b_M_moves 109 = .ok (.iaload, 1) := by decide +kernel
theorem d_M_moves_110 : decode b_M_moves 110 = .ok (.iconst 1, 1) := by decide +kernel
theorem d_M_moves_111 : decode b_M_moves 111 = .ok (.isub, 1) := by decide +kernel
theorem d_M_moves_112 : decode b_M_moves 112 = .ok (.ireturn, 1) := by decide +kernel
theorem cal_M_moves : am_cal y_M_moves b_M_moves 4 ((Option.some FieldType.int)) 2 := ⟨Or.inl wx_810, wx_6, by decide, by decide +kernel⟩
abbrev y_M_prepaid : MethodName := ⟨"BillSharesModel", "prepaid", "(III)J"⟩
abbrev b_M_prepaid : ByteArray := prog_6_method_18_code
theorem d_M_prepaid_0 : decode b_M_prepaid 0 = .ok (.aload_n 0, 1) := by decide +kernel
theorem d_M_prepaid_1 : decode b_M_prepaid 1 = .ok (.aload_n 0, 1) := by decide +kernel
theorem d_M_prepaid_2 : decode b_M_prepaid 2 = .ok (.iload_n 1, 1) := by decide +kernel
theorem d_M_prepaid_3 : decode b_M_prepaid 3 = .ok (.invokevirtual 106, 3) := by decide +kernel
theorem d_M_prepaid_6 : decode b_M_prepaid 6 = .ok (.ifCond .eq 27, 3) := by decide +kernel
theorem d_M_prepaid_9 : decode b_M_prepaid 9 = .ok (.iload_n 2, 1) := by decide +kernel
theorem d_M_prepaid_10 : decode b_M_prepaid 10 = .ok (.iconst 0, 1) := by decide +kernel
theorem d_M_prepaid_11 : decode b_M_prepaid 11 = .ok (.bipush 9, 2) := by decide +kernel
theorem d_M_prepaid_13 : decode b_M_prepaid 13 = .ok (.invokestatic 92, 3) := by decide +kernel
theorem d_M_prepaid_16 : decode b_M_prepaid 16 = .ok (.ifCond .eq 17, 3) := by decide +kernel
theorem d_M_prepaid_19 : decode b_M_prepaid 19 = .ok (.iload_n 3, 1) := by decide +kernel
theorem d_M_prepaid_20 : decode b_M_prepaid 20 = .ok (.iconst 1, 1) := by decide +kernel
theorem d_M_prepaid_21 : decode b_M_prepaid 21 = .ok (.ldc 120, 2) := by decide +kernel
theorem d_M_prepaid_23 : decode b_M_prepaid 23 = .ok (.invokestatic 92, 3) := by decide +kernel
theorem d_M_prepaid_26 : decode b_M_prepaid 26 = .ok (.ifCond .eq 7, 3) := by decide +kernel
theorem d_M_prepaid_29 : decode b_M_prepaid 29 = .ok (.iconst 1, 1) := by decide +kernel
theorem d_M_prepaid_30 : decode b_M_prepaid 30 = .ok (.goto 4, 3) := by decide +kernel
theorem d_M_prepaid_33 : decode b_M_prepaid 33 = .ok (.iconst 0, 1) := by decide +kernel
theorem d_M_prepaid_34 : decode b_M_prepaid 34 = .ok (.iconst 1, 1) := by decide +kernel
theorem d_M_prepaid_35 : decode b_M_prepaid 35 = .ok (.invokevirtual 102, 3) := by decide +kernel
theorem d_M_prepaid_38 : decode b_M_prepaid 38 = .ok (.ifCond .ne 5, 3) := by decide +kernel
theorem d_M_prepaid_41 : decode b_M_prepaid 41 = .ok (.lconst 0, 1) := by decide +kernel
theorem d_M_prepaid_42 : decode b_M_prepaid 42 = .ok (.lreturn, 1) := by decide +kernel
theorem d_M_prepaid_43 : decode b_M_prepaid 43 = .ok (.aload_n 0, 1) := by decide +kernel
theorem d_M_prepaid_44 : decode b_M_prepaid 44 = .ok (.getfield 22, 3) := by decide +kernel
theorem d_M_prepaid_47 : decode b_M_prepaid 47 = .ok (.bipush 10, 2) := by decide +kernel
theorem d_M_prepaid_49 : decode b_M_prepaid 49 = .ok (.iload_n 1, 1) := by decide +kernel
theorem d_M_prepaid_50 : decode b_M_prepaid 50 = .ok (.imul, 1) := by decide +kernel
theorem d_M_prepaid_51 : decode b_M_prepaid 51 = .ok (.iload_n 2, 1) := by decide +kernel
theorem d_M_prepaid_52 : decode b_M_prepaid 52 = .ok (.iadd, 1) := by decide +kernel
theorem d_M_prepaid_53 : decode b_M_prepaid 53 = .ok (.dup2, 1) := by decide +kernel
theorem d_M_prepaid_54 : decode b_M_prepaid 54 = .ok (.laload, 1) := by decide +kernel
theorem d_M_prepaid_55 : decode b_M_prepaid 55 = .ok (.iload_n 3, 1) := by decide +kernel
theorem d_M_prepaid_56 : decode b_M_prepaid 56 = .ok (.i2l, 1) := by decide +kernel
theorem d_M_prepaid_57 : decode b_M_prepaid 57 = .ok (.ladd, 1) := by decide +kernel
theorem d_M_prepaid_58 : decode b_M_prepaid 58 = .ok (.lastore, 1) := by decide +kernel
theorem d_M_prepaid_59 : decode b_M_prepaid 59 = .ok (.aload_n 0, 1) := by decide +kernel
theorem d_M_prepaid_60 : decode b_M_prepaid 60 = .ok (.getfield 22, 3) := by decide +kernel
theorem d_M_prepaid_63 : decode b_M_prepaid 63 = .ok (.bipush 10, 2) := by decide +kernel
theorem d_M_prepaid_65 : decode b_M_prepaid 65 = .ok (.iload_n 1, 1) := by decide +kernel
theorem d_M_prepaid_66 : decode b_M_prepaid 66 = .ok (.imul, 1) := by decide +kernel
theorem d_M_prepaid_67 : decode b_M_prepaid 67 = .ok (.iload_n 2, 1) := by decide +kernel
theorem d_M_prepaid_68 : decode b_M_prepaid 68 = .ok (.iadd, 1) := by decide +kernel
theorem d_M_prepaid_69 : decode b_M_prepaid 69 = .ok (.laload, 1) := by decide +kernel
theorem d_M_prepaid_70 : decode b_M_prepaid 70 = .ok (.lreturn, 1) := by decide +kernel
theorem cal_M_prepaid : am_cal y_M_prepaid b_M_prepaid 4 ((Option.some FieldType.long)) 3 := ⟨Or.inl wx_814, wx_6, by decide, by decide +kernel⟩
abbrev y_M_run : MethodName := ⟨"BillSharesModel", "run", "(I)I"⟩
abbrev b_M_run : ByteArray := prog_6_method_29_code
theorem d_M_run_0 : decode b_M_run 0 = .ok (.iload_n 1, 1) := by decide +kernel
theorem d_M_run_1 : decode b_M_run 1 = .ok (.iconst 0, 1) := by decide +kernel
theorem d_M_run_2 : decode b_M_run 2 = .ok (.bipush 9, 2) := by decide +kernel
theorem d_M_run_4 : decode b_M_run 4 = .ok (.invokestatic 92, 3) := by decide +kernel
theorem d_M_run_7 : decode b_M_run 7 = .ok (.istore_n 2, 1) := by decide +kernel
theorem d_M_run_8 : decode b_M_run 8 = .ok (.aload_n 0, 1) := by decide +kernel
theorem d_M_run_9 : decode b_M_run 9 = .ok (.iload_n 2, 1) := by decide +kernel
theorem d_M_run_10 : decode b_M_run 10 = .ok (.iload_n 2, 1) := by decide +kernel
theorem d_M_run_11 : decode b_M_run 11 = .ok (.ifCond .eq 25, 3) := by decide +kernel
theorem d_M_run_14 : decode b_M_run 14 = .ok (.aload_n 0, 1) := by decide +kernel
theorem d_M_run_15 : decode b_M_run 15 = .ok (.getfield 96, 3) := by decide +kernel
theorem d_M_run_18 : decode b_M_run 18 = .ok (.ifCond .le 18, 3) := by decide +kernel
theorem d_M_run_21 : decode b_M_run 21 = .ok (.aload_n 0, 1) := by decide +kernel
theorem d_M_run_22 : decode b_M_run 22 = .ok (.getfield 63, 3) := by decide +kernel
theorem d_M_run_25 : decode b_M_run 25 = .ok (.iload_n 1, 1) := by decide +kernel
theorem d_M_run_26 : decode b_M_run 26 = .ok (.iaload, 1) := by decide +kernel
theorem d_M_run_27 : decode b_M_run 27 = .ok (.bipush 50, 2) := by decide +kernel
theorem d_M_run_29 : decode b_M_run 29 = .ok (.if_icmp .ge 7, 3) := by decide +kernel
theorem d_M_run_32 : decode b_M_run 32 = .ok (.iconst 1, 1) := by decide +kernel
theorem d_M_run_33 : decode b_M_run 33 = .ok (.goto 4, 3) := by decide +kernel
theorem d_M_run_36 : decode b_M_run 36 = .ok (.iconst 0, 1) := by decide +kernel
theorem d_M_run_37 : decode b_M_run 37 = .ok (.invokevirtual 102, 3) := by decide +kernel
theorem d_M_run_40 : decode b_M_run 40 = .ok (.ifCond .ne 5, 3) := by decide +kernel
theorem d_M_run_43 : decode b_M_run 43 = .ok (.iconst 0, 1) := by decide +kernel
theorem d_M_run_44 : decode b_M_run 44 = .ok (.ireturn, 1) := by decide +kernel
theorem d_M_run_45 : decode b_M_run 45 = .ok (.iconst 0, 1) := by decide +kernel
theorem d_M_run_46 : decode b_M_run 46 = .ok (.istore_n 3, 1) := by decide +kernel
theorem d_M_run_47 : decode b_M_run 47 = .ok (.iload_n 3, 1) := by decide +kernel
theorem d_M_run_48 : decode b_M_run 48 = .ok (.aload_n 0, 1) := by decide +kernel
theorem d_M_run_49 : decode b_M_run 49 = .ok (.getfield 66, 3) := by decide +kernel
theorem d_M_run_52 : decode b_M_run 52 = .ok (.iload_n 1, 1) := by decide +kernel
theorem d_M_run_53 : decode b_M_run 53 = .ok (.iaload, 1) := by decide +kernel
theorem d_M_run_54 : decode b_M_run 54 = .ok (.if_icmp .ge 26, 3) := by decide +kernel
theorem d_M_run_57 : decode b_M_run 57 = .ok (.aload_n 0, 1) := by decide +kernel
theorem d_M_run_58 : decode b_M_run 58 = .ok (.getfield 78, 3) := by decide +kernel
theorem d_M_run_61 : decode b_M_run 61 = .ok (.bipush 20, 2) := by decide +kernel
theorem d_M_run_63 : decode b_M_run 63 = .ok (.iload_n 1, 1) := by decide +kernel
theorem d_M_run_64 : decode b_M_run 64 = .ok (.imul, 1) := by decide +kernel
theorem d_M_run_65 : decode b_M_run 65 = .ok (.iload_n 3, 1) := by decide +kernel
theorem d_M_run_66 : decode b_M_run 66 = .ok (.iadd, 1) := by decide +kernel
theorem d_M_run_67 : decode b_M_run 67 = .ok (.aload_n 0, 1) := by decide +kernel
theorem d_M_run_68 : decode b_M_run 68 = .ok (.iload_n 3, 1) := by decide +kernel
theorem d_M_run_69 : decode b_M_run 69 = .ok (.iload_n 1, 1) := by decide +kernel
theorem d_M_run_70 : decode b_M_run 70 = .ok (.invokevirtual 150, 3) := by decide +kernel
theorem d_M_run_73 : decode b_M_run 73 = .ok (.lastore, 1) := by decide +kernel
theorem d_M_run_74 : decode b_M_run 74 = .ok (.iinc 3 1, 3) := by decide +kernel
theorem d_M_run_77 : decode b_M_run 77 = .ok (.goto (-30), 3) := by decide +kernel
theorem d_M_run_80 : decode b_M_run 80 = .ok (.aload_n 0, 1) := by decide +kernel
theorem d_M_run_81 : decode b_M_run 81 = .ok (.getfield 69, 3) := by decide +kernel
theorem d_M_run_84 : decode b_M_run 84 = .ok (.iload_n 1, 1) := by decide +kernel
theorem d_M_run_85 : decode b_M_run 85 = .ok (.aload_n 0, 1) := by decide +kernel
theorem d_M_run_86 : decode b_M_run 86 = .ok (.getfield 66, 3) := by decide +kernel
theorem d_M_run_89 : decode b_M_run 89 = .ok (.iload_n 1, 1) := by decide +kernel
theorem d_M_run_90 : decode b_M_run 90 = .ok (.iaload, 1) := by decide +kernel
theorem d_M_run_91 : decode b_M_run 91 = .ok (.iastore, 1) := by decide +kernel
theorem d_M_run_92 : decode b_M_run 92 = .ok (.aload_n 0, 1) := by decide +kernel
theorem d_M_run_93 : decode b_M_run 93 = .ok (.getfield 66, 3) := by decide +kernel
theorem d_M_run_96 : decode b_M_run 96 = .ok (.iload_n 1, 1) := by decide +kernel
theorem d_M_run_97 : decode b_M_run 97 = .ok (.aload_n 0, 1) := by decide +kernel
theorem d_M_run_98 : decode b_M_run 98 = .ok (.getfield 96, 3) := by decide +kernel
theorem d_M_run_101 : decode b_M_run 101 = .ok (.iastore, 1) := by decide +kernel
theorem d_M_run_102 : decode b_M_run 102 = .ok (.aload_n 0, 1) := by decide +kernel
theorem d_M_run_103 : decode b_M_run 103 = .ok (.getfield 63, 3) := by decide +kernel
theorem d_M_run_106 : decode b_M_run 106 = .ok (.iload_n 1, 1) := by decide +kernel
theorem d_M_run_107 : decode b_M_run 107 = .ok (.dup2, 1) := by decide +kernel
theorem d_M_run_108 : decode b_M_run 108 = .ok (.iaload, 1) := by decide +kernel
theorem d_M_run_109 : decode b_M_run 109 = .ok (.iconst 1, 1) := by decide +kernel
theorem d_M_run_110 : decode b_M_run 110 = .ok (.iadd, 1) := by decide +kernel
theorem d_M_run_111 : decode b_M_run 111 = .ok (.iastore, 1) := by decide +kernel
theorem d_M_run_112 : decode b_M_run 112 = .ok (.iconst 0, 1) := by decide +kernel
theorem d_M_run_113 : decode b_M_run 113 = .ok (.istore_n 3, 1) := by decide +kernel
theorem d_M_run_114 : decode b_M_run 114 = .ok (.iload_n 3, 1) := by decide +kernel
theorem d_M_run_115 : decode b_M_run 115 = .ok (.iconst 4, 1) := by decide +kernel
theorem d_M_run_116 : decode b_M_run 116 = .ok (.if_icmp .ge 145, 3) := by decide +kernel
theorem d_M_run_119 : decode b_M_run 119 = .ok (.aload_n 0, 1) := by decide +kernel
theorem d_M_run_120 : decode b_M_run 120 = .ok (.getfield 57, 3) := by decide +kernel
theorem d_M_run_123 : decode b_M_run 123 = .ok (.iconst 4, 1) := by decide +kernel
theorem d_M_run_124 : decode b_M_run 124 = .ok (.iload_n 1, 1) := by decide +kernel
theorem d_M_run_125 : decode b_M_run 125 = .ok (.imul, 1) := by decide +kernel
theorem d_M_run_126 : decode b_M_run 126 = .ok (.iload_n 3, 1) := by decide +kernel
theorem d_M_run_127 : decode b_M_run 127 = .ok (.iadd, 1) := by decide +kernel
theorem d_M_run_128 : decode b_M_run 128 = .ok (.iaload, 1) := by decide +kernel
theorem d_M_run_129 : decode b_M_run 129 = .ok (.i2l, 1) := by decide +kernel
theorem d_M_run_130 : decode b_M_run 130 = .ok (.lstore 4, 2) := by decide +kernel
theorem d_M_run_132 : decode b_M_run 132 = .ok (.lload 4, 2) := by decide +kernel
theorem d_M_run_134 : decode b_M_run 134 = .ok (.aload_n 0, 1) := by decide +kernel
theorem d_M_run_135 : decode b_M_run 135 = .ok (.getfield 60, 3) := by decide +kernel
theorem d_M_run_138 : decode b_M_run 138 = .ok (.iload_n 3, 1) := by decide +kernel
theorem d_M_run_139 : decode b_M_run 139 = .ok (.iaload, 1) := by decide +kernel
theorem d_M_run_140 : decode b_M_run 140 = .ok (.i2l, 1) := by decide +kernel
theorem d_M_run_141 : decode b_M_run 141 = .ok (.lmul, 1) := by decide +kernel
theorem d_M_run_142 : decode b_M_run 142 = .ok (.ldc2_w 154, 3) := by decide +kernel
theorem d_M_run_145 : decode b_M_run 145 = .ok (.ldiv, 1) := by decide +kernel
theorem d_M_run_146 : decode b_M_run 146 = .ok (.lstore 6, 2) := by decide +kernel
theorem d_M_run_148 : decode b_M_run 148 = .ok (.aload_n 0, 1) := by decide +kernel
theorem d_M_run_149 : decode b_M_run 149 = .ok (.invokevirtual 147, 3) := by decide +kernel
theorem d_M_run_152 : decode b_M_run 152 = .ok (.aload_n 0, 1) := by decide +kernel
theorem d_M_run_153 : decode b_M_run 153 = .ok (.lload 6, 2) := by decide +kernel
theorem d_M_run_155 : decode b_M_run 155 = .ok (.invokevirtual 156, 3) := by decide +kernel
theorem d_M_run_158 : decode b_M_run 158 = .ok (.iconst 0, 1) := by decide +kernel
theorem d_M_run_159 : decode b_M_run 159 = .ok (.istore 8, 2) := by decide +kernel
theorem d_M_run_161 : decode b_M_run 161 = .ok (.iload 8, 2) := by decide +kernel
theorem d_M_run_163 : decode b_M_run 163 = .ok (.aload_n 0, 1) := by decide +kernel
theorem d_M_run_164 : decode b_M_run 164 = .ok (.getfield 96, 3) := by decide +kernel
theorem d_M_run_167 : decode b_M_run 167 = .ok (.if_icmp .ge 32, 3) := by decide +kernel
theorem d_M_run_170 : decode b_M_run 170 = .ok (.aload_n 0, 1) := by decide +kernel
theorem d_M_run_171 : decode b_M_run 171 = .ok (.getfield 72, 3) := by decide +kernel
theorem d_M_run_174 : decode b_M_run 174 = .ok (.bipush 80, 2) := by decide +kernel
theorem d_M_run_176 : decode b_M_run 176 = .ok (.iload_n 1, 1) := by decide +kernel
theorem d_M_run_177 : decode b_M_run 177 = .ok (.imul, 1) := by decide +kernel
theorem d_M_run_178 : decode b_M_run 178 = .ok (.iconst 4, 1) := by decide +kernel
theorem d_M_run_179 : decode b_M_run 179 = .ok (.iload 8, 2) := by decide +kernel
theorem d_M_run_181 : decode b_M_run 181 = .ok (.imul, 1) := by decide +kernel
theorem d_M_run_182 : decode b_M_run 182 = .ok (.iadd, 1) := by decide +kernel
theorem d_M_run_183 : decode b_M_run 183 = .ok (.iload_n 3, 1) := by decide +kernel
theorem d_M_run_184 : decode b_M_run 184 = .ok (.iadd, 1) := by decide +kernel
theorem d_M_run_185 : decode b_M_run 185 = .ok (.aload_n 0, 1) := by decide +kernel
theorem d_M_run_186 : decode b_M_run 186 = .ok (.getfield 84, 3) := by decide +kernel
theorem d_M_run_189 : decode b_M_run 189 = .ok (.iload 8, 2) := by decide +kernel
theorem d_M_run_191 : decode b_M_run 191 = .ok (.laload, 1) := by decide +kernel
theorem d_M_run_192 : decode b_M_run 192 = .ok (.lastore, 1) := by decide +kernel
theorem d_M_run_193 : decode b_M_run 193 = .ok (.iinc 8 1, 3) := by decide +kernel
theorem d_M_run_196 : decode b_M_run 196 = .ok (.goto (-35), 3) := by decide +kernel
theorem d_M_run_199 : decode b_M_run 199 = .ok (.aload_n 0, 1) := by decide +kernel
theorem d_M_run_200 : decode b_M_run 200 = .ok (.iload_n 3, 1) := by decide +kernel
theorem d_M_run_201 : decode b_M_run 201 = .ok (.iload_n 1, 1) := by decide +kernel
theorem d_M_run_202 : decode b_M_run 202 = .ok (.invokevirtual 160, 3) := by decide +kernel
theorem d_M_run_205 : decode b_M_run 205 = .ok (.aload_n 0, 1) := by decide +kernel
theorem d_M_run_206 : decode b_M_run 206 = .ok (.lload 4, 2) := by decide +kernel
theorem d_M_run_208 : decode b_M_run 208 = .ok (.lload 6, 2) := by decide +kernel
theorem d_M_run_210 : decode b_M_run 210 = .ok (.lsub, 1) := by decide +kernel
theorem d_M_run_211 : decode b_M_run 211 = .ok (.invokevirtual 156, 3) := by decide +kernel
theorem d_M_run_214 : decode b_M_run 214 = .ok (.iconst 0, 1) := by decide +kernel
theorem d_M_run_215 : decode b_M_run 215 = .ok (.istore 8, 2) := by decide +kernel
theorem d_M_run_217 : decode b_M_run 217 = .ok (.iload 8, 2) := by decide +kernel
theorem d_M_run_219 : decode b_M_run 219 = .ok (.aload_n 0, 1) := by decide +kernel
theorem d_M_run_220 : decode b_M_run 220 = .ok (.getfield 96, 3) := by decide +kernel
theorem d_M_run_223 : decode b_M_run 223 = .ok (.if_icmp .ge 32, 3) := by decide +kernel
theorem d_M_run_226 : decode b_M_run 226 = .ok (.aload_n 0, 1) := by decide +kernel
theorem d_M_run_227 : decode b_M_run 227 = .ok (.getfield 75, 3) := by decide +kernel
theorem d_M_run_230 : decode b_M_run 230 = .ok (.bipush 80, 2) := by decide +kernel
theorem d_M_run_232 : decode b_M_run 232 = .ok (.iload_n 1, 1) := by decide +kernel
theorem d_M_run_233 : decode b_M_run 233 = .ok (.imul, 1) := by decide +kernel
theorem d_M_run_234 : decode b_M_run 234 = .ok (.iconst 4, 1) := by decide +kernel
theorem d_M_run_235 : decode b_M_run 235 = .ok (.iload 8, 2) := by decide +kernel
theorem d_M_run_237 : decode b_M_run 237 = .ok (.imul, 1) := by decide +kernel
theorem d_M_run_238 : decode b_M_run 238 = .ok (.iadd, 1) := by decide +kernel
theorem d_M_run_239 : decode b_M_run 239 = .ok (.iload_n 3, 1) := by decide +kernel
theorem d_M_run_240 : decode b_M_run 240 = .ok (.iadd, 1) := by decide +kernel
theorem d_M_run_241 : decode b_M_run 241 = .ok (.aload_n 0, 1) := by decide +kernel
theorem d_M_run_242 : decode b_M_run 242 = .ok (.getfield 84, 3) := by decide +kernel
theorem d_M_run_245 : decode b_M_run 245 = .ok (.iload 8, 2) := by decide +kernel
theorem d_M_run_247 : decode b_M_run 247 = .ok (.laload, 1) := by decide +kernel
theorem d_M_run_248 : decode b_M_run 248 = .ok (.lastore, 1) := by decide +kernel
theorem d_M_run_249 : decode b_M_run 249 = .ok (.iinc 8 1, 3) := by decide +kernel
theorem d_M_run_252 : decode b_M_run 252 = .ok (.goto (-35), 3) := by decide +kernel
theorem d_M_run_255 : decode b_M_run 255 = .ok (.iinc 3 1, 3) := by decide +kernel
theorem d_M_run_258 : decode b_M_run 258 = .ok (.goto (-144), 3) := by decide +kernel
theorem d_M_run_261 : decode b_M_run 261 = .ok (.aload_n 0, 1) := by decide +kernel
theorem d_M_run_262 : decode b_M_run 262 = .ok (.getfield 63, 3) := by decide +kernel
theorem d_M_run_265 : decode b_M_run 265 = .ok (.iload_n 1, 1) := by decide +kernel
theorem d_M_run_266 : decode b_M_run 266 = .ok (.iaload, 1) := by decide +kernel
theorem d_M_run_267 : decode b_M_run 267 = .ok (.ireturn, 1) := by decide +kernel
theorem cal_M_run : am_cal y_M_run b_M_run 9 ((Option.some FieldType.int)) 1 := ⟨Or.inl wx_818, wx_6, by decide, by decide +kernel⟩
abbrev y_M_shareOf : MethodName := ⟨"BillSharesModel", "shareOf", "(II)J"⟩
abbrev b_M_shareOf : ByteArray := prog_6_method_28_code
theorem d_M_shareOf_0 : decode b_M_shareOf 0 = .ok (.lconst 0, 1) := by decide +kernel
theorem d_M_shareOf_1 : decode b_M_shareOf 1 = .ok (.lstore_n 3, 1) := by decide +kernel
theorem d_M_shareOf_2 : decode b_M_shareOf 2 = .ok (.iconst 0, 1) := by decide +kernel
theorem d_M_shareOf_3 : decode b_M_shareOf 3 = .ok (.istore 5, 2) := by decide +kernel
theorem d_M_shareOf_5 : decode b_M_shareOf 5 = .ok (.iload 5, 2) := by decide +kernel
theorem d_M_shareOf_7 : decode b_M_shareOf 7 = .ok (.iconst 4, 1) := by decide +kernel
theorem d_M_shareOf_8 : decode b_M_shareOf 8 = .ok (.if_icmp .ge 45, 3) := by decide +kernel
theorem d_M_shareOf_11 : decode b_M_shareOf 11 = .ok (.lload_n 3, 1) := by decide +kernel
theorem d_M_shareOf_12 : decode b_M_shareOf 12 = .ok (.aload_n 0, 1) := by decide +kernel
theorem d_M_shareOf_13 : decode b_M_shareOf 13 = .ok (.getfield 72, 3) := by decide +kernel
theorem d_M_shareOf_16 : decode b_M_shareOf 16 = .ok (.bipush 80, 2) := by decide +kernel
theorem d_M_shareOf_18 : decode b_M_shareOf 18 = .ok (.iload_n 2, 1) := by decide +kernel
theorem d_M_shareOf_19 : decode b_M_shareOf 19 = .ok (.imul, 1) := by decide +kernel
theorem d_M_shareOf_20 : decode b_M_shareOf 20 = .ok (.iconst 4, 1) := by decide +kernel
theorem d_M_shareOf_21 : decode b_M_shareOf 21 = .ok (.iload_n 1, 1) := by decide +kernel
theorem d_M_shareOf_22 : decode b_M_shareOf 22 = .ok (.imul, 1) := by decide +kernel
theorem d_M_shareOf_23 : decode b_M_shareOf 23 = .ok (.iadd, 1) := by decide +kernel
theorem d_M_shareOf_24 : decode b_M_shareOf 24 = .ok (.iload 5, 2) := by decide +kernel
theorem d_M_shareOf_26 : decode b_M_shareOf 26 = .ok (.iadd, 1) := by decide +kernel
theorem d_M_shareOf_27 : decode b_M_shareOf 27 = .ok (.laload, 1) := by decide +kernel
theorem d_M_shareOf_28 : decode b_M_shareOf 28 = .ok (.aload_n 0, 1) := by decide +kernel
theorem d_M_shareOf_29 : decode b_M_shareOf 29 = .ok (.getfield 75, 3) := by decide +kernel
theorem d_M_shareOf_32 : decode b_M_shareOf 32 = .ok (.bipush 80, 2) := by decide +kernel
theorem d_M_shareOf_34 : decode b_M_shareOf 34 = .ok (.iload_n 2, 1) := by decide +kernel
theorem d_M_shareOf_35 : decode b_M_shareOf 35 = .ok (.imul, 1) := by decide +kernel
theorem d_M_shareOf_36 : decode b_M_shareOf 36 = .ok (.iconst 4, 1) := by decide +kernel
theorem d_M_shareOf_37 : decode b_M_shareOf 37 = .ok (.iload_n 1, 1) := by decide +kernel
theorem d_M_shareOf_38 : decode b_M_shareOf 38 = .ok (.imul, 1) := by decide +kernel
theorem d_M_shareOf_39 : decode b_M_shareOf 39 = .ok (.iadd, 1) := by decide +kernel
theorem d_M_shareOf_40 : decode b_M_shareOf 40 = .ok (.iload 5, 2) := by decide +kernel
theorem d_M_shareOf_42 : decode b_M_shareOf 42 = .ok (.iadd, 1) := by decide +kernel
theorem d_M_shareOf_43 : decode b_M_shareOf 43 = .ok (.laload, 1) := by decide +kernel
theorem d_M_shareOf_44 : decode b_M_shareOf 44 = .ok (.ladd, 1) := by decide +kernel
theorem d_M_shareOf_45 : decode b_M_shareOf 45 = .ok (.ladd, 1) := by decide +kernel
theorem d_M_shareOf_46 : decode b_M_shareOf 46 = .ok (.lstore_n 3, 1) := by decide +kernel
theorem d_M_shareOf_47 : decode b_M_shareOf 47 = .ok (.iinc 5 1, 3) := by decide +kernel
theorem d_M_shareOf_50 : decode b_M_shareOf 50 = .ok (.goto (-45), 3) := by decide +kernel
theorem d_M_shareOf_53 : decode b_M_shareOf 53 = .ok (.lload_n 3, 1) := by decide +kernel
theorem d_M_shareOf_54 : decode b_M_shareOf 54 = .ok (.lreturn, 1) := by decide +kernel
theorem cal_M_shareOf : am_cal y_M_shareOf b_M_shareOf 6 ((Option.some FieldType.long)) 2 := ⟨Or.inl wx_822, wx_6, by decide, by decide +kernel⟩
abbrev y_M_byAreas : MethodName := ⟨"BillSharesModel", "byAreas", "()V"⟩
abbrev b_M_byAreas : ByteArray := prog_6_method_26_code
theorem d_M_byAreas_0 : decode b_M_byAreas 0 = .ok (.iconst 0, 1) := by decide +kernel
theorem d_M_byAreas_1 : decode b_M_byAreas 1 = .ok (.istore_n 1, 1) := by decide +kernel
theorem d_M_byAreas_2 : decode b_M_byAreas 2 = .ok (.iload_n 1, 1) := by decide +kernel
theorem d_M_byAreas_3 : decode b_M_byAreas 3 = .ok (.aload_n 0, 1) := by decide +kernel
theorem d_M_byAreas_4 : decode b_M_byAreas 4 = .ok (.getfield 96, 3) := by decide +kernel
theorem d_M_byAreas_7 : decode b_M_byAreas 7 = .ok (.if_icmp .ge 22, 3) := by decide +kernel
theorem d_M_byAreas_10 : decode b_M_byAreas 10 = .ok (.aload_n 0, 1) := by decide +kernel
theorem d_M_byAreas_11 : decode b_M_byAreas 11 = .ok (.getfield 81, 3) := by decide +kernel
theorem d_M_byAreas_14 : decode b_M_byAreas 14 = .ok (.iload_n 1, 1) := by decide +kernel
theorem d_M_byAreas_15 : decode b_M_byAreas 15 = .ok (.aload_n 0, 1) := by decide +kernel
theorem d_M_byAreas_16 : decode b_M_byAreas 16 = .ok (.getfield 7, 3) := by decide +kernel
theorem d_M_byAreas_19 : decode b_M_byAreas 19 = .ok (.iload_n 1, 1) := by decide +kernel
theorem d_M_byAreas_20 : decode b_M_byAreas 20 = .ok (.iaload, 1) := by decide +kernel
theorem d_M_byAreas_21 : decode b_M_byAreas 21 = .ok (.i2l, 1) := by decide +kernel
theorem d_M_byAreas_22 : decode b_M_byAreas 22 = .ok (.lastore, 1) := by decide +kernel
theorem d_M_byAreas_23 : decode b_M_byAreas 23 = .ok (.iinc 1 1, 3) := by decide +kernel
theorem d_M_byAreas_26 : decode b_M_byAreas 26 = .ok (.goto (-24), 3) := by decide +kernel
theorem d_M_byAreas_29 : decode b_M_byAreas 29 = .ok (.return_, 1) := by decide +kernel
theorem cal_M_byAreas : am_cal y_M_byAreas b_M_byAreas 2 ((Option.none : Option FieldType)) 0 := ⟨Or.inl wx_827, wx_6, by decide, by decide +kernel⟩
abbrev y_M_deal : MethodName := ⟨"BillSharesModel", "deal", "(J)V"⟩
abbrev b_M_deal : ByteArray := prog_6_method_25_code
theorem d_M_deal_0 : decode b_M_deal 0 = .ok (.lconst 0, 1) := by decide +kernel
theorem d_M_deal_1 : decode b_M_deal 1 = .ok (.lstore_n 3, 1) := by decide +kernel
theorem d_M_deal_2 : decode b_M_deal 2 = .ok (.iconst 0, 1) := by decide +kernel
theorem d_M_deal_3 : decode b_M_deal 3 = .ok (.istore 5, 2) := by decide +kernel
theorem d_M_deal_5 : decode b_M_deal 5 = .ok (.iload 5, 2) := by decide +kernel
theorem d_M_deal_7 : decode b_M_deal 7 = .ok (.aload_n 0, 1) := by decide +kernel
theorem d_M_deal_8 : decode b_M_deal 8 = .ok (.getfield 96, 3) := by decide +kernel
theorem d_M_deal_11 : decode b_M_deal 11 = .ok (.if_icmp .ge 19, 3) := by decide +kernel
theorem d_M_deal_14 : decode b_M_deal 14 = .ok (.lload_n 3, 1) := by decide +kernel
theorem d_M_deal_15 : decode b_M_deal 15 = .ok (.aload_n 0, 1) := by decide +kernel
theorem d_M_deal_16 : decode b_M_deal 16 = .ok (.getfield 81, 3) := by decide +kernel
theorem d_M_deal_19 : decode b_M_deal 19 = .ok (.iload 5, 2) := by decide +kernel
theorem d_M_deal_21 : decode b_M_deal 21 = .ok (.laload, 1) := by decide +kernel
theorem d_M_deal_22 : decode b_M_deal 22 = .ok (.ladd, 1) := by decide +kernel
theorem d_M_deal_23 : decode b_M_deal 23 = .ok (.lstore_n 3, 1) := by decide +kernel
theorem d_M_deal_24 : decode b_M_deal 24 = .ok (.iinc 5 1, 3) := by decide +kernel
theorem d_M_deal_27 : decode b_M_deal 27 = .ok (.goto (-22), 3) := by decide +kernel
theorem d_M_deal_30 : decode b_M_deal 30 = .ok (.lload_n 1, 1) := by decide +kernel
theorem d_M_deal_31 : decode b_M_deal 31 = .ok (.lstore 5, 2) := by decide +kernel
theorem d_M_deal_33 : decode b_M_deal 33 = .ok (.iconst 0, 1) := by decide +kernel
theorem d_M_deal_34 : decode b_M_deal 34 = .ok (.istore 7, 2) := by decide +kernel
theorem d_M_deal_36 : decode b_M_deal 36 = .ok (.iload 7, 2) := by decide +kernel
theorem d_M_deal_38 : decode b_M_deal 38 = .ok (.aload_n 0, 1) := by decide +kernel
theorem d_M_deal_39 : decode b_M_deal 39 = .ok (.getfield 96, 3) := by decide +kernel
theorem d_M_deal_42 : decode b_M_deal 42 = .ok (.if_icmp .ge 40, 3) := by decide +kernel
theorem d_M_deal_45 : decode b_M_deal 45 = .ok (.aload_n 0, 1) := by decide +kernel
theorem d_M_deal_46 : decode b_M_deal 46 = .ok (.getfield 84, 3) := by decide +kernel
theorem d_M_deal_49 : decode b_M_deal 49 = .ok (.iload 7, 2) := by decide +kernel
theorem d_M_deal_51 : decode b_M_deal 51 = .ok (.lload_n 1, 1) := by decide +kernel
theorem d_M_deal_52 : decode b_M_deal 52 = .ok (.aload_n 0, 1) := by decide +kernel
theorem d_M_deal_53 : decode b_M_deal 53 = .ok (.getfield 81, 3) := by decide +kernel
theorem d_M_deal_56 : decode b_M_deal 56 = .ok (.iload 7, 2) := by decide +kernel
theorem d_M_deal_58 : decode b_M_deal 58 = .ok (.laload, 1) := by decide +kernel
theorem d_M_deal_59 : decode b_M_deal 59 = .ok (.lload_n 3, 1) := by decide +kernel
theorem d_M_deal_60 : decode b_M_deal 60 = .ok (.invokestatic 131, 3) := by decide +kernel
theorem d_M_deal_63 : decode b_M_deal 63 = .ok (.lastore, 1) := by decide +kernel
theorem d_M_deal_64 : decode b_M_deal 64 = .ok (.lload 5, 2) := by decide +kernel
theorem d_M_deal_66 : decode b_M_deal 66 = .ok (.aload_n 0, 1) := by decide +kernel
theorem d_M_deal_67 : decode b_M_deal 67 = .ok (.getfield 84, 3) := by decide +kernel
theorem d_M_deal_70 : decode b_M_deal 70 = .ok (.iload 7, 2) := by decide +kernel
theorem d_M_deal_72 : decode b_M_deal 72 = .ok (.laload, 1) := by decide +kernel
theorem d_M_deal_73 : decode b_M_deal 73 = .ok (.lsub, 1) := by decide +kernel
theorem d_M_deal_74 : decode b_M_deal 74 = .ok (.lstore 5, 2) := by decide +kernel
theorem d_M_deal_76 : decode b_M_deal 76 = .ok (.iinc 7 1, 3) := by decide +kernel
theorem d_M_deal_79 : decode b_M_deal 79 = .ok (.goto (-43), 3) := by decide +kernel
theorem d_M_deal_82 : decode b_M_deal 82 = .ok (.iconst 0, 1) := by decide +kernel
theorem d_M_deal_83 : decode b_M_deal 83 = .ok (.istore 7, 2) := by decide +kernel
theorem d_M_deal_85 : decode b_M_deal 85 = .ok (.iload 7, 2) := by decide +kernel
theorem d_M_deal_87 : decode b_M_deal 87 = .ok (.aload_n 0, 1) := by decide +kernel
theorem d_M_deal_88 : decode b_M_deal 88 = .ok (.getfield 96, 3) := by decide +kernel
theorem d_M_deal_91 : decode b_M_deal 91 = .ok (.if_icmp .ge 37, 3) := by decide +kernel
theorem d_M_deal_94 : decode b_M_deal 94 = .ok (.aload_n 0, 1) := by decide +kernel
theorem d_M_deal_95 : decode b_M_deal 95 = .ok (.getfield 84, 3) := by decide +kernel
theorem d_M_deal_98 : decode b_M_deal 98 = .ok (.iload 7, 2) := by decide +kernel
theorem d_M_deal_100 : decode b_M_deal 100 = .ok (.dup2, 1) := by decide +kernel
theorem d_M_deal_101 : decode b_M_deal 101 = .ok (.laload, 1) := by decide +kernel
theorem d_M_deal_102 : decode b_M_deal 102 = .ok (.aload_n 0, 1) := by decide +kernel
theorem d_M_deal_103 : decode b_M_deal 103 = .ok (.iload 7, 2) := by decide +kernel
theorem d_M_deal_105 : decode b_M_deal 105 = .ok (.invokevirtual 135, 3) := by decide +kernel
theorem d_M_deal_108 : decode b_M_deal 108 = .ok (.i2l, 1) := by decide +kernel
theorem d_M_deal_109 : decode b_M_deal 109 = .ok (.lload 5, 2) := by decide +kernel
theorem d_M_deal_111 : decode b_M_deal 111 = .ok (.lcmp, 1) := by decide +kernel
theorem d_M_deal_112 : decode b_M_deal 112 = .ok (.ifCond .ge 7, 3) := by decide +kernel
theorem d_M_deal_115 : decode b_M_deal 115 = .ok (.lconst 1, 1) := by decide +kernel
theorem d_M_deal_116 : decode b_M_deal 116 = .ok (.goto 4, 3) := by decide +kernel
theorem d_M_deal_119 : decode b_M_deal 119 = .ok (.lconst 0, 1) := by decide +kernel
theorem d_M_deal_120 : decode b_M_deal 120 = .ok (.ladd, 1) := by decide +kernel
theorem d_M_deal_121 : decode b_M_deal 121 = .ok (.lastore, 1) := by decide +kernel
theorem d_M_deal_122 : decode b_M_deal 122 = .ok (.iinc 7 1, 3) := by decide +kernel
theorem d_M_deal_125 : decode b_M_deal 125 = .ok (.goto (-40), 3) := by decide +kernel
theorem d_M_deal_128 : decode b_M_deal 128 = .ok (.return_, 1) := by decide +kernel
theorem cal_M_deal : am_cal y_M_deal b_M_deal 8 ((Option.none : Option FieldType)) 1 := ⟨Or.inl wx_831, wx_6, by decide, by decide +kernel⟩
abbrev y_M_portion : MethodName := ⟨"BillSharesModel", "portion", "(JJJ)J"⟩
abbrev b_M_portion : ByteArray := prog_6_method_23_code
theorem d_M_portion_0 : decode b_M_portion 0 = .ok (.lload_n 2, 1) := by decide +kernel
theorem d_M_portion_1 : decode b_M_portion 1 = .ok (.lload 4, 2) := by decide +kernel
theorem d_M_portion_3 : decode b_M_portion 3 = .ok (.ldiv, 1) := by decide +kernel
theorem d_M_portion_4 : decode b_M_portion 4 = .ok (.lload_n 0, 1) := by decide +kernel
theorem d_M_portion_5 : decode b_M_portion 5 = .ok (.lmul, 1) := by decide +kernel
theorem d_M_portion_6 : decode b_M_portion 6 = .ok (.lstore 6, 2) := by decide +kernel
theorem d_M_portion_8 : decode b_M_portion 8 = .ok (.lload_n 2, 1) := by decide +kernel
theorem d_M_portion_9 : decode b_M_portion 9 = .ok (.lload 4, 2) := by decide +kernel
theorem d_M_portion_11 : decode b_M_portion 11 = .ok (.lrem, 1) := by decide +kernel
theorem d_M_portion_12 : decode b_M_portion 12 = .ok (.lstore 8, 2) := by decide +kernel
theorem d_M_portion_14 : decode b_M_portion 14 = .ok (.lconst 0, 1) := by decide +kernel
theorem d_M_portion_15 : decode b_M_portion 15 = .ok (.lstore 10, 2) := by decide +kernel
theorem d_M_portion_17 : decode b_M_portion 17 = .ok (.lconst 0, 1) := by decide +kernel
theorem d_M_portion_18 : decode b_M_portion 18 = .ok (.lstore 12, 2) := by decide +kernel
theorem d_M_portion_20 : decode b_M_portion 20 = .ok (.bipush 30, 2) := by decide +kernel
theorem d_M_portion_22 : decode b_M_portion 22 = .ok (.istore 14, 2) := by decide +kernel
theorem d_M_portion_24 : decode b_M_portion 24 = .ok (.iload 14, 2) := by decide +kernel
theorem d_M_portion_26 : decode b_M_portion 26 = .ok (.ifCond .lt 141, 3) := by decide +kernel
theorem d_M_portion_29 : decode b_M_portion 29 = .ok (.lload 10, 2) := by decide +kernel
theorem d_M_portion_31 : decode b_M_portion 31 = .ok (.ldc2_w 129, 3) := by decide +kernel
theorem d_M_portion_34 : decode b_M_portion 34 = .ok (.lmul, 1) := by decide +kernel
theorem d_M_portion_35 : decode b_M_portion 35 = .ok (.lstore 10, 2) := by decide +kernel
theorem d_M_portion_37 : decode b_M_portion 37 = .ok (.lload 12, 2) := by decide +kernel
theorem d_M_portion_39 : decode b_M_portion 39 = .ok (.lload 4, 2) := by decide +kernel
theorem d_M_portion_41 : decode b_M_portion 41 = .ok (.lload 12, 2) := by decide +kernel
theorem d_M_portion_43 : decode b_M_portion 43 = .ok (.lsub, 1) := by decide +kernel
theorem d_M_portion_44 : decode b_M_portion 44 = .ok (.lcmp, 1) := by decide +kernel
theorem d_M_portion_45 : decode b_M_portion 45 = .ok (.ifCond .lt 7, 3) := by decide +kernel
theorem d_M_portion_48 : decode b_M_portion 48 = .ok (.iconst 1, 1) := by decide +kernel
theorem d_M_portion_49 : decode b_M_portion 49 = .ok (.goto 4, 3) := by decide +kernel
theorem d_M_portion_52 : decode b_M_portion 52 = .ok (.iconst 0, 1) := by decide +kernel
theorem d_M_portion_53 : decode b_M_portion 53 = .ok (.istore 15, 2) := by decide +kernel
theorem d_M_portion_55 : decode b_M_portion 55 = .ok (.iload 15, 2) := by decide +kernel
theorem d_M_portion_57 : decode b_M_portion 57 = .ok (.ifCond .eq 14, 3) := by decide +kernel
theorem d_M_portion_60 : decode b_M_portion 60 = .ok (.lload 12, 2) := by decide +kernel
theorem d_M_portion_62 : decode b_M_portion 62 = .ok (.lload 4, 2) := by decide +kernel
theorem d_M_portion_64 : decode b_M_portion 64 = .ok (.lload 12, 2) := by decide +kernel
theorem d_M_portion_66 : decode b_M_portion 66 = .ok (.lsub, 1) := by decide +kernel
theorem d_M_portion_67 : decode b_M_portion 67 = .ok (.lsub, 1) := by decide +kernel
theorem d_M_portion_68 : decode b_M_portion 68 = .ok (.goto 9, 3) := by decide +kernel
theorem d_M_portion_71 : decode b_M_portion 71 = .ok (.ldc2_w 129, 3) := by decide +kernel
theorem d_M_portion_74 : decode b_M_portion 74 = .ok (.lload 12, 2) := by decide +kernel
theorem d_M_portion_76 : decode b_M_portion 76 = .ok (.lmul, 1) := by decide +kernel
theorem d_M_portion_77 : decode b_M_portion 77 = .ok (.lstore 12, 2) := by decide +kernel
theorem d_M_portion_79 : decode b_M_portion 79 = .ok (.lload 10, 2) := by decide +kernel
theorem d_M_portion_81 : decode b_M_portion 81 = .ok (.iload 15, 2) := by decide +kernel
theorem d_M_portion_83 : decode b_M_portion 83 = .ok (.ifCond .eq 7, 3) := by decide +kernel
theorem d_M_portion_86 : decode b_M_portion 86 = .ok (.lconst 1, 1) := by decide +kernel
theorem d_M_portion_87 : decode b_M_portion 87 = .ok (.goto 4, 3) := by decide +kernel
theorem d_M_portion_90 : decode b_M_portion 90 = .ok (.lconst 0, 1) := by decide +kernel
theorem d_M_portion_91 : decode b_M_portion 91 = .ok (.ladd, 1) := by decide +kernel
theorem d_M_portion_92 : decode b_M_portion 92 = .ok (.lstore 10, 2) := by decide +kernel
theorem d_M_portion_94 : decode b_M_portion 94 = .ok (.lload_n 0, 1) := by decide +kernel
theorem d_M_portion_95 : decode b_M_portion 95 = .ok (.iload 14, 2) := by decide +kernel
theorem d_M_portion_97 : decode b_M_portion 97 = .ok (.lshr, 1) := by decide +kernel
theorem d_M_portion_98 : decode b_M_portion 98 = .ok (.lconst 1, 1) := by decide +kernel
theorem d_M_portion_99 : decode b_M_portion 99 = .ok (.land, 1) := by decide +kernel
theorem d_M_portion_100 : decode b_M_portion 100 = .ok (.lconst 1, 1) := by decide +kernel
theorem d_M_portion_101 : decode b_M_portion 101 = .ok (.lcmp, 1) := by decide +kernel
theorem d_M_portion_102 : decode b_M_portion 102 = .ok (.ifCond .ne 59, 3) := by decide +kernel
theorem d_M_portion_105 : decode b_M_portion 105 = .ok (.lload 12, 2) := by decide +kernel
theorem d_M_portion_107 : decode b_M_portion 107 = .ok (.lload 4, 2) := by decide +kernel
theorem d_M_portion_109 : decode b_M_portion 109 = .ok (.lload 8, 2) := by decide +kernel
theorem d_M_portion_111 : decode b_M_portion 111 = .ok (.lsub, 1) := by decide +kernel
theorem d_M_portion_112 : decode b_M_portion 112 = .ok (.lcmp, 1) := by decide +kernel
theorem d_M_portion_113 : decode b_M_portion 113 = .ok (.ifCond .lt 7, 3) := by decide +kernel
theorem d_M_portion_116 : decode b_M_portion 116 = .ok (.iconst 1, 1) := by decide +kernel
theorem d_M_portion_117 : decode b_M_portion 117 = .ok (.goto 4, 3) := by decide +kernel
theorem d_M_portion_120 : decode b_M_portion 120 = .ok (.iconst 0, 1) := by decide +kernel
theorem d_M_portion_121 : decode b_M_portion 121 = .ok (.istore 16, 2) := by decide +kernel
theorem d_M_portion_123 : decode b_M_portion 123 = .ok (.iload 16, 2) := by decide +kernel
theorem d_M_portion_125 : decode b_M_portion 125 = .ok (.ifCond .eq 14, 3) := by decide +kernel
theorem d_M_portion_128 : decode b_M_portion 128 = .ok (.lload 12, 2) := by decide +kernel
theorem d_M_portion_130 : decode b_M_portion 130 = .ok (.lload 4, 2) := by decide +kernel
theorem d_M_portion_132 : decode b_M_portion 132 = .ok (.lload 8, 2) := by decide +kernel
theorem d_M_portion_134 : decode b_M_portion 134 = .ok (.lsub, 1) := by decide +kernel
theorem d_M_portion_135 : decode b_M_portion 135 = .ok (.lsub, 1) := by decide +kernel
theorem d_M_portion_136 : decode b_M_portion 136 = .ok (.goto 8, 3) := by decide +kernel
theorem d_M_portion_139 : decode b_M_portion 139 = .ok (.lload 12, 2) := by decide +kernel
theorem d_M_portion_141 : decode b_M_portion 141 = .ok (.lload 8, 2) := by decide +kernel
theorem d_M_portion_143 : decode b_M_portion 143 = .ok (.ladd, 1) := by decide +kernel
theorem d_M_portion_144 : decode b_M_portion 144 = .ok (.lstore 12, 2) := by decide +kernel
theorem d_M_portion_146 : decode b_M_portion 146 = .ok (.lload 10, 2) := by decide +kernel
theorem d_M_portion_148 : decode b_M_portion 148 = .ok (.iload 16, 2) := by decide +kernel
theorem d_M_portion_150 : decode b_M_portion 150 = .ok (.ifCond .eq 7, 3) := by decide +kernel
theorem d_M_portion_153 : decode b_M_portion 153 = .ok (.lconst 1, 1) := by decide +kernel
theorem d_M_portion_154 : decode b_M_portion 154 = .ok (.goto 4, 3) := by decide +kernel
theorem d_M_portion_157 : decode b_M_portion 157 = .ok (.lconst 0, 1) := by decide +kernel
theorem d_M_portion_158 : decode b_M_portion 158 = .ok (.ladd, 1) := by decide +kernel
theorem d_M_portion_159 : decode b_M_portion 159 = .ok (.lstore 10, 2) := by decide +kernel
theorem d_M_portion_161 : decode b_M_portion 161 = .ok (.iinc 14 (-1), 3) := by decide +kernel
theorem d_M_portion_164 : decode b_M_portion 164 = .ok (.goto (-140), 3) := by decide +kernel
theorem d_M_portion_167 : decode b_M_portion 167 = .ok (.lload 6, 2) := by decide +kernel
theorem d_M_portion_169 : decode b_M_portion 169 = .ok (.lload 10, 2) := by decide +kernel
theorem d_M_portion_171 : decode b_M_portion 171 = .ok (.ladd, 1) := by decide +kernel
theorem d_M_portion_172 : decode b_M_portion 172 = .ok (.lreturn, 1) := by decide +kernel
theorem cal_M_portion : am_cal y_M_portion b_M_portion 17 ((Option.some FieldType.long)) 3 := ⟨Or.inl wx_834, wx_6, by decide, by decide +kernel⟩
abbrev y_M_before : MethodName := ⟨"BillSharesModel", "before", "(I)I"⟩
abbrev b_M_before : ByteArray := prog_6_method_24_code
theorem d_M_before_0 : decode b_M_before 0 = .ok (.iconst 0, 1) := by decide +kernel
theorem d_M_before_1 : decode b_M_before 1 = .ok (.istore_n 2, 1) := by decide +kernel
theorem d_M_before_2 : decode b_M_before 2 = .ok (.iconst 0, 1) := by decide +kernel
theorem d_M_before_3 : decode b_M_before 3 = .ok (.istore_n 3, 1) := by decide +kernel
theorem d_M_before_4 : decode b_M_before 4 = .ok (.iload_n 3, 1) := by decide +kernel
theorem d_M_before_5 : decode b_M_before 5 = .ok (.aload_n 0, 1) := by decide +kernel
theorem d_M_before_6 : decode b_M_before 6 = .ok (.getfield 96, 3) := by decide +kernel
theorem d_M_before_9 : decode b_M_before 9 = .ok (.if_icmp .ge 52, 3) := by decide +kernel
theorem d_M_before_12 : decode b_M_before 12 = .ok (.iload_n 2, 1) := by decide +kernel
theorem d_M_before_13 : decode b_M_before 13 = .ok (.aload_n 0, 1) := by decide +kernel
theorem d_M_before_14 : decode b_M_before 14 = .ok (.getfield 13, 3) := by decide +kernel
theorem d_M_before_17 : decode b_M_before 17 = .ok (.iload_n 3, 1) := by decide +kernel
theorem d_M_before_18 : decode b_M_before 18 = .ok (.iaload, 1) := by decide +kernel
theorem d_M_before_19 : decode b_M_before 19 = .ok (.aload_n 0, 1) := by decide +kernel
theorem d_M_before_20 : decode b_M_before 20 = .ok (.getfield 13, 3) := by decide +kernel
theorem d_M_before_23 : decode b_M_before 23 = .ok (.iload_n 1, 1) := by decide +kernel
theorem d_M_before_24 : decode b_M_before 24 = .ok (.iaload, 1) := by decide +kernel
theorem d_M_before_25 : decode b_M_before 25 = .ok (.if_icmp .lt 23, 3) := by decide +kernel
theorem d_M_before_28 : decode b_M_before 28 = .ok (.aload_n 0, 1) := by decide +kernel
theorem d_M_before_29 : decode b_M_before 29 = .ok (.getfield 13, 3) := by decide +kernel
theorem d_M_before_32 : decode b_M_before 32 = .ok (.iload_n 3, 1) := by decide +kernel
theorem d_M_before_33 : decode b_M_before 33 = .ok (.iaload, 1) := by decide +kernel
theorem d_M_before_34 : decode b_M_before 34 = .ok (.aload_n 0, 1) := by decide +kernel
theorem d_M_before_35 : decode b_M_before 35 = .ok (.getfield 13, 3) := by decide +kernel
theorem d_M_before_38 : decode b_M_before 38 = .ok (.iload_n 1, 1) := by decide +kernel
theorem d_M_before_39 : decode b_M_before 39 = .ok (.iaload, 1) := by decide +kernel
theorem d_M_before_40 : decode b_M_before 40 = .ok (.if_icmp .ne 12, 3) := by decide +kernel
theorem d_M_before_43 : decode b_M_before 43 = .ok (.iload_n 3, 1) := by decide +kernel
theorem d_M_before_44 : decode b_M_before 44 = .ok (.iload_n 1, 1) := by decide +kernel
theorem d_M_before_45 : decode b_M_before 45 = .ok (.if_icmp .ge 7, 3) := by decide +kernel
theorem d_M_before_48 : decode b_M_before 48 = .ok (.iconst 1, 1) := by decide +kernel
theorem d_M_before_49 : decode b_M_before 49 = .ok (.goto 4, 3) := by decide +kernel
theorem d_M_before_52 : decode b_M_before 52 = .ok (.iconst 0, 1) := by decide +kernel
theorem d_M_before_53 : decode b_M_before 53 = .ok (.iadd, 1) := by decide +kernel
theorem d_M_before_54 : decode b_M_before 54 = .ok (.istore_n 2, 1) := by decide +kernel
theorem d_M_before_55 : decode b_M_before 55 = .ok (.iinc 3 1, 3) := by decide +kernel
theorem d_M_before_58 : decode b_M_before 58 = .ok (.goto (-54), 3) := by decide +kernel
theorem d_M_before_61 : decode b_M_before 61 = .ok (.iload_n 2, 1) := by decide +kernel
theorem d_M_before_62 : decode b_M_before 62 = .ok (.ireturn, 1) := by decide +kernel
theorem cal_M_before : am_cal y_M_before b_M_before 4 ((Option.some FieldType.int)) 1 := ⟨Or.inl wx_839, wx_6, by decide, by decide +kernel⟩
abbrev y_M_byUses : MethodName := ⟨"BillSharesModel", "byUses", "(II)V"⟩
abbrev b_M_byUses : ByteArray := prog_6_method_27_code
theorem d_M_byUses_0 : decode b_M_byUses 0 = .ok (.lconst 0, 1) := by decide +kernel
theorem d_M_byUses_1 : decode b_M_byUses 1 = .ok (.lstore_n 3, 1) := by decide +kernel
theorem d_M_byUses_2 : decode b_M_byUses 2 = .ok (.lconst 0, 1) := by decide +kernel
theorem d_M_byUses_3 : decode b_M_byUses 3 = .ok (.lstore 5, 2) := by decide +kernel
theorem d_M_byUses_5 : decode b_M_byUses 5 = .ok (.iconst 0, 1) := by decide +kernel
theorem d_M_byUses_6 : decode b_M_byUses 6 = .ok (.istore 7, 2) := by decide +kernel
theorem d_M_byUses_8 : decode b_M_byUses 8 = .ok (.iload 7, 2) := by decide +kernel
theorem d_M_byUses_10 : decode b_M_byUses 10 = .ok (.aload_n 0, 1) := by decide +kernel
theorem d_M_byUses_11 : decode b_M_byUses 11 = .ok (.getfield 96, 3) := by decide +kernel
theorem d_M_byUses_14 : decode b_M_byUses 14 = .ok (.if_icmp .ge 96, 3) := by decide +kernel
theorem d_M_byUses_17 : decode b_M_byUses 17 = .ok (.aload_n 0, 1) := by decide +kernel
theorem d_M_byUses_18 : decode b_M_byUses 18 = .ok (.iload 7, 2) := by decide +kernel
theorem d_M_byUses_20 : decode b_M_byUses 20 = .ok (.iload_n 1, 1) := by decide +kernel
theorem d_M_byUses_21 : decode b_M_byUses 21 = .ok (.iload_n 2, 1) := by decide +kernel
theorem d_M_byUses_22 : decode b_M_byUses 22 = .ok (.invokevirtual 139, 3) := by decide +kernel
theorem d_M_byUses_25 : decode b_M_byUses 25 = .ok (.ifCond .ne 7, 3) := by decide +kernel
theorem d_M_byUses_28 : decode b_M_byUses 28 = .ok (.iconst 1, 1) := by decide +kernel
theorem d_M_byUses_29 : decode b_M_byUses 29 = .ok (.goto 4, 3) := by decide +kernel
theorem d_M_byUses_32 : decode b_M_byUses 32 = .ok (.iconst 0, 1) := by decide +kernel
theorem d_M_byUses_33 : decode b_M_byUses 33 = .ok (.istore 8, 2) := by decide +kernel
theorem d_M_byUses_35 : decode b_M_byUses 35 = .ok (.aload_n 0, 1) := by decide +kernel
theorem d_M_byUses_36 : decode b_M_byUses 36 = .ok (.getfield 81, 3) := by decide +kernel
theorem d_M_byUses_39 : decode b_M_byUses 39 = .ok (.iload 7, 2) := by decide +kernel
theorem d_M_byUses_41 : decode b_M_byUses 41 = .ok (.iload 8, 2) := by decide +kernel
theorem d_M_byUses_43 : decode b_M_byUses 43 = .ok (.ifCond .eq 27, 3) := by decide +kernel
theorem d_M_byUses_46 : decode b_M_byUses 46 = .ok (.aload_n 0, 1) := by decide +kernel
theorem d_M_byUses_47 : decode b_M_byUses 47 = .ok (.iload 7, 2) := by decide +kernel
theorem d_M_byUses_49 : decode b_M_byUses 49 = .ok (.iload_n 1, 1) := by decide +kernel
theorem d_M_byUses_50 : decode b_M_byUses 50 = .ok (.sipush 365, 3) := by decide +kernel
theorem d_M_byUses_53 : decode b_M_byUses 53 = .ok (.iload_n 2, 1) := by decide +kernel
theorem d_M_byUses_54 : decode b_M_byUses 54 = .ok (.imul, 1) := by decide +kernel
theorem d_M_byUses_55 : decode b_M_byUses 55 = .ok (.sipush 365, 3) := by decide +kernel
theorem d_M_byUses_58 : decode b_M_byUses 58 = .ok (.iload_n 2, 1) := by decide +kernel
theorem d_M_byUses_59 : decode b_M_byUses 59 = .ok (.imul, 1) := by decide +kernel
theorem d_M_byUses_60 : decode b_M_byUses 60 = .ok (.sipush 365, 3) := by decide +kernel
theorem d_M_byUses_63 : decode b_M_byUses 63 = .ok (.iadd, 1) := by decide +kernel
theorem d_M_byUses_64 : decode b_M_byUses 64 = .ok (.invokevirtual 143, 3) := by decide +kernel
theorem d_M_byUses_67 : decode b_M_byUses 67 = .ok (.goto 4, 3) := by decide +kernel
theorem d_M_byUses_70 : decode b_M_byUses 70 = .ok (.lconst 0, 1) := by decide +kernel
theorem d_M_byUses_71 : decode b_M_byUses 71 = .ok (.lastore, 1) := by decide +kernel
theorem d_M_byUses_72 : decode b_M_byUses 72 = .ok (.lload_n 3, 1) := by decide +kernel
theorem d_M_byUses_73 : decode b_M_byUses 73 = .ok (.aload_n 0, 1) := by decide +kernel
theorem d_M_byUses_74 : decode b_M_byUses 74 = .ok (.getfield 81, 3) := by decide +kernel
theorem d_M_byUses_77 : decode b_M_byUses 77 = .ok (.iload 7, 2) := by decide +kernel
theorem d_M_byUses_79 : decode b_M_byUses 79 = .ok (.laload, 1) := by decide +kernel
theorem d_M_byUses_80 : decode b_M_byUses 80 = .ok (.ladd, 1) := by decide +kernel
theorem d_M_byUses_81 : decode b_M_byUses 81 = .ok (.lstore_n 3, 1) := by decide +kernel
theorem d_M_byUses_82 : decode b_M_byUses 82 = .ok (.lload 5, 2) := by decide +kernel
theorem d_M_byUses_84 : decode b_M_byUses 84 = .ok (.iload 8, 2) := by decide +kernel
theorem d_M_byUses_86 : decode b_M_byUses 86 = .ok (.ifCond .eq 14, 3) := by decide +kernel
theorem d_M_byUses_89 : decode b_M_byUses 89 = .ok (.aload_n 0, 1) := by decide +kernel
theorem d_M_byUses_90 : decode b_M_byUses 90 = .ok (.getfield 7, 3) := by decide +kernel
theorem d_M_byUses_93 : decode b_M_byUses 93 = .ok (.iload 7, 2) := by decide +kernel
theorem d_M_byUses_95 : decode b_M_byUses 95 = .ok (.iaload, 1) := by decide +kernel
theorem d_M_byUses_96 : decode b_M_byUses 96 = .ok (.i2l, 1) := by decide +kernel
theorem d_M_byUses_97 : decode b_M_byUses 97 = .ok (.goto 4, 3) := by decide +kernel
theorem d_M_byUses_100 : decode b_M_byUses 100 = .ok (.lconst 0, 1) := by decide +kernel
theorem d_M_byUses_101 : decode b_M_byUses 101 = .ok (.ladd, 1) := by decide +kernel
theorem d_M_byUses_102 : decode b_M_byUses 102 = .ok (.lstore 5, 2) := by decide +kernel
theorem d_M_byUses_104 : decode b_M_byUses 104 = .ok (.iinc 7 1, 3) := by decide +kernel
theorem d_M_byUses_107 : decode b_M_byUses 107 = .ok (.goto (-99), 3) := by decide +kernel
theorem d_M_byUses_110 : decode b_M_byUses 110 = .ok (.iconst 0, 1) := by decide +kernel
theorem d_M_byUses_111 : decode b_M_byUses 111 = .ok (.istore 7, 2) := by decide +kernel
theorem d_M_byUses_113 : decode b_M_byUses 113 = .ok (.iload 7, 2) := by decide +kernel
theorem d_M_byUses_115 : decode b_M_byUses 115 = .ok (.aload_n 0, 1) := by decide +kernel
theorem d_M_byUses_116 : decode b_M_byUses 116 = .ok (.getfield 96, 3) := by decide +kernel
theorem d_M_byUses_119 : decode b_M_byUses 119 = .ok (.if_icmp .ge 57, 3) := by decide +kernel
theorem d_M_byUses_122 : decode b_M_byUses 122 = .ok (.aload_n 0, 1) := by decide +kernel
theorem d_M_byUses_123 : decode b_M_byUses 123 = .ok (.getfield 81, 3) := by decide +kernel
theorem d_M_byUses_126 : decode b_M_byUses 126 = .ok (.iload 7, 2) := by decide +kernel
theorem d_M_byUses_128 : decode b_M_byUses 128 = .ok (.aload_n 0, 1) := by decide +kernel
theorem d_M_byUses_129 : decode b_M_byUses 129 = .ok (.iload 7, 2) := by decide +kernel
theorem d_M_byUses_131 : decode b_M_byUses 131 = .ok (.iload_n 1, 1) := by decide +kernel
theorem d_M_byUses_132 : decode b_M_byUses 132 = .ok (.iload_n 2, 1) := by decide +kernel
theorem d_M_byUses_133 : decode b_M_byUses 133 = .ok (.invokevirtual 139, 3) := by decide +kernel
theorem d_M_byUses_136 : decode b_M_byUses 136 = .ok (.ifCond .le 26, 3) := by decide +kernel
theorem d_M_byUses_139 : decode b_M_byUses 139 = .ok (.lload 5, 2) := by decide +kernel
theorem d_M_byUses_141 : decode b_M_byUses 141 = .ok (.lconst 0, 1) := by decide +kernel
theorem d_M_byUses_142 : decode b_M_byUses 142 = .ok (.lcmp, 1) := by decide +kernel
theorem d_M_byUses_143 : decode b_M_byUses 143 = .ok (.ifCond .le 19, 3) := by decide +kernel
theorem d_M_byUses_146 : decode b_M_byUses 146 = .ok (.lload_n 3, 1) := by decide +kernel
theorem d_M_byUses_147 : decode b_M_byUses 147 = .ok (.aload_n 0, 1) := by decide +kernel
theorem d_M_byUses_148 : decode b_M_byUses 148 = .ok (.getfield 7, 3) := by decide +kernel
theorem d_M_byUses_151 : decode b_M_byUses 151 = .ok (.iload 7, 2) := by decide +kernel
theorem d_M_byUses_153 : decode b_M_byUses 153 = .ok (.iaload, 1) := by decide +kernel
theorem d_M_byUses_154 : decode b_M_byUses 154 = .ok (.i2l, 1) := by decide +kernel
theorem d_M_byUses_155 : decode b_M_byUses 155 = .ok (.lmul, 1) := by decide +kernel
theorem d_M_byUses_156 : decode b_M_byUses 156 = .ok (.lload 5, 2) := by decide +kernel
theorem d_M_byUses_158 : decode b_M_byUses 158 = .ok (.ldiv, 1) := by decide +kernel
theorem d_M_byUses_159 : decode b_M_byUses 159 = .ok (.goto 10, 3) := by decide +kernel
theorem d_M_byUses_162 : decode b_M_byUses 162 = .ok (.aload_n 0, 1) := by decide +kernel
theorem d_M_byUses_163 : decode b_M_byUses 163 = .ok (.getfield 81, 3) := by decide +kernel
theorem d_M_byUses_166 : decode b_M_byUses 166 = .ok (.iload 7, 2) := by decide +kernel
theorem d_M_byUses_168 : decode b_M_byUses 168 = .ok (.laload, 1) := by decide +kernel
theorem d_M_byUses_169 : decode b_M_byUses 169 = .ok (.lastore, 1) := by decide +kernel
theorem d_M_byUses_170 : decode b_M_byUses 170 = .ok (.iinc 7 1, 3) := by decide +kernel
theorem d_M_byUses_173 : decode b_M_byUses 173 = .ok (.goto (-60), 3) := by decide +kernel
theorem d_M_byUses_176 : decode b_M_byUses 176 = .ok (.lload_n 3, 1) := by decide +kernel
theorem d_M_byUses_177 : decode b_M_byUses 177 = .ok (.lconst 0, 1) := by decide +kernel
theorem d_M_byUses_178 : decode b_M_byUses 178 = .ok (.lcmp, 1) := by decide +kernel
theorem d_M_byUses_179 : decode b_M_byUses 179 = .ok (.ifCond .ne 7, 3) := by decide +kernel
theorem d_M_byUses_182 : decode b_M_byUses 182 = .ok (.aload_n 0, 1) := by decide +kernel
theorem d_M_byUses_183 : decode b_M_byUses 183 = .ok (.invokevirtual 147, 3) := by decide +kernel
theorem d_M_byUses_186 : decode b_M_byUses 186 = .ok (.return_, 1) := by decide +kernel
theorem cal_M_byUses : am_cal y_M_byUses b_M_byUses 9 ((Option.none : Option FieldType)) 2 := ⟨Or.inl wx_843, wx_6, by decide, by decide +kernel⟩
abbrev y_M_barredOf : MethodName := ⟨"BillSharesModel", "barredOf", "(III)I"⟩
abbrev b_M_barredOf : ByteArray := prog_6_method_21_code
theorem d_M_barredOf_0 : decode b_M_barredOf 0 = .ok (.iconst 1, 1) := by decide +kernel
theorem d_M_barredOf_1 : decode b_M_barredOf 1 = .ok (.istore 4, 2) := by decide +kernel
theorem d_M_barredOf_3 : decode b_M_barredOf 3 = .ok (.iconst 0, 1) := by decide +kernel
theorem d_M_barredOf_4 : decode b_M_barredOf 4 = .ok (.istore 5, 2) := by decide +kernel
theorem d_M_barredOf_6 : decode b_M_barredOf 6 = .ok (.iload 5, 2) := by decide +kernel
theorem d_M_barredOf_8 : decode b_M_barredOf 8 = .ok (.aload_n 0, 1) := by decide +kernel
theorem d_M_barredOf_9 : decode b_M_barredOf 9 = .ok (.getfield 99, 3) := by decide +kernel
theorem d_M_barredOf_12 : decode b_M_barredOf 12 = .ok (.if_icmp .ge 52, 3) := by decide +kernel
theorem d_M_barredOf_15 : decode b_M_barredOf 15 = .ok (.aload_n 0, 1) := by decide +kernel
theorem d_M_barredOf_16 : decode b_M_barredOf 16 = .ok (.getfield 26, 3) := by decide +kernel
theorem d_M_barredOf_19 : decode b_M_barredOf 19 = .ok (.iload 5, 2) := by decide +kernel
theorem d_M_barredOf_21 : decode b_M_barredOf 21 = .ok (.iaload, 1) := by decide +kernel
theorem d_M_barredOf_22 : decode b_M_barredOf 22 = .ok (.iload_n 1, 1) := by decide +kernel
theorem d_M_barredOf_23 : decode b_M_barredOf 23 = .ok (.if_icmp .ne 35, 3) := by decide +kernel
theorem d_M_barredOf_26 : decode b_M_barredOf 26 = .ok (.aload_n 0, 1) := by decide +kernel
theorem d_M_barredOf_27 : decode b_M_barredOf 27 = .ok (.getfield 29, 3) := by decide +kernel
theorem d_M_barredOf_30 : decode b_M_barredOf 30 = .ok (.iload 5, 2) := by decide +kernel
theorem d_M_barredOf_32 : decode b_M_barredOf 32 = .ok (.iaload, 1) := by decide +kernel
theorem d_M_barredOf_33 : decode b_M_barredOf 33 = .ok (.iload_n 2, 1) := by decide +kernel
theorem d_M_barredOf_34 : decode b_M_barredOf 34 = .ok (.if_icmp .ne 24, 3) := by decide +kernel
theorem d_M_barredOf_37 : decode b_M_barredOf 37 = .ok (.aload_n 0, 1) := by decide +kernel
theorem d_M_barredOf_38 : decode b_M_barredOf 38 = .ok (.iload 5, 2) := by decide +kernel
theorem d_M_barredOf_40 : decode b_M_barredOf 40 = .ok (.iload_n 3, 1) := by decide +kernel
theorem d_M_barredOf_41 : decode b_M_barredOf 41 = .ok (.invokevirtual 121, 3) := by decide +kernel
theorem d_M_barredOf_44 : decode b_M_barredOf 44 = .ok (.ifCond .le 11, 3) := by decide +kernel
theorem d_M_barredOf_47 : decode b_M_barredOf 47 = .ok (.aload_n 0, 1) := by decide +kernel
theorem d_M_barredOf_48 : decode b_M_barredOf 48 = .ok (.iload 5, 2) := by decide +kernel
theorem d_M_barredOf_50 : decode b_M_barredOf 50 = .ok (.iload_n 3, 1) := by decide +kernel
theorem d_M_barredOf_51 : decode b_M_barredOf 51 = .ok (.invokevirtual 121, 3) := by decide +kernel
theorem d_M_barredOf_54 : decode b_M_barredOf 54 = .ok (.ireturn, 1) := by decide +kernel
theorem d_M_barredOf_55 : decode b_M_barredOf 55 = .ok (.iconst 0, 1) := by decide +kernel
theorem d_M_barredOf_56 : decode b_M_barredOf 56 = .ok (.istore 4, 2) := by decide +kernel
theorem d_M_barredOf_58 : decode b_M_barredOf 58 = .ok (.iinc 5 1, 3) := by decide +kernel
theorem d_M_barredOf_61 : decode b_M_barredOf 61 = .ok (.goto (-55), 3) := by decide +kernel
theorem d_M_barredOf_64 : decode b_M_barredOf 64 = .ok (.iload 4, 2) := by decide +kernel
theorem d_M_barredOf_66 : decode b_M_barredOf 66 = .ok (.ireturn, 1) := by decide +kernel
theorem cal_M_barredOf : am_cal y_M_barredOf b_M_barredOf 6 ((Option.some FieldType.int)) 3 := ⟨Or.inl wx_847, wx_6, by decide, by decide +kernel⟩
abbrev y_M_why : MethodName := ⟨"BillSharesModel", "why", "(II)I"⟩
abbrev b_M_why : ByteArray := prog_6_method_19_code
theorem d_M_why_0 : decode b_M_why 0 = .ok (.iconst 0, 1) := by decide +kernel
theorem d_M_why_1 : decode b_M_why 1 = .ok (.istore_n 3, 1) := by decide +kernel
theorem d_M_why_2 : decode b_M_why 2 = .ok (.iconst 0, 1) := by decide +kernel
theorem d_M_why_3 : decode b_M_why 3 = .ok (.istore 4, 2) := by decide +kernel
theorem d_M_why_5 : decode b_M_why 5 = .ok (.iconst 0, 1) := by decide +kernel
theorem d_M_why_6 : decode b_M_why 6 = .ok (.istore 5, 2) := by decide +kernel
theorem d_M_why_8 : decode b_M_why 8 = .ok (.iload 5, 2) := by decide +kernel
theorem d_M_why_10 : decode b_M_why 10 = .ok (.aload_n 0, 1) := by decide +kernel
theorem d_M_why_11 : decode b_M_why 11 = .ok (.getfield 41, 3) := by decide +kernel
theorem d_M_why_14 : decode b_M_why 14 = .ok (.iload_n 1, 1) := by decide +kernel
theorem d_M_why_15 : decode b_M_why 15 = .ok (.iaload, 1) := by decide +kernel
theorem d_M_why_16 : decode b_M_why 16 = .ok (.if_icmp .ge 75, 3) := by decide +kernel
theorem d_M_why_19 : decode b_M_why 19 = .ok (.iload_n 3, 1) := by decide +kernel
theorem d_M_why_20 : decode b_M_why 20 = .ok (.ifCond .ne 23, 3) := by decide +kernel
theorem d_M_why_23 : decode b_M_why 23 = .ok (.aload_n 0, 1) := by decide +kernel
theorem d_M_why_24 : decode b_M_why 24 = .ok (.getfield 44, 3) := by decide +kernel
theorem d_M_why_27 : decode b_M_why 27 = .ok (.bipush 40, 2) := by decide +kernel
theorem d_M_why_29 : decode b_M_why 29 = .ok (.iload_n 1, 1) := by decide +kernel
theorem d_M_why_30 : decode b_M_why 30 = .ok (.imul, 1) := by decide +kernel
theorem d_M_why_31 : decode b_M_why 31 = .ok (.iload 5, 2) := by decide +kernel
theorem d_M_why_33 : decode b_M_why 33 = .ok (.iadd, 1) := by decide +kernel
theorem d_M_why_34 : decode b_M_why 34 = .ok (.iaload, 1) := by decide +kernel
theorem d_M_why_35 : decode b_M_why 35 = .ok (.sipush 365, 3) := by decide +kernel
theorem d_M_why_38 : decode b_M_why 38 = .ok (.iload_n 2, 1) := by decide +kernel
theorem d_M_why_39 : decode b_M_why 39 = .ok (.imul, 1) := by decide +kernel
theorem d_M_why_40 : decode b_M_why 40 = .ok (.if_icmp .gt 7, 3) := by decide +kernel
theorem d_M_why_43 : decode b_M_why 43 = .ok (.iconst 1, 1) := by decide +kernel
theorem d_M_why_44 : decode b_M_why 44 = .ok (.goto 4, 3) := by decide +kernel
theorem d_M_why_47 : decode b_M_why 47 = .ok (.iconst 0, 1) := by decide +kernel
theorem d_M_why_48 : decode b_M_why 48 = .ok (.istore_n 3, 1) := by decide +kernel
theorem d_M_why_49 : decode b_M_why 49 = .ok (.iload 4, 2) := by decide +kernel
theorem d_M_why_51 : decode b_M_why 51 = .ok (.ifCond .ne 27, 3) := by decide +kernel
theorem d_M_why_54 : decode b_M_why 54 = .ok (.aload_n 0, 1) := by decide +kernel
theorem d_M_why_55 : decode b_M_why 55 = .ok (.getfield 44, 3) := by decide +kernel
theorem d_M_why_58 : decode b_M_why 58 = .ok (.bipush 40, 2) := by decide +kernel
theorem d_M_why_60 : decode b_M_why 60 = .ok (.iload_n 1, 1) := by decide +kernel
theorem d_M_why_61 : decode b_M_why 61 = .ok (.imul, 1) := by decide +kernel
theorem d_M_why_62 : decode b_M_why 62 = .ok (.iload 5, 2) := by decide +kernel
theorem d_M_why_64 : decode b_M_why 64 = .ok (.iadd, 1) := by decide +kernel
theorem d_M_why_65 : decode b_M_why 65 = .ok (.iaload, 1) := by decide +kernel
theorem d_M_why_66 : decode b_M_why 66 = .ok (.sipush 365, 3) := by decide +kernel
theorem d_M_why_69 : decode b_M_why 69 = .ok (.iload_n 2, 1) := by decide +kernel
theorem d_M_why_70 : decode b_M_why 70 = .ok (.imul, 1) := by decide +kernel
theorem d_M_why_71 : decode b_M_why 71 = .ok (.sipush 365, 3) := by decide +kernel
theorem d_M_why_74 : decode b_M_why 74 = .ok (.iadd, 1) := by decide +kernel
theorem d_M_why_75 : decode b_M_why 75 = .ok (.if_icmp .lt 7, 3) := by decide +kernel
theorem d_M_why_78 : decode b_M_why 78 = .ok (.iconst 1, 1) := by decide +kernel
theorem d_M_why_79 : decode b_M_why 79 = .ok (.goto 4, 3) := by decide +kernel
theorem d_M_why_82 : decode b_M_why 82 = .ok (.iconst 0, 1) := by decide +kernel
theorem d_M_why_83 : decode b_M_why 83 = .ok (.istore 4, 2) := by decide +kernel
theorem d_M_why_85 : decode b_M_why 85 = .ok (.iinc 5 1, 3) := by decide +kernel
theorem d_M_why_88 : decode b_M_why 88 = .ok (.goto (-80), 3) := by decide +kernel
theorem d_M_why_91 : decode b_M_why 91 = .ok (.iload_n 3, 1) := by decide +kernel
theorem d_M_why_92 : decode b_M_why 92 = .ok (.ifCond .eq 8, 3) := by decide +kernel
theorem d_M_why_95 : decode b_M_why 95 = .ok (.iload 4, 2) := by decide +kernel
theorem d_M_why_97 : decode b_M_why 97 = .ok (.ifCond .ne 7, 3) := by decide +kernel
theorem d_M_why_100 : decode b_M_why 100 = .ok (.iconst 2, 1) := by decide +kernel
theorem d_M_why_101 : decode b_M_why 101 = .ok (.goto 26, 3) := by decide +kernel
theorem d_M_why_104 : decode b_M_why 104 = .ok (.aload_n 0, 1) := by decide +kernel
theorem d_M_why_105 : decode b_M_why 105 = .ok (.getfield 38, 3) := by decide +kernel
theorem d_M_why_108 : decode b_M_why 108 = .ok (.iload_n 1, 1) := by decide +kernel
theorem d_M_why_109 : decode b_M_why 109 = .ok (.iaload, 1) := by decide +kernel
theorem d_M_why_110 : decode b_M_why 110 = .ok (.sipush 365, 3) := by decide +kernel
theorem d_M_why_113 : decode b_M_why 113 = .ok (.iload_n 2, 1) := by decide +kernel
theorem d_M_why_114 : decode b_M_why 114 = .ok (.imul, 1) := by decide +kernel
theorem d_M_why_115 : decode b_M_why 115 = .ok (.sipush 365, 3) := by decide +kernel
theorem d_M_why_118 : decode b_M_why 118 = .ok (.iadd, 1) := by decide +kernel
theorem d_M_why_119 : decode b_M_why 119 = .ok (.if_icmp .ge 7, 3) := by decide +kernel
theorem d_M_why_122 : decode b_M_why 122 = .ok (.iconst 3, 1) := by decide +kernel
theorem d_M_why_123 : decode b_M_why 123 = .ok (.goto 4, 3) := by decide +kernel
theorem d_M_why_126 : decode b_M_why 126 = .ok (.iconst 0, 1) := by decide +kernel
theorem d_M_why_127 : decode b_M_why 127 = .ok (.ireturn, 1) := by decide +kernel
theorem cal_M_why : am_cal y_M_why b_M_why 6 ((Option.some FieldType.int)) 2 := ⟨Or.inl wx_851, wx_6, by decide, by decide +kernel⟩
abbrev y_M_usedBy : MethodName := ⟨"BillSharesModel", "usedBy", "(IIII)J"⟩
abbrev b_M_usedBy : ByteArray := prog_6_method_22_code
theorem d_M_usedBy_0 : decode b_M_usedBy 0 = .ok (.lconst 0, 1) := by decide +kernel
theorem d_M_usedBy_1 : decode b_M_usedBy 1 = .ok (.lstore 5, 2) := by decide +kernel
theorem d_M_usedBy_3 : decode b_M_usedBy 3 = .ok (.iconst 0, 1) := by decide +kernel
theorem d_M_usedBy_4 : decode b_M_usedBy 4 = .ok (.istore 7, 2) := by decide +kernel
theorem d_M_usedBy_6 : decode b_M_usedBy 6 = .ok (.iload 7, 2) := by decide +kernel
theorem d_M_usedBy_8 : decode b_M_usedBy 8 = .ok (.aload_n 0, 1) := by decide +kernel
theorem d_M_usedBy_9 : decode b_M_usedBy 9 = .ok (.getfield 99, 3) := by decide +kernel
theorem d_M_usedBy_12 : decode b_M_usedBy 12 = .ok (.if_icmp .ge 49, 3) := by decide +kernel
theorem d_M_usedBy_15 : decode b_M_usedBy 15 = .ok (.lload 5, 2) := by decide +kernel
theorem d_M_usedBy_17 : decode b_M_usedBy 17 = .ok (.aload_n 0, 1) := by decide +kernel
theorem d_M_usedBy_18 : decode b_M_usedBy 18 = .ok (.getfield 26, 3) := by decide +kernel
theorem d_M_usedBy_21 : decode b_M_usedBy 21 = .ok (.iload 7, 2) := by decide +kernel
theorem d_M_usedBy_23 : decode b_M_usedBy 23 = .ok (.iaload, 1) := by decide +kernel
theorem d_M_usedBy_24 : decode b_M_usedBy 24 = .ok (.iload_n 1, 1) := by decide +kernel
theorem d_M_usedBy_25 : decode b_M_usedBy 25 = .ok (.if_icmp .ne 26, 3) := by decide +kernel
theorem d_M_usedBy_28 : decode b_M_usedBy 28 = .ok (.aload_n 0, 1) := by decide +kernel
theorem d_M_usedBy_29 : decode b_M_usedBy 29 = .ok (.getfield 29, 3) := by decide +kernel
theorem d_M_usedBy_32 : decode b_M_usedBy 32 = .ok (.iload 7, 2) := by decide +kernel
theorem d_M_usedBy_34 : decode b_M_usedBy 34 = .ok (.iaload, 1) := by decide +kernel
theorem d_M_usedBy_35 : decode b_M_usedBy 35 = .ok (.iload_n 2, 1) := by decide +kernel
theorem d_M_usedBy_36 : decode b_M_usedBy 36 = .ok (.if_icmp .ne 15, 3) := by decide +kernel
theorem d_M_usedBy_39 : decode b_M_usedBy 39 = .ok (.aload_n 0, 1) := by decide +kernel
theorem d_M_usedBy_40 : decode b_M_usedBy 40 = .ok (.iload 7, 2) := by decide +kernel
theorem d_M_usedBy_42 : decode b_M_usedBy 42 = .ok (.iload_n 3, 1) := by decide +kernel
theorem d_M_usedBy_43 : decode b_M_usedBy 43 = .ok (.iload 4, 2) := by decide +kernel
theorem d_M_usedBy_45 : decode b_M_usedBy 45 = .ok (.invokevirtual 125, 3) := by decide +kernel
theorem d_M_usedBy_48 : decode b_M_usedBy 48 = .ok (.goto 4, 3) := by decide +kernel
theorem d_M_usedBy_51 : decode b_M_usedBy 51 = .ok (.lconst 0, 1) := by decide +kernel
theorem d_M_usedBy_52 : decode b_M_usedBy 52 = .ok (.ladd, 1) := by decide +kernel
theorem d_M_usedBy_53 : decode b_M_usedBy 53 = .ok (.lstore 5, 2) := by decide +kernel
theorem d_M_usedBy_55 : decode b_M_usedBy 55 = .ok (.iinc 7 1, 3) := by decide +kernel
theorem d_M_usedBy_58 : decode b_M_usedBy 58 = .ok (.goto (-52), 3) := by decide +kernel
theorem d_M_usedBy_61 : decode b_M_usedBy 61 = .ok (.lload 5, 2) := by decide +kernel
theorem d_M_usedBy_63 : decode b_M_usedBy 63 = .ok (.lreturn, 1) := by decide +kernel
theorem cal_M_usedBy : am_cal y_M_usedBy b_M_usedBy 8 ((Option.some FieldType.long)) 4 := ⟨Or.inl wx_855, wx_6, by decide, by decide +kernel⟩
abbrev y_M_useOf : MethodName := ⟨"BillSharesModel", "useOf", "(III)J"⟩
abbrev b_M_useOf : ByteArray := prog_6_method_20_code
theorem d_M_useOf_0 : decode b_M_useOf 0 = .ok (.lconst 0, 1) := by decide +kernel
theorem d_M_useOf_1 : decode b_M_useOf 1 = .ok (.lstore 4, 2) := by decide +kernel
theorem d_M_useOf_3 : decode b_M_useOf 3 = .ok (.bipush 40, 2) := by decide +kernel
theorem d_M_useOf_5 : decode b_M_useOf 5 = .ok (.iload_n 1, 1) := by decide +kernel
theorem d_M_useOf_6 : decode b_M_useOf 6 = .ok (.imul, 1) := by decide +kernel
theorem d_M_useOf_7 : decode b_M_useOf 7 = .ok (.iconst 1, 1) := by decide +kernel
theorem d_M_useOf_8 : decode b_M_useOf 8 = .ok (.iadd, 1) := by decide +kernel
theorem d_M_useOf_9 : decode b_M_useOf 9 = .ok (.istore 6, 2) := by decide +kernel
theorem d_M_useOf_11 : decode b_M_useOf 11 = .ok (.iload 6, 2) := by decide +kernel
theorem d_M_useOf_13 : decode b_M_useOf 13 = .ok (.bipush 40, 2) := by decide +kernel
theorem d_M_useOf_15 : decode b_M_useOf 15 = .ok (.iload_n 1, 1) := by decide +kernel
theorem d_M_useOf_16 : decode b_M_useOf 16 = .ok (.imul, 1) := by decide +kernel
theorem d_M_useOf_17 : decode b_M_useOf 17 = .ok (.aload_n 0, 1) := by decide +kernel
theorem d_M_useOf_18 : decode b_M_useOf 18 = .ok (.getfield 41, 3) := by decide +kernel
theorem d_M_useOf_21 : decode b_M_useOf 21 = .ok (.iload_n 1, 1) := by decide +kernel
theorem d_M_useOf_22 : decode b_M_useOf 22 = .ok (.iaload, 1) := by decide +kernel
theorem d_M_useOf_23 : decode b_M_useOf 23 = .ok (.iadd, 1) := by decide +kernel
theorem d_M_useOf_24 : decode b_M_useOf 24 = .ok (.if_icmp .ge 137, 3) := by decide +kernel
theorem d_M_useOf_27 : decode b_M_useOf 27 = .ok (.aload_n 0, 1) := by decide +kernel
theorem d_M_useOf_28 : decode b_M_useOf 28 = .ok (.getfield 44, 3) := by decide +kernel
theorem d_M_useOf_31 : decode b_M_useOf 31 = .ok (.iload 6, 2) := by decide +kernel
theorem d_M_useOf_33 : decode b_M_useOf 33 = .ok (.iconst 1, 1) := by decide +kernel
theorem d_M_useOf_34 : decode b_M_useOf 34 = .ok (.isub, 1) := by decide +kernel
theorem d_M_useOf_35 : decode b_M_useOf 35 = .ok (.iaload, 1) := by decide +kernel
theorem d_M_useOf_36 : decode b_M_useOf 36 = .ok (.istore 7, 2) := by decide +kernel
theorem d_M_useOf_38 : decode b_M_useOf 38 = .ok (.aload_n 0, 1) := by decide +kernel
theorem d_M_useOf_39 : decode b_M_useOf 39 = .ok (.getfield 44, 3) := by decide +kernel
theorem d_M_useOf_42 : decode b_M_useOf 42 = .ok (.iload 6, 2) := by decide +kernel
theorem d_M_useOf_44 : decode b_M_useOf 44 = .ok (.iaload, 1) := by decide +kernel
theorem d_M_useOf_45 : decode b_M_useOf 45 = .ok (.istore 8, 2) := by decide +kernel
theorem d_M_useOf_47 : decode b_M_useOf 47 = .ok (.aload_n 0, 1) := by decide +kernel
theorem d_M_useOf_48 : decode b_M_useOf 48 = .ok (.getfield 47, 3) := by decide +kernel
theorem d_M_useOf_51 : decode b_M_useOf 51 = .ok (.iload 6, 2) := by decide +kernel
theorem d_M_useOf_53 : decode b_M_useOf 53 = .ok (.iaload, 1) := by decide +kernel
theorem d_M_useOf_54 : decode b_M_useOf 54 = .ok (.aload_n 0, 1) := by decide +kernel
theorem d_M_useOf_55 : decode b_M_useOf 55 = .ok (.getfield 50, 3) := by decide +kernel
theorem d_M_useOf_58 : decode b_M_useOf 58 = .ok (.iload 6, 2) := by decide +kernel
theorem d_M_useOf_60 : decode b_M_useOf 60 = .ok (.iconst 1, 1) := by decide +kernel
theorem d_M_useOf_61 : decode b_M_useOf 61 = .ok (.isub, 1) := by decide +kernel
theorem d_M_useOf_62 : decode b_M_useOf 62 = .ok (.iaload, 1) := by decide +kernel
theorem d_M_useOf_63 : decode b_M_useOf 63 = .ok (.isub, 1) := by decide +kernel
theorem d_M_useOf_64 : decode b_M_useOf 64 = .ok (.i2l, 1) := by decide +kernel
theorem d_M_useOf_65 : decode b_M_useOf 65 = .ok (.lstore 9, 2) := by decide +kernel
theorem d_M_useOf_67 : decode b_M_useOf 67 = .ok (.iload_n 2, 1) := by decide +kernel
theorem d_M_useOf_68 : decode b_M_useOf 68 = .ok (.iload 7, 2) := by decide +kernel
theorem d_M_useOf_70 : decode b_M_useOf 70 = .ok (.if_icmp .ge 8, 3) := by decide +kernel
theorem d_M_useOf_73 : decode b_M_useOf 73 = .ok (.iload 7, 2) := by decide +kernel
theorem d_M_useOf_75 : decode b_M_useOf 75 = .ok (.goto 15, 3) := by decide +kernel
theorem d_M_useOf_78 : decode b_M_useOf 78 = .ok (.iload_n 2, 1) := by decide +kernel
theorem d_M_useOf_79 : decode b_M_useOf 79 = .ok (.iload 8, 2) := by decide +kernel
theorem d_M_useOf_81 : decode b_M_useOf 81 = .ok (.if_icmp .le 8, 3) := by decide +kernel
theorem d_M_useOf_84 : decode b_M_useOf 84 = .ok (.iload 8, 2) := by decide +kernel
theorem d_M_useOf_86 : decode b_M_useOf 86 = .ok (.goto 4, 3) := by decide +kernel
theorem d_M_useOf_89 : decode b_M_useOf 89 = .ok (.iload_n 2, 1) := by decide +kernel
theorem d_M_useOf_90 : decode b_M_useOf 90 = .ok (.istore 11, 2) := by decide +kernel
theorem d_M_useOf_92 : decode b_M_useOf 92 = .ok (.iload_n 3, 1) := by decide +kernel
theorem d_M_useOf_93 : decode b_M_useOf 93 = .ok (.iload 7, 2) := by decide +kernel
theorem d_M_useOf_95 : decode b_M_useOf 95 = .ok (.if_icmp .ge 8, 3) := by decide +kernel
theorem d_M_useOf_98 : decode b_M_useOf 98 = .ok (.iload 7, 2) := by decide +kernel
theorem d_M_useOf_100 : decode b_M_useOf 100 = .ok (.goto 15, 3) := by decide +kernel
theorem d_M_useOf_103 : decode b_M_useOf 103 = .ok (.iload_n 3, 1) := by decide +kernel
theorem d_M_useOf_104 : decode b_M_useOf 104 = .ok (.iload 8, 2) := by decide +kernel
theorem d_M_useOf_106 : decode b_M_useOf 106 = .ok (.if_icmp .le 8, 3) := by decide +kernel
theorem d_M_useOf_109 : decode b_M_useOf 109 = .ok (.iload 8, 2) := by decide +kernel
theorem d_M_useOf_111 : decode b_M_useOf 111 = .ok (.goto 4, 3) := by decide +kernel
theorem d_M_useOf_114 : decode b_M_useOf 114 = .ok (.iload_n 3, 1) := by decide +kernel
theorem d_M_useOf_115 : decode b_M_useOf 115 = .ok (.istore 12, 2) := by decide +kernel
theorem d_M_useOf_117 : decode b_M_useOf 117 = .ok (.lload 4, 2) := by decide +kernel
theorem d_M_useOf_119 : decode b_M_useOf 119 = .ok (.lload 9, 2) := by decide +kernel
theorem d_M_useOf_121 : decode b_M_useOf 121 = .ok (.iload 12, 2) := by decide +kernel
theorem d_M_useOf_123 : decode b_M_useOf 123 = .ok (.iload 7, 2) := by decide +kernel
theorem d_M_useOf_125 : decode b_M_useOf 125 = .ok (.isub, 1) := by decide +kernel
theorem d_M_useOf_126 : decode b_M_useOf 126 = .ok (.i2l, 1) := by decide +kernel
theorem d_M_useOf_127 : decode b_M_useOf 127 = .ok (.lmul, 1) := by decide +kernel
theorem d_M_useOf_128 : decode b_M_useOf 128 = .ok (.iload 8, 2) := by decide +kernel
theorem d_M_useOf_130 : decode b_M_useOf 130 = .ok (.iload 7, 2) := by decide +kernel
theorem d_M_useOf_132 : decode b_M_useOf 132 = .ok (.isub, 1) := by decide +kernel
theorem d_M_useOf_133 : decode b_M_useOf 133 = .ok (.i2l, 1) := by decide +kernel
theorem d_M_useOf_134 : decode b_M_useOf 134 = .ok (.ldiv, 1) := by decide +kernel
theorem d_M_useOf_135 : decode b_M_useOf 135 = .ok (.lload 9, 2) := by decide +kernel
theorem d_M_useOf_137 : decode b_M_useOf 137 = .ok (.iload 11, 2) := by decide +kernel
theorem d_M_useOf_139 : decode b_M_useOf 139 = .ok (.iload 7, 2) := by decide +kernel
theorem d_M_useOf_141 : decode b_M_useOf 141 = .ok (.isub, 1) := by decide +kernel
theorem d_M_useOf_142 : decode b_M_useOf 142 = .ok (.i2l, 1) := by decide +kernel
theorem d_M_useOf_143 : decode b_M_useOf 143 = .ok (.lmul, 1) := by decide +kernel
theorem d_M_useOf_144 : decode b_M_useOf 144 = .ok (.iload 8, 2) := by decide +kernel
theorem d_M_useOf_146 : decode b_M_useOf 146 = .ok (.iload 7, 2) := by decide +kernel
theorem d_M_useOf_148 : decode b_M_useOf 148 = .ok (.isub, 1) := by decide +kernel
theorem d_M_useOf_149 : decode b_M_useOf 149 = .ok (.i2l, 1) := by decide +kernel
theorem d_M_useOf_150 : decode b_M_useOf 150 = .ok (.ldiv, 1) := by decide +kernel
theorem d_M_useOf_151 : decode b_M_useOf 151 = .ok (.lsub, 1) := by decide +kernel
theorem d_M_useOf_152 : decode b_M_useOf 152 = .ok (.ladd, 1) := by decide +kernel
theorem d_M_useOf_153 : decode b_M_useOf 153 = .ok (.lstore 4, 2) := by decide +kernel
theorem d_M_useOf_155 : decode b_M_useOf 155 = .ok (.iinc 6 1, 3) := by decide +kernel
theorem d_M_useOf_158 : decode b_M_useOf 158 = .ok (.goto (-147), 3) := by decide +kernel
theorem d_M_useOf_161 : decode b_M_useOf 161 = .ok (.lload 4, 2) := by decide +kernel
theorem d_M_useOf_163 : decode b_M_useOf 163 = .ok (.aload_n 0, 1) := by decide +kernel
theorem d_M_useOf_164 : decode b_M_useOf 164 = .ok (.getfield 32, 3) := by decide +kernel
theorem d_M_useOf_167 : decode b_M_useOf 167 = .ok (.iload_n 1, 1) := by decide +kernel
theorem d_M_useOf_168 : decode b_M_useOf 168 = .ok (.iaload, 1) := by decide +kernel
theorem d_M_useOf_169 : decode b_M_useOf 169 = .ok (.i2l, 1) := by decide +kernel
theorem d_M_useOf_170 : decode b_M_useOf 170 = .ok (.lmul, 1) := by decide +kernel
theorem d_M_useOf_171 : decode b_M_useOf 171 = .ok (.aload_n 0, 1) := by decide +kernel
theorem d_M_useOf_172 : decode b_M_useOf 172 = .ok (.getfield 35, 3) := by decide +kernel
theorem d_M_useOf_175 : decode b_M_useOf 175 = .ok (.iload_n 1, 1) := by decide +kernel
theorem d_M_useOf_176 : decode b_M_useOf 176 = .ok (.iaload, 1) := by decide +kernel
theorem d_M_useOf_177 : decode b_M_useOf 177 = .ok (.i2l, 1) := by decide +kernel
theorem d_M_useOf_178 : decode b_M_useOf 178 = .ok (.ldiv, 1) := by decide +kernel
theorem d_M_useOf_179 : decode b_M_useOf 179 = .ok (.lreturn, 1) := by decide +kernel
theorem cal_M_useOf : am_cal y_M_useOf b_M_useOf 13 ((Option.some FieldType.long)) 3 := ⟨Or.inl wx_859, wx_6, by decide, by decide +kernel⟩
abbrev y_M_use : MethodName := ⟨"BillSharesModel", "use", "(II)J"⟩
abbrev b_M_use : ByteArray := prog_6_method_30_code
theorem d_M_use_0 : decode b_M_use 0 = .ok (.aload_n 0, 1) := by decide +kernel
theorem d_M_use_1 : decode b_M_use 1 = .ok (.aload_n 0, 1) := by decide +kernel
theorem d_M_use_2 : decode b_M_use 2 = .ok (.iload_n 1, 1) := by decide +kernel
theorem d_M_use_3 : decode b_M_use 3 = .ok (.invokevirtual 110, 3) := by decide +kernel
theorem d_M_use_6 : decode b_M_use 6 = .ok (.ifCond .eq 17, 3) := by decide +kernel
theorem d_M_use_9 : decode b_M_use 9 = .ok (.iload_n 2, 1) := by decide +kernel
theorem d_M_use_10 : decode b_M_use 10 = .ok (.iconst 0, 1) := by decide +kernel
theorem d_M_use_11 : decode b_M_use 11 = .ok (.bipush 9, 2) := by decide +kernel
theorem d_M_use_13 : decode b_M_use 13 = .ok (.invokestatic 92, 3) := by decide +kernel
theorem d_M_use_16 : decode b_M_use 16 = .ok (.ifCond .eq 7, 3) := by decide +kernel
theorem d_M_use_19 : decode b_M_use 19 = .ok (.iconst 1, 1) := by decide +kernel
theorem d_M_use_20 : decode b_M_use 20 = .ok (.goto 4, 3) := by decide +kernel
theorem d_M_use_23 : decode b_M_use 23 = .ok (.iconst 0, 1) := by decide +kernel
theorem d_M_use_24 : decode b_M_use 24 = .ok (.iconst 1, 1) := by decide +kernel
theorem d_M_use_25 : decode b_M_use 25 = .ok (.invokevirtual 102, 3) := by decide +kernel
theorem d_M_use_28 : decode b_M_use 28 = .ok (.ifCond .ne 5, 3) := by decide +kernel
theorem d_M_use_31 : decode b_M_use 31 = .ok (.lconst 0, 1) := by decide +kernel
theorem d_M_use_32 : decode b_M_use 32 = .ok (.lreturn, 1) := by decide +kernel
theorem d_M_use_33 : decode b_M_use 33 = .ok (.aload_n 0, 1) := by decide +kernel
theorem d_M_use_34 : decode b_M_use 34 = .ok (.iload_n 1, 1) := by decide +kernel
theorem d_M_use_35 : decode b_M_use 35 = .ok (.iload_n 2, 1) := by decide +kernel
theorem d_M_use_36 : decode b_M_use 36 = .ok (.invokevirtual 121, 3) := by decide +kernel
theorem d_M_use_39 : decode b_M_use 39 = .ok (.ifCond .le 9, 3) := by decide +kernel
theorem d_M_use_42 : decode b_M_use 42 = .ok (.ldc2_w 164, 3) := by decide +kernel
theorem d_M_use_45 : decode b_M_use 45 = .ok (.goto 22, 3) := by decide +kernel
theorem d_M_use_48 : decode b_M_use 48 = .ok (.aload_n 0, 1) := by decide +kernel
theorem d_M_use_49 : decode b_M_use 49 = .ok (.iload_n 1, 1) := by decide +kernel
theorem d_M_use_50 : decode b_M_use 50 = .ok (.sipush 365, 3) := by decide +kernel
theorem d_M_use_53 : decode b_M_use 53 = .ok (.iload_n 2, 1) := by decide +kernel
theorem d_M_use_54 : decode b_M_use 54 = .ok (.imul, 1) := by decide +kernel
theorem d_M_use_55 : decode b_M_use 55 = .ok (.sipush 365, 3) := by decide +kernel
theorem d_M_use_58 : decode b_M_use 58 = .ok (.iload_n 2, 1) := by decide +kernel
theorem d_M_use_59 : decode b_M_use 59 = .ok (.imul, 1) := by decide +kernel
theorem d_M_use_60 : decode b_M_use 60 = .ok (.sipush 365, 3) := by decide +kernel
theorem d_M_use_63 : decode b_M_use 63 = .ok (.iadd, 1) := by decide +kernel
theorem d_M_use_64 : decode b_M_use 64 = .ok (.invokevirtual 125, 3) := by decide +kernel
theorem d_M_use_67 : decode b_M_use 67 = .ok (.lreturn, 1) := by decide +kernel
theorem cal_M_use : am_cal y_M_use b_M_use 3 ((Option.some FieldType.long)) 2 := ⟨Or.inl wx_863, wx_6, by decide, by decide +kernel⟩
abbrev y_M_barred : MethodName := ⟨"BillSharesModel", "barred", "(III)I"⟩
abbrev b_M_barred : ByteArray := prog_6_method_31_code
theorem d_M_barred_0 : decode b_M_barred 0 = .ok (.aload_n 0, 1) := by decide +kernel
theorem d_M_barred_1 : decode b_M_barred 1 = .ok (.aload_n 0, 1) := by decide +kernel
theorem d_M_barred_2 : decode b_M_barred 2 = .ok (.iload_n 1, 1) := by decide +kernel
theorem d_M_barred_3 : decode b_M_barred 3 = .ok (.invokevirtual 106, 3) := by decide +kernel
theorem d_M_barred_6 : decode b_M_barred 6 = .ok (.ifCond .eq 26, 3) := by decide +kernel
theorem d_M_barred_9 : decode b_M_barred 9 = .ok (.iload_n 2, 1) := by decide +kernel
theorem d_M_barred_10 : decode b_M_barred 10 = .ok (.iconst 0, 1) := by decide +kernel
theorem d_M_barred_11 : decode b_M_barred 11 = .ok (.iconst 3, 1) := by decide +kernel
theorem d_M_barred_12 : decode b_M_barred 12 = .ok (.invokestatic 92, 3) := by decide +kernel
theorem d_M_barred_15 : decode b_M_barred 15 = .ok (.ifCond .eq 17, 3) := by decide +kernel
theorem d_M_barred_18 : decode b_M_barred 18 = .ok (.iload_n 3, 1) := by decide +kernel
theorem d_M_barred_19 : decode b_M_barred 19 = .ok (.iconst 0, 1) := by decide +kernel
theorem d_M_barred_20 : decode b_M_barred 20 = .ok (.bipush 9, 2) := by decide +kernel
theorem d_M_barred_22 : decode b_M_barred 22 = .ok (.invokestatic 92, 3) := by decide +kernel
theorem d_M_barred_25 : decode b_M_barred 25 = .ok (.ifCond .eq 7, 3) := by decide +kernel
theorem d_M_barred_28 : decode b_M_barred 28 = .ok (.iconst 1, 1) := by decide +kernel
theorem d_M_barred_29 : decode b_M_barred 29 = .ok (.goto 4, 3) := by decide +kernel
theorem d_M_barred_32 : decode b_M_barred 32 = .ok (.iconst 0, 1) := by decide +kernel
theorem d_M_barred_33 : decode b_M_barred 33 = .ok (.iconst 1, 1) := by decide +kernel
theorem d_M_barred_34 : decode b_M_barred 34 = .ok (.invokevirtual 102, 3) := by decide +kernel
theorem d_M_barred_37 : decode b_M_barred 37 = .ok (.ifCond .eq 13, 3) := by decide +kernel
theorem d_M_barred_40 : decode b_M_barred 40 = .ok (.aload_n 0, 1) := by decide +kernel
theorem d_M_barred_41 : decode b_M_barred 41 = .ok (.iload_n 1, 1) := by decide +kernel
theorem d_M_barred_42 : decode b_M_barred 42 = .ok (.iload_n 2, 1) := by decide +kernel
theorem d_M_barred_43 : decode b_M_barred 43 = .ok (.iload_n 3, 1) := by decide +kernel
theorem d_M_barred_44 : decode b_M_barred 44 = .ok (.invokevirtual 139, 3) := by decide +kernel
theorem d_M_barred_47 : decode b_M_barred 47 = .ok (.goto 4, 3) := by decide +kernel
theorem d_M_barred_50 : decode b_M_barred 50 = .ok (.iconst 0, 1) := by decide +kernel
theorem d_M_barred_51 : decode b_M_barred 51 = .ok (.ireturn, 1) := by decide +kernel
theorem cal_M_barred : am_cal y_M_barred b_M_barred 4 ((Option.some FieldType.int)) 3 := ⟨Or.inl wx_868, wx_6, by decide, by decide +kernel⟩
abbrev y_M_line : MethodName := ⟨"BillSharesModel", "line", "(IIII)J"⟩
abbrev b_M_line : ByteArray := prog_6_method_33_code
theorem d_M_line_0 : decode b_M_line 0 = .ok (.aload_n 0, 1) := by decide +kernel
theorem d_M_line_1 : decode b_M_line 1 = .ok (.iload_n 2, 1) := by decide +kernel
theorem d_M_line_2 : decode b_M_line 2 = .ok (.iconst 0, 1) := by decide +kernel
theorem d_M_line_3 : decode b_M_line 3 = .ok (.iconst 3, 1) := by decide +kernel
theorem d_M_line_4 : decode b_M_line 4 = .ok (.invokestatic 92, 3) := by decide +kernel
theorem d_M_line_7 : decode b_M_line 7 = .ok (.ifCond .eq 17, 3) := by decide +kernel
theorem d_M_line_10 : decode b_M_line 10 = .ok (.iload 4, 2) := by decide +kernel
theorem d_M_line_12 : decode b_M_line 12 = .ok (.iconst 0, 1) := by decide +kernel
theorem d_M_line_13 : decode b_M_line 13 = .ok (.iconst 1, 1) := by decide +kernel
theorem d_M_line_14 : decode b_M_line 14 = .ok (.invokestatic 92, 3) := by decide +kernel
theorem d_M_line_17 : decode b_M_line 17 = .ok (.ifCond .eq 7, 3) := by decide +kernel
theorem d_M_line_20 : decode b_M_line 20 = .ok (.iconst 1, 1) := by decide +kernel
theorem d_M_line_21 : decode b_M_line 21 = .ok (.goto 4, 3) := by decide +kernel
theorem d_M_line_24 : decode b_M_line 24 = .ok (.iconst 0, 1) := by decide +kernel
theorem d_M_line_25 : decode b_M_line 25 = .ok (.iload_n 1, 1) := by decide +kernel
theorem d_M_line_26 : decode b_M_line 26 = .ok (.iload_n 3, 1) := by decide +kernel
theorem d_M_line_27 : decode b_M_line 27 = .ok (.invokevirtual 166, 3) := by decide +kernel
theorem d_M_line_30 : decode b_M_line 30 = .ok (.ifCond .ne 5, 3) := by decide +kernel
theorem d_M_line_33 : decode b_M_line 33 = .ok (.lconst 0, 1) := by decide +kernel
theorem d_M_line_34 : decode b_M_line 34 = .ok (.lreturn, 1) := by decide +kernel
theorem d_M_line_35 : decode b_M_line 35 = .ok (.bipush 80, 2) := by decide +kernel
theorem d_M_line_37 : decode b_M_line 37 = .ok (.iload_n 3, 1) := by decide +kernel
theorem d_M_line_38 : decode b_M_line 38 = .ok (.imul, 1) := by decide +kernel
theorem d_M_line_39 : decode b_M_line 39 = .ok (.iconst 4, 1) := by decide +kernel
theorem d_M_line_40 : decode b_M_line 40 = .ok (.iload_n 1, 1) := by decide +kernel
theorem d_M_line_41 : decode b_M_line 41 = .ok (.imul, 1) := by decide +kernel
theorem d_M_line_42 : decode b_M_line 42 = .ok (.iadd, 1) := by decide +kernel
theorem d_M_line_43 : decode b_M_line 43 = .ok (.iload_n 2, 1) := by decide +kernel
theorem d_M_line_44 : decode b_M_line 44 = .ok (.iadd, 1) := by decide +kernel
theorem d_M_line_45 : decode b_M_line 45 = .ok (.istore 5, 2) := by decide +kernel
theorem d_M_line_47 : decode b_M_line 47 = .ok (.aload_n 0, 1) := by decide +kernel
theorem d_M_line_48 : decode b_M_line 48 = .ok (.getfield 72, 3) := by decide +kernel
theorem d_M_line_51 : decode b_M_line 51 = .ok (.iload 5, 2) := by decide +kernel
theorem d_M_line_53 : decode b_M_line 53 = .ok (.laload, 1) := by decide +kernel
theorem d_M_line_54 : decode b_M_line 54 = .ok (.iload 4, 2) := by decide +kernel
theorem d_M_line_56 : decode b_M_line 56 = .ok (.ifCond .ne 13, 3) := by decide +kernel
theorem d_M_line_59 : decode b_M_line 59 = .ok (.aload_n 0, 1) := by decide +kernel
theorem d_M_line_60 : decode b_M_line 60 = .ok (.getfield 75, 3) := by decide +kernel
theorem d_M_line_63 : decode b_M_line 63 = .ok (.iload 5, 2) := by decide +kernel
theorem d_M_line_65 : decode b_M_line 65 = .ok (.laload, 1) := by decide +kernel
theorem d_M_line_66 : decode b_M_line 66 = .ok (.goto 4, 3) := by decide +kernel
theorem d_M_line_69 : decode b_M_line 69 = .ok (.lconst 0, 1) := by decide +kernel
theorem d_M_line_70 : decode b_M_line 70 = .ok (.ladd, 1) := by decide +kernel
theorem d_M_line_71 : decode b_M_line 71 = .ok (.lreturn, 1) := by decide +kernel
theorem cal_M_line : am_cal y_M_line b_M_line 6 ((Option.some FieldType.long)) 4 := ⟨Or.inl wx_872, wx_6, by decide, by decide +kernel⟩
abbrev y_M_has : MethodName := ⟨"BillSharesModel", "has", "(ZII)Z"⟩
abbrev b_M_has : ByteArray := prog_6_method_32_code
theorem d_M_has_0 : decode b_M_has 0 = .ok (.iload_n 1, 1) := by decide +kernel
theorem d_M_has_1 : decode b_M_has 1 = .ok (.ifCond .eq 25, 3) := by decide +kernel
theorem d_M_has_4 : decode b_M_has 4 = .ok (.aload_n 0, 1) := by decide +kernel
theorem d_M_has_5 : decode b_M_has 5 = .ok (.iload_n 2, 1) := by decide +kernel
theorem d_M_has_6 : decode b_M_has 6 = .ok (.invokevirtual 106, 3) := by decide +kernel
theorem d_M_has_9 : decode b_M_has 9 = .ok (.ifCond .eq 17, 3) := by decide +kernel
theorem d_M_has_12 : decode b_M_has 12 = .ok (.iload_n 3, 1) := by decide +kernel
theorem d_M_has_13 : decode b_M_has 13 = .ok (.iconst 0, 1) := by decide +kernel
theorem d_M_has_14 : decode b_M_has 14 = .ok (.bipush 9, 2) := by decide +kernel
theorem d_M_has_16 : decode b_M_has 16 = .ok (.invokestatic 92, 3) := by decide +kernel
theorem d_M_has_19 : decode b_M_has 19 = .ok (.ifCond .eq 7, 3) := by decide +kernel
theorem d_M_has_22 : decode b_M_has 22 = .ok (.iconst 1, 1) := by decide +kernel
theorem d_M_has_23 : decode b_M_has 23 = .ok (.goto 4, 3) := by decide +kernel
theorem d_M_has_26 : decode b_M_has 26 = .ok (.iconst 0, 1) := by decide +kernel
theorem d_M_has_27 : decode b_M_has 27 = .ok (.istore 4, 2) := by decide +kernel
theorem d_M_has_29 : decode b_M_has 29 = .ok (.aload_n 0, 1) := by decide +kernel
theorem d_M_has_30 : decode b_M_has 30 = .ok (.iload 4, 2) := by decide +kernel
theorem d_M_has_32 : decode b_M_has 32 = .ok (.ifCond .eq 26, 3) := by decide +kernel
theorem d_M_has_35 : decode b_M_has 35 = .ok (.aload_n 0, 1) := by decide +kernel
theorem d_M_has_36 : decode b_M_has 36 = .ok (.getfield 63, 3) := by decide +kernel
theorem d_M_has_39 : decode b_M_has 39 = .ok (.iload_n 3, 1) := by decide +kernel
theorem d_M_has_40 : decode b_M_has 40 = .ok (.iaload, 1) := by decide +kernel
theorem d_M_has_41 : decode b_M_has 41 = .ok (.ifCond .eq 13, 3) := by decide +kernel
theorem d_M_has_44 : decode b_M_has 44 = .ok (.iload_n 2, 1) := by decide +kernel
theorem d_M_has_45 : decode b_M_has 45 = .ok (.aload_n 0, 1) := by decide +kernel
theorem d_M_has_46 : decode b_M_has 46 = .ok (.getfield 66, 3) := by decide +kernel
theorem d_M_has_49 : decode b_M_has 49 = .ok (.iload_n 3, 1) := by decide +kernel
theorem d_M_has_50 : decode b_M_has 50 = .ok (.iaload, 1) := by decide +kernel
theorem d_M_has_51 : decode b_M_has 51 = .ok (.if_icmp .ge 7, 3) := by decide +kernel
theorem d_M_has_54 : decode b_M_has 54 = .ok (.iconst 1, 1) := by decide +kernel
theorem d_M_has_55 : decode b_M_has 55 = .ok (.goto 4, 3) := by decide +kernel
theorem d_M_has_58 : decode b_M_has 58 = .ok (.iconst 0, 1) := by decide +kernel
theorem d_M_has_59 : decode b_M_has 59 = .ok (.iload 4, 2) := by decide +kernel
theorem d_M_has_61 : decode b_M_has 61 = .ok (.ifCond .eq 16, 3) := by decide +kernel
theorem d_M_has_64 : decode b_M_has 64 = .ok (.aload_n 0, 1) := by decide +kernel
theorem d_M_has_65 : decode b_M_has 65 = .ok (.getfield 63, 3) := by decide +kernel
theorem d_M_has_68 : decode b_M_has 68 = .ok (.iload_n 3, 1) := by decide +kernel
theorem d_M_has_69 : decode b_M_has 69 = .ok (.iaload, 1) := by decide +kernel
theorem d_M_has_70 : decode b_M_has 70 = .ok (.ifCond .le 7, 3) := by decide +kernel
theorem d_M_has_73 : decode b_M_has 73 = .ok (.iconst 1, 1) := by decide +kernel
theorem d_M_has_74 : decode b_M_has 74 = .ok (.goto 4, 3) := by decide +kernel
theorem d_M_has_77 : decode b_M_has 77 = .ok (.iconst 0, 1) := by decide +kernel
theorem d_M_has_78 : decode b_M_has 78 = .ok (.invokevirtual 102, 3) := by decide +kernel
theorem d_M_has_81 : decode b_M_has 81 = .ok (.ireturn, 1) := by decide +kernel
theorem cal_M_has : am_cal y_M_has b_M_has 5 ((Option.some FieldType.boolean)) 3 := ⟨Or.inl wx_876, wx_6, by decide, by decide +kernel⟩
abbrev y_M_share : MethodName := ⟨"BillSharesModel", "share", "(II)J"⟩
abbrev b_M_share : ByteArray := prog_6_method_34_code
theorem d_M_share_0 : decode b_M_share 0 = .ok (.aload_n 0, 1) := by decide +kernel
theorem d_M_share_1 : decode b_M_share 1 = .ok (.iconst 1, 1) := by decide +kernel
theorem d_M_share_2 : decode b_M_share 2 = .ok (.iload_n 1, 1) := by decide +kernel
theorem d_M_share_3 : decode b_M_share 3 = .ok (.iload_n 2, 1) := by decide +kernel
theorem d_M_share_4 : decode b_M_share 4 = .ok (.invokevirtual 166, 3) := by decide +kernel
theorem d_M_share_7 : decode b_M_share 7 = .ok (.ifCond .eq 12, 3) := by decide +kernel
theorem d_M_share_10 : decode b_M_share 10 = .ok (.aload_n 0, 1) := by decide +kernel
theorem d_M_share_11 : decode b_M_share 11 = .ok (.iload_n 1, 1) := by decide +kernel
theorem d_M_share_12 : decode b_M_share 12 = .ok (.iload_n 2, 1) := by decide +kernel
theorem d_M_share_13 : decode b_M_share 13 = .ok (.invokevirtual 150, 3) := by decide +kernel
theorem d_M_share_16 : decode b_M_share 16 = .ok (.goto 4, 3) := by decide +kernel
theorem d_M_share_19 : decode b_M_share 19 = .ok (.lconst 0, 1) := by decide +kernel
theorem d_M_share_20 : decode b_M_share 20 = .ok (.lreturn, 1) := by decide +kernel
theorem cal_M_share : am_cal y_M_share b_M_share 3 ((Option.some FieldType.long)) 2 := ⟨Or.inl wx_880, wx_6, by decide, by decide +kernel⟩
abbrev y_M_part : MethodName := ⟨"BillSharesModel", "part", "(III)J"⟩
abbrev b_M_part : ByteArray := prog_6_method_39_code
theorem d_M_part_0 : decode b_M_part 0 = .ok (.aload_n 0, 1) := by decide +kernel
theorem d_M_part_1 : decode b_M_part 1 = .ok (.aload_n 0, 1) := by decide +kernel
theorem d_M_part_2 : decode b_M_part 2 = .ok (.iload_n 1, 1) := by decide +kernel
theorem d_M_part_3 : decode b_M_part 3 = .ok (.invokevirtual 106, 3) := by decide +kernel
theorem d_M_part_6 : decode b_M_part 6 = .ok (.ifCond .eq 33, 3) := by decide +kernel
theorem d_M_part_9 : decode b_M_part 9 = .ok (.iload_n 2, 1) := by decide +kernel
theorem d_M_part_10 : decode b_M_part 10 = .ok (.ifCond .lt 29, 3) := by decide +kernel
theorem d_M_part_13 : decode b_M_part 13 = .ok (.iload_n 2, 1) := by decide +kernel
theorem d_M_part_14 : decode b_M_part 14 = .ok (.aload_n 0, 1) := by decide +kernel
theorem d_M_part_15 : decode b_M_part 15 = .ok (.getfield 16, 3) := by decide +kernel
theorem d_M_part_18 : decode b_M_part 18 = .ok (.aload_n 0, 1) := by decide +kernel
theorem d_M_part_19 : decode b_M_part 19 = .ok (.iload_n 1, 1) := by decide +kernel
theorem d_M_part_20 : decode b_M_part 20 = .ok (.invokevirtual 106, 3) := by decide +kernel
theorem d_M_part_23 : decode b_M_part 23 = .ok (.ifCond .eq 7, 3) := by decide +kernel
theorem d_M_part_26 : decode b_M_part 26 = .ok (.iload_n 1, 1) := by decide +kernel
theorem d_M_part_27 : decode b_M_part 27 = .ok (.goto 4, 3) := by decide +kernel
theorem d_M_part_30 : decode b_M_part 30 = .ok (.iconst 0, 1) := by decide +kernel
theorem d_M_part_31 : decode b_M_part 31 = .ok (.iaload, 1) := by decide +kernel
theorem d_M_part_32 : decode b_M_part 32 = .ok (.if_icmp .ge 7, 3) := by decide +kernel
theorem d_M_part_35 : decode b_M_part 35 = .ok (.iconst 1, 1) := by decide +kernel
theorem d_M_part_36 : decode b_M_part 36 = .ok (.goto 4, 3) := by decide +kernel
theorem d_M_part_39 : decode b_M_part 39 = .ok (.iconst 0, 1) := by decide +kernel
theorem d_M_part_40 : decode b_M_part 40 = .ok (.iload_n 1, 1) := by decide +kernel
theorem d_M_part_41 : decode b_M_part 41 = .ok (.iload_n 3, 1) := by decide +kernel
theorem d_M_part_42 : decode b_M_part 42 = .ok (.invokevirtual 166, 3) := by decide +kernel
theorem d_M_part_45 : decode b_M_part 45 = .ok (.ifCond .eq 13, 3) := by decide +kernel
theorem d_M_part_48 : decode b_M_part 48 = .ok (.aload_n 0, 1) := by decide +kernel
theorem d_M_part_49 : decode b_M_part 49 = .ok (.iload_n 1, 1) := by decide +kernel
theorem d_M_part_50 : decode b_M_part 50 = .ok (.iload_n 2, 1) := by decide +kernel
theorem d_M_part_51 : decode b_M_part 51 = .ok (.iload_n 3, 1) := by decide +kernel
theorem d_M_part_52 : decode b_M_part 52 = .ok (.invokevirtual 176, 3) := by decide +kernel
theorem d_M_part_55 : decode b_M_part 55 = .ok (.ifCond .ne 5, 3) := by decide +kernel
theorem d_M_part_58 : decode b_M_part 58 = .ok (.lconst 0, 1) := by decide +kernel
theorem d_M_part_59 : decode b_M_part 59 = .ok (.lreturn, 1) := by decide +kernel
theorem d_M_part_60 : decode b_M_part 60 = .ok (.iconst 1, 1) := by decide +kernel
theorem d_M_part_61 : decode b_M_part 61 = .ok (.istore 4, 2) := by decide +kernel
theorem d_M_part_63 : decode b_M_part 63 = .ok (.iload_n 2, 1) := by decide +kernel
theorem d_M_part_64 : decode b_M_part 64 = .ok (.iconst 1, 1) := by decide +kernel
theorem d_M_part_65 : decode b_M_part 65 = .ok (.iadd, 1) := by decide +kernel
theorem d_M_part_66 : decode b_M_part 66 = .ok (.istore 5, 2) := by decide +kernel
theorem d_M_part_68 : decode b_M_part 68 = .ok (.iload 5, 2) := by decide +kernel
theorem d_M_part_70 : decode b_M_part 70 = .ok (.aload_n 0, 1) := by decide +kernel
theorem d_M_part_71 : decode b_M_part 71 = .ok (.getfield 16, 3) := by decide +kernel
theorem d_M_part_74 : decode b_M_part 74 = .ok (.iload_n 1, 1) := by decide +kernel
theorem d_M_part_75 : decode b_M_part 75 = .ok (.iaload, 1) := by decide +kernel
theorem d_M_part_76 : decode b_M_part 76 = .ok (.if_icmp .ge 32, 3) := by decide +kernel
theorem d_M_part_79 : decode b_M_part 79 = .ok (.iload 4, 2) := by decide +kernel
theorem d_M_part_81 : decode b_M_part 81 = .ok (.ifCond .eq 18, 3) := by decide +kernel
theorem d_M_part_84 : decode b_M_part 84 = .ok (.aload_n 0, 1) := by decide +kernel
theorem d_M_part_85 : decode b_M_part 85 = .ok (.iload_n 1, 1) := by decide +kernel
theorem d_M_part_86 : decode b_M_part 86 = .ok (.iload 5, 2) := by decide +kernel
theorem d_M_part_88 : decode b_M_part 88 = .ok (.iload_n 3, 1) := by decide +kernel
theorem d_M_part_89 : decode b_M_part 89 = .ok (.invokevirtual 176, 3) := by decide +kernel
theorem d_M_part_92 : decode b_M_part 92 = .ok (.ifCond .ne 7, 3) := by decide +kernel
theorem d_M_part_95 : decode b_M_part 95 = .ok (.iconst 1, 1) := by decide +kernel
theorem d_M_part_96 : decode b_M_part 96 = .ok (.goto 4, 3) := by decide +kernel
theorem d_M_part_99 : decode b_M_part 99 = .ok (.iconst 0, 1) := by decide +kernel
theorem d_M_part_100 : decode b_M_part 100 = .ok (.istore 4, 2) := by decide +kernel
theorem d_M_part_102 : decode b_M_part 102 = .ok (.iinc 5 1, 3) := by decide +kernel
theorem d_M_part_105 : decode b_M_part 105 = .ok (.goto (-37), 3) := by decide +kernel
theorem d_M_part_108 : decode b_M_part 108 = .ok (.lconst 0, 1) := by decide +kernel
theorem d_M_part_109 : decode b_M_part 109 = .ok (.lstore 5, 2) := by decide +kernel
theorem d_M_part_111 : decode b_M_part 111 = .ok (.iconst 0, 1) := by decide +kernel
theorem d_M_part_112 : decode b_M_part 112 = .ok (.istore 7, 2) := by decide +kernel
theorem d_M_part_114 : decode b_M_part 114 = .ok (.iload 7, 2) := by decide +kernel
theorem d_M_part_116 : decode b_M_part 116 = .ok (.iconst 4, 1) := by decide +kernel
theorem d_M_part_117 : decode b_M_part 117 = .ok (.if_icmp .ge 23, 3) := by decide +kernel
theorem d_M_part_120 : decode b_M_part 120 = .ok (.lload 5, 2) := by decide +kernel
theorem d_M_part_122 : decode b_M_part 122 = .ok (.aload_n 0, 1) := by decide +kernel
theorem d_M_part_123 : decode b_M_part 123 = .ok (.iload_n 1, 1) := by decide +kernel
theorem d_M_part_124 : decode b_M_part 124 = .ok (.iload 7, 2) := by decide +kernel
theorem d_M_part_126 : decode b_M_part 126 = .ok (.iload_n 2, 1) := by decide +kernel
theorem d_M_part_127 : decode b_M_part 127 = .ok (.iload_n 3, 1) := by decide +kernel
theorem d_M_part_128 : decode b_M_part 128 = .ok (.invokevirtual 181, 3) := by decide +kernel
theorem d_M_part_131 : decode b_M_part 131 = .ok (.ladd, 1) := by decide +kernel
theorem d_M_part_132 : decode b_M_part 132 = .ok (.lstore 5, 2) := by decide +kernel
theorem d_M_part_134 : decode b_M_part 134 = .ok (.iinc 7 1, 3) := by decide +kernel
theorem d_M_part_137 : decode b_M_part 137 = .ok (.goto (-23), 3) := by decide +kernel
theorem d_M_part_140 : decode b_M_part 140 = .ok (.aload_n 0, 1) := by decide +kernel
theorem d_M_part_141 : decode b_M_part 141 = .ok (.iload_n 1, 1) := by decide +kernel
theorem d_M_part_142 : decode b_M_part 142 = .ok (.iload_n 3, 1) := by decide +kernel
theorem d_M_part_143 : decode b_M_part 143 = .ok (.invokevirtual 150, 3) := by decide +kernel
theorem d_M_part_146 : decode b_M_part 146 = .ok (.lstore 7, 2) := by decide +kernel
theorem d_M_part_148 : decode b_M_part 148 = .ok (.iconst 0, 1) := by decide +kernel
theorem d_M_part_149 : decode b_M_part 149 = .ok (.istore 9, 2) := by decide +kernel
theorem d_M_part_151 : decode b_M_part 151 = .ok (.iload 9, 2) := by decide +kernel
theorem d_M_part_153 : decode b_M_part 153 = .ok (.iconst 4, 1) := by decide +kernel
theorem d_M_part_154 : decode b_M_part 154 = .ok (.if_icmp .ge 44, 3) := by decide +kernel
theorem d_M_part_157 : decode b_M_part 157 = .ok (.iconst 0, 1) := by decide +kernel
theorem d_M_part_158 : decode b_M_part 158 = .ok (.istore 10, 2) := by decide +kernel
theorem d_M_part_160 : decode b_M_part 160 = .ok (.iload 10, 2) := by decide +kernel
theorem d_M_part_162 : decode b_M_part 162 = .ok (.aload_n 0, 1) := by decide +kernel
theorem d_M_part_163 : decode b_M_part 163 = .ok (.getfield 16, 3) := by decide +kernel
theorem d_M_part_166 : decode b_M_part 166 = .ok (.iload_n 1, 1) := by decide +kernel
theorem d_M_part_167 : decode b_M_part 167 = .ok (.iaload, 1) := by decide +kernel
theorem d_M_part_168 : decode b_M_part 168 = .ok (.if_icmp .ge 24, 3) := by decide +kernel
theorem d_M_part_171 : decode b_M_part 171 = .ok (.lload 7, 2) := by decide +kernel
theorem d_M_part_173 : decode b_M_part 173 = .ok (.aload_n 0, 1) := by decide +kernel
theorem d_M_part_174 : decode b_M_part 174 = .ok (.iload_n 1, 1) := by decide +kernel
theorem d_M_part_175 : decode b_M_part 175 = .ok (.iload 9, 2) := by decide +kernel
theorem d_M_part_177 : decode b_M_part 177 = .ok (.iload 10, 2) := by decide +kernel
theorem d_M_part_179 : decode b_M_part 179 = .ok (.iload_n 3, 1) := by decide +kernel
theorem d_M_part_180 : decode b_M_part 180 = .ok (.invokevirtual 181, 3) := by decide +kernel
theorem d_M_part_183 : decode b_M_part 183 = .ok (.lsub, 1) := by decide +kernel
theorem d_M_part_184 : decode b_M_part 184 = .ok (.lstore 7, 2) := by decide +kernel
theorem d_M_part_186 : decode b_M_part 186 = .ok (.iinc 10 1, 3) := by decide +kernel
theorem d_M_part_189 : decode b_M_part 189 = .ok (.goto (-29), 3) := by decide +kernel
theorem d_M_part_192 : decode b_M_part 192 = .ok (.iinc 9 1, 3) := by decide +kernel
theorem d_M_part_195 : decode b_M_part 195 = .ok (.goto (-44), 3) := by decide +kernel
theorem d_M_part_198 : decode b_M_part 198 = .ok (.lload 5, 2) := by decide +kernel
theorem d_M_part_200 : decode b_M_part 200 = .ok (.iload 4, 2) := by decide +kernel
theorem d_M_part_202 : decode b_M_part 202 = .ok (.ifCond .eq 8, 3) := by decide +kernel
theorem d_M_part_205 : decode b_M_part 205 = .ok (.lload 7, 2) := by decide +kernel
theorem d_M_part_207 : decode b_M_part 207 = .ok (.goto 4, 3) := by decide +kernel
theorem d_M_part_210 : decode b_M_part 210 = .ok (.lconst 0, 1) := by decide +kernel
theorem d_M_part_211 : decode b_M_part 211 = .ok (.ladd, 1) := by decide +kernel
theorem d_M_part_212 : decode b_M_part 212 = .ok (.lreturn, 1) := by decide +kernel
theorem cal_M_part : am_cal y_M_part b_M_part 11 ((Option.some FieldType.long)) 3 := ⟨Or.inl wx_884, wx_6, by decide, by decide +kernel⟩
abbrev y_M_days : MethodName := ⟨"BillSharesModel", "days", "(III)I"⟩
abbrev b_M_days : ByteArray := prog_6_method_37_code
theorem d_M_days_0 : decode b_M_days 0 = .ok (.aload_n 0, 1) := by decide +kernel
theorem d_M_days_1 : decode b_M_days 1 = .ok (.iload_n 1, 1) := by decide +kernel
theorem d_M_days_2 : decode b_M_days 2 = .ok (.iload_n 2, 1) := by decide +kernel
theorem d_M_days_3 : decode b_M_days 3 = .ok (.iload_n 3, 1) := by decide +kernel
theorem d_M_days_4 : decode b_M_days 4 = .ok (.invokevirtual 170, 3) := by decide +kernel
theorem d_M_days_7 : decode b_M_days 7 = .ok (.aload_n 0, 1) := by decide +kernel
theorem d_M_days_8 : decode b_M_days 8 = .ok (.iload_n 1, 1) := by decide +kernel
theorem d_M_days_9 : decode b_M_days 9 = .ok (.iload_n 2, 1) := by decide +kernel
theorem d_M_days_10 : decode b_M_days 10 = .ok (.iload_n 3, 1) := by decide +kernel
theorem d_M_days_11 : decode b_M_days 11 = .ok (.invokevirtual 173, 3) := by decide +kernel
theorem d_M_days_14 : decode b_M_days 14 = .ok (.isub, 1) := by decide +kernel
theorem d_M_days_15 : decode b_M_days 15 = .ok (.istore 4, 2) := by decide +kernel
theorem d_M_days_17 : decode b_M_days 17 = .ok (.iload 4, 2) := by decide +kernel
theorem d_M_days_19 : decode b_M_days 19 = .ok (.ifCond .ge 7, 3) := by decide +kernel
theorem d_M_days_22 : decode b_M_days 22 = .ok (.iconst 0, 1) := by decide +kernel
theorem d_M_days_23 : decode b_M_days 23 = .ok (.goto 5, 3) := by decide +kernel
theorem d_M_days_26 : decode b_M_days 26 = .ok (.iload 4, 2) := by decide +kernel
theorem d_M_days_28 : decode b_M_days 28 = .ok (.ireturn, 1) := by decide +kernel
theorem cal_M_days : am_cal y_M_days b_M_days 5 ((Option.some FieldType.int)) 3 := ⟨Or.inl wx_888, wx_6, by decide, by decide +kernel⟩
abbrev y_M_end : MethodName := ⟨"BillSharesModel", "end", "(III)I"⟩
abbrev b_M_end : ByteArray := prog_6_method_36_code
theorem d_M_end_0 : decode b_M_end 0 = .ok (.iload_n 2, 1) := by decide +kernel
theorem d_M_end_1 : decode b_M_end 1 = .ok (.iconst 1, 1) := by decide +kernel
theorem d_M_end_2 : decode b_M_end 2 = .ok (.iadd, 1) := by decide +kernel
theorem d_M_end_3 : decode b_M_end 3 = .ok (.aload_n 0, 1) := by decide +kernel
theorem d_M_end_4 : decode b_M_end 4 = .ok (.getfield 16, 3) := by decide +kernel
theorem d_M_end_7 : decode b_M_end 7 = .ok (.iload_n 1, 1) := by decide +kernel
theorem d_M_end_8 : decode b_M_end 8 = .ok (.iaload, 1) := by decide +kernel
theorem d_M_end_9 : decode b_M_end 9 = .ok (.if_icmp .ge 19, 3) := by decide +kernel
theorem d_M_end_12 : decode b_M_end 12 = .ok (.aload_n 0, 1) := by decide +kernel
theorem d_M_end_13 : decode b_M_end 13 = .ok (.getfield 19, 3) := by decide +kernel
theorem d_M_end_16 : decode b_M_end 16 = .ok (.bipush 12, 2) := by decide +kernel
theorem d_M_end_18 : decode b_M_end 18 = .ok (.iload_n 1, 1) := by decide +kernel
theorem d_M_end_19 : decode b_M_end 19 = .ok (.imul, 1) := by decide +kernel
theorem d_M_end_20 : decode b_M_end 20 = .ok (.iload_n 2, 1) := by decide +kernel
theorem d_M_end_21 : decode b_M_end 21 = .ok (.iadd, 1) := by decide +kernel
theorem d_M_end_22 : decode b_M_end 22 = .ok (.iconst 1, 1) := by decide +kernel
theorem d_M_end_23 : decode b_M_end 23 = .ok (.iadd, 1) := by decide +kernel
theorem d_M_end_24 : decode b_M_end 24 = .ok (.iaload, 1) := by decide +kernel
theorem d_M_end_25 : decode b_M_end 25 = .ok (.goto 12, 3) := by decide +kernel
theorem d_M_end_28 : decode b_M_end 28 = .ok (.sipush 365, 3) := by decide +kernel
theorem d_M_end_31 : decode b_M_end 31 = .ok (.iload_n 3, 1) := by decide +kernel
theorem d_M_end_32 : decode b_M_end 32 = .ok (.imul, 1) := by decide +kernel
theorem d_M_end_33 : decode b_M_end 33 = .ok (.sipush 365, 3) := by decide +kernel
theorem d_M_end_36 : decode b_M_end 36 = .ok (.iadd, 1) := by decide +kernel
theorem d_M_end_37 : decode b_M_end 37 = .ok (.istore 4, 2) := by decide +kernel
theorem d_M_end_39 : decode b_M_end 39 = .ok (.iload 4, 2) := by decide +kernel
theorem d_M_end_41 : decode b_M_end 41 = .ok (.sipush 365, 3) := by decide +kernel
theorem d_M_end_44 : decode b_M_end 44 = .ok (.iload_n 3, 1) := by decide +kernel
theorem d_M_end_45 : decode b_M_end 45 = .ok (.imul, 1) := by decide +kernel
theorem d_M_end_46 : decode b_M_end 46 = .ok (.sipush 365, 3) := by decide +kernel
theorem d_M_end_49 : decode b_M_end 49 = .ok (.iadd, 1) := by decide +kernel
theorem d_M_end_50 : decode b_M_end 50 = .ok (.if_icmp .ge 8, 3) := by decide +kernel
theorem d_M_end_53 : decode b_M_end 53 = .ok (.iload 4, 2) := by decide +kernel
theorem d_M_end_55 : decode b_M_end 55 = .ok (.goto 12, 3) := by decide +kernel
theorem d_M_end_58 : decode b_M_end 58 = .ok (.sipush 365, 3) := by decide +kernel
theorem d_M_end_61 : decode b_M_end 61 = .ok (.iload_n 3, 1) := by decide +kernel
theorem d_M_end_62 : decode b_M_end 62 = .ok (.imul, 1) := by decide +kernel
theorem d_M_end_63 : decode b_M_end 63 = .ok (.sipush 365, 3) := by decide +kernel
theorem d_M_end_66 : decode b_M_end 66 = .ok (.iadd, 1) := by decide +kernel
theorem d_M_end_67 : decode b_M_end 67 = .ok (.ireturn, 1) := by decide +kernel
theorem cal_M_end : am_cal y_M_end b_M_end 5 ((Option.some FieldType.int)) 3 := ⟨Or.inl wx_892, wx_6, by decide, by decide +kernel⟩
abbrev y_M_begin : MethodName := ⟨"BillSharesModel", "begin", "(III)I"⟩
abbrev b_M_begin : ByteArray := prog_6_method_35_code
theorem d_M_begin_0 : decode b_M_begin 0 = .ok (.aload_n 0, 1) := by decide +kernel
theorem d_M_begin_1 : decode b_M_begin 1 = .ok (.getfield 19, 3) := by decide +kernel
theorem d_M_begin_4 : decode b_M_begin 4 = .ok (.bipush 12, 2) := by decide +kernel
theorem d_M_begin_6 : decode b_M_begin 6 = .ok (.iload_n 1, 1) := by decide +kernel
theorem d_M_begin_7 : decode b_M_begin 7 = .ok (.imul, 1) := by decide +kernel
theorem d_M_begin_8 : decode b_M_begin 8 = .ok (.iload_n 2, 1) := by decide +kernel
theorem d_M_begin_9 : decode b_M_begin 9 = .ok (.iadd, 1) := by decide +kernel
theorem d_M_begin_10 : decode b_M_begin 10 = .ok (.iaload, 1) := by decide +kernel
theorem d_M_begin_11 : decode b_M_begin 11 = .ok (.istore 4, 2) := by decide +kernel
theorem d_M_begin_13 : decode b_M_begin 13 = .ok (.iload 4, 2) := by decide +kernel
theorem d_M_begin_15 : decode b_M_begin 15 = .ok (.sipush 365, 3) := by decide +kernel
theorem d_M_begin_18 : decode b_M_begin 18 = .ok (.iload_n 3, 1) := by decide +kernel
theorem d_M_begin_19 : decode b_M_begin 19 = .ok (.imul, 1) := by decide +kernel
theorem d_M_begin_20 : decode b_M_begin 20 = .ok (.if_icmp .le 8, 3) := by decide +kernel
theorem d_M_begin_23 : decode b_M_begin 23 = .ok (.iload 4, 2) := by decide +kernel
theorem d_M_begin_25 : decode b_M_begin 25 = .ok (.goto 8, 3) := by decide +kernel
theorem d_M_begin_28 : decode b_M_begin 28 = .ok (.sipush 365, 3) := by decide +kernel
theorem d_M_begin_31 : decode b_M_begin 31 = .ok (.iload_n 3, 1) := by decide +kernel
theorem d_M_begin_32 : decode b_M_begin 32 = .ok (.imul, 1) := by decide +kernel
theorem d_M_begin_33 : decode b_M_begin 33 = .ok (.ireturn, 1) := by decide +kernel
theorem cal_M_begin : am_cal y_M_begin b_M_begin 5 ((Option.some FieldType.int)) 3 := ⟨Or.inl wx_896, wx_6, by decide, by decide +kernel⟩
abbrev y_M_own : MethodName := ⟨"BillSharesModel", "own", "(IIII)J"⟩
abbrev b_M_own : ByteArray := prog_6_method_38_code
theorem d_M_own_0 : decode b_M_own 0 = .ok (.aload_n 0, 1) := by decide +kernel
theorem d_M_own_1 : decode b_M_own 1 = .ok (.iload_n 1, 1) := by decide +kernel
theorem d_M_own_2 : decode b_M_own 2 = .ok (.iload_n 3, 1) := by decide +kernel
theorem d_M_own_3 : decode b_M_own 3 = .ok (.iload 4, 2) := by decide +kernel
theorem d_M_own_5 : decode b_M_own 5 = .ok (.invokevirtual 176, 3) := by decide +kernel
theorem d_M_own_8 : decode b_M_own 8 = .ok (.istore 5, 2) := by decide +kernel
theorem d_M_own_10 : decode b_M_own 10 = .ok (.bipush 80, 2) := by decide +kernel
theorem d_M_own_12 : decode b_M_own 12 = .ok (.iload 4, 2) := by decide +kernel
theorem d_M_own_14 : decode b_M_own 14 = .ok (.imul, 1) := by decide +kernel
theorem d_M_own_15 : decode b_M_own 15 = .ok (.iconst 4, 1) := by decide +kernel
theorem d_M_own_16 : decode b_M_own 16 = .ok (.iload_n 1, 1) := by decide +kernel
theorem d_M_own_17 : decode b_M_own 17 = .ok (.imul, 1) := by decide +kernel
theorem d_M_own_18 : decode b_M_own 18 = .ok (.iadd, 1) := by decide +kernel
theorem d_M_own_19 : decode b_M_own 19 = .ok (.iload_n 2, 1) := by decide +kernel
theorem d_M_own_20 : decode b_M_own 20 = .ok (.iadd, 1) := by decide +kernel
theorem d_M_own_21 : decode b_M_own 21 = .ok (.istore 6, 2) := by decide +kernel
theorem d_M_own_23 : decode b_M_own 23 = .ok (.aload_n 0, 1) := by decide +kernel
theorem d_M_own_24 : decode b_M_own 24 = .ok (.getfield 72, 3) := by decide +kernel
theorem d_M_own_27 : decode b_M_own 27 = .ok (.iload 6, 2) := by decide +kernel
theorem d_M_own_29 : decode b_M_own 29 = .ok (.laload, 1) := by decide +kernel
theorem d_M_own_30 : decode b_M_own 30 = .ok (.iload 5, 2) := by decide +kernel
theorem d_M_own_32 : decode b_M_own 32 = .ok (.i2l, 1) := by decide +kernel
theorem d_M_own_33 : decode b_M_own 33 = .ok (.ldc2_w 179, 3) := by decide +kernel
theorem d_M_own_36 : decode b_M_own 36 = .ok (.invokestatic 131, 3) := by decide +kernel
theorem d_M_own_39 : decode b_M_own 39 = .ok (.lstore 7, 2) := by decide +kernel
theorem d_M_own_41 : decode b_M_own 41 = .ok (.aload_n 0, 1) := by decide +kernel
theorem d_M_own_42 : decode b_M_own 42 = .ok (.iload_n 1, 1) := by decide +kernel
theorem d_M_own_43 : decode b_M_own 43 = .ok (.iload_n 2, 1) := by decide +kernel
theorem d_M_own_44 : decode b_M_own 44 = .ok (.iload 4, 2) := by decide +kernel
theorem d_M_own_46 : decode b_M_own 46 = .ok (.invokevirtual 139, 3) := by decide +kernel
theorem d_M_own_49 : decode b_M_own 49 = .ok (.ifCond .le 7, 3) := by decide +kernel
theorem d_M_own_52 : decode b_M_own 52 = .ok (.lconst 0, 1) := by decide +kernel
theorem d_M_own_53 : decode b_M_own 53 = .ok (.goto 25, 3) := by decide +kernel
theorem d_M_own_56 : decode b_M_own 56 = .ok (.aload_n 0, 1) := by decide +kernel
theorem d_M_own_57 : decode b_M_own 57 = .ok (.iload_n 1, 1) := by decide +kernel
theorem d_M_own_58 : decode b_M_own 58 = .ok (.iload_n 2, 1) := by decide +kernel
theorem d_M_own_59 : decode b_M_own 59 = .ok (.sipush 365, 3) := by decide +kernel
theorem d_M_own_62 : decode b_M_own 62 = .ok (.iload 4, 2) := by decide +kernel
theorem d_M_own_64 : decode b_M_own 64 = .ok (.imul, 1) := by decide +kernel
theorem d_M_own_65 : decode b_M_own 65 = .ok (.sipush 365, 3) := by decide +kernel
theorem d_M_own_68 : decode b_M_own 68 = .ok (.iload 4, 2) := by decide +kernel
theorem d_M_own_70 : decode b_M_own 70 = .ok (.imul, 1) := by decide +kernel
theorem d_M_own_71 : decode b_M_own 71 = .ok (.sipush 365, 3) := by decide +kernel
theorem d_M_own_74 : decode b_M_own 74 = .ok (.iadd, 1) := by decide +kernel
theorem d_M_own_75 : decode b_M_own 75 = .ok (.invokevirtual 143, 3) := by decide +kernel
theorem d_M_own_78 : decode b_M_own 78 = .ok (.lstore 9, 2) := by decide +kernel
theorem d_M_own_80 : decode b_M_own 80 = .ok (.lload 9, 2) := by decide +kernel
theorem d_M_own_82 : decode b_M_own 82 = .ok (.lconst 0, 1) := by decide +kernel
theorem d_M_own_83 : decode b_M_own 83 = .ok (.lcmp, 1) := by decide +kernel
theorem d_M_own_84 : decode b_M_own 84 = .ok (.ifCond .ne 23, 3) := by decide +kernel
theorem d_M_own_87 : decode b_M_own 87 = .ok (.lload 7, 2) := by decide +kernel
theorem d_M_own_89 : decode b_M_own 89 = .ok (.aload_n 0, 1) := by decide +kernel
theorem d_M_own_90 : decode b_M_own 90 = .ok (.getfield 75, 3) := by decide +kernel
theorem d_M_own_93 : decode b_M_own 93 = .ok (.iload 6, 2) := by decide +kernel
theorem d_M_own_95 : decode b_M_own 95 = .ok (.laload, 1) := by decide +kernel
theorem d_M_own_96 : decode b_M_own 96 = .ok (.iload 5, 2) := by decide +kernel
theorem d_M_own_98 : decode b_M_own 98 = .ok (.i2l, 1) := by decide +kernel
theorem d_M_own_99 : decode b_M_own 99 = .ok (.ldc2_w 179, 3) := by decide +kernel
theorem d_M_own_102 : decode b_M_own 102 = .ok (.invokestatic 131, 3) := by decide +kernel
theorem d_M_own_105 : decode b_M_own 105 = .ok (.ladd, 1) := by decide +kernel
theorem d_M_own_106 : decode b_M_own 106 = .ok (.lreturn, 1) := by decide +kernel
theorem d_M_own_107 : decode b_M_own 107 = .ok (.iload 5, 2) := by decide +kernel
theorem d_M_own_109 : decode b_M_own 109 = .ok (.ifCond .ne 8, 3) := by decide +kernel
theorem d_M_own_112 : decode b_M_own 112 = .ok (.lload 7, 2) := by decide +kernel
theorem d_M_own_114 : decode b_M_own 114 = .ok (.goto 40, 3) := by decide +kernel
theorem d_M_own_117 : decode b_M_own 117 = .ok (.lload 7, 2) := by decide +kernel
theorem d_M_own_119 : decode b_M_own 119 = .ok (.aload_n 0, 1) := by decide +kernel
theorem d_M_own_120 : decode b_M_own 120 = .ok (.getfield 75, 3) := by decide +kernel
theorem d_M_own_123 : decode b_M_own 123 = .ok (.iload 6, 2) := by decide +kernel
theorem d_M_own_125 : decode b_M_own 125 = .ok (.laload, 1) := by decide +kernel
theorem d_M_own_126 : decode b_M_own 126 = .ok (.aload_n 0, 1) := by decide +kernel
theorem d_M_own_127 : decode b_M_own 127 = .ok (.iload_n 1, 1) := by decide +kernel
theorem d_M_own_128 : decode b_M_own 128 = .ok (.iload_n 2, 1) := by decide +kernel
theorem d_M_own_129 : decode b_M_own 129 = .ok (.aload_n 0, 1) := by decide +kernel
theorem d_M_own_130 : decode b_M_own 130 = .ok (.iload_n 1, 1) := by decide +kernel
theorem d_M_own_131 : decode b_M_own 131 = .ok (.iload_n 3, 1) := by decide +kernel
theorem d_M_own_132 : decode b_M_own 132 = .ok (.iload 4, 2) := by decide +kernel
theorem d_M_own_134 : decode b_M_own 134 = .ok (.invokevirtual 173, 3) := by decide +kernel
theorem d_M_own_137 : decode b_M_own 137 = .ok (.aload_n 0, 1) := by decide +kernel
theorem d_M_own_138 : decode b_M_own 138 = .ok (.iload_n 1, 1) := by decide +kernel
theorem d_M_own_139 : decode b_M_own 139 = .ok (.iload_n 3, 1) := by decide +kernel
theorem d_M_own_140 : decode b_M_own 140 = .ok (.iload 4, 2) := by decide +kernel
theorem d_M_own_142 : decode b_M_own 142 = .ok (.invokevirtual 170, 3) := by decide +kernel
theorem d_M_own_145 : decode b_M_own 145 = .ok (.invokevirtual 143, 3) := by decide +kernel
theorem d_M_own_148 : decode b_M_own 148 = .ok (.lload 9, 2) := by decide +kernel
theorem d_M_own_150 : decode b_M_own 150 = .ok (.invokestatic 131, 3) := by decide +kernel
theorem d_M_own_153 : decode b_M_own 153 = .ok (.ladd, 1) := by decide +kernel
theorem d_M_own_154 : decode b_M_own 154 = .ok (.lreturn, 1) := by decide +kernel
theorem cal_M_own : am_cal y_M_own b_M_own 11 ((Option.some FieldType.long)) 4 := ⟨Or.inl wx_900, wx_6, by decide, by decide +kernel⟩
abbrev y_M_balance : MethodName := ⟨"BillSharesModel", "balance", "(II)J"⟩
abbrev b_M_balance : ByteArray := prog_6_method_40_code
theorem d_M_balance_0 : decode b_M_balance 0 = .ok (.aload_n 0, 1) := by decide +kernel
theorem d_M_balance_1 : decode b_M_balance 1 = .ok (.iconst 1, 1) := by decide +kernel
theorem d_M_balance_2 : decode b_M_balance 2 = .ok (.iload_n 1, 1) := by decide +kernel
theorem d_M_balance_3 : decode b_M_balance 3 = .ok (.iload_n 2, 1) := by decide +kernel
theorem d_M_balance_4 : decode b_M_balance 4 = .ok (.invokevirtual 166, 3) := by decide +kernel
theorem d_M_balance_7 : decode b_M_balance 7 = .ok (.ifCond .eq 24, 3) := by decide +kernel
theorem d_M_balance_10 : decode b_M_balance 10 = .ok (.aload_n 0, 1) := by decide +kernel
theorem d_M_balance_11 : decode b_M_balance 11 = .ok (.iload_n 1, 1) := by decide +kernel
theorem d_M_balance_12 : decode b_M_balance 12 = .ok (.iload_n 2, 1) := by decide +kernel
theorem d_M_balance_13 : decode b_M_balance 13 = .ok (.invokevirtual 150, 3) := by decide +kernel
theorem d_M_balance_16 : decode b_M_balance 16 = .ok (.aload_n 0, 1) := by decide +kernel
theorem d_M_balance_17 : decode b_M_balance 17 = .ok (.getfield 22, 3) := by decide +kernel
theorem d_M_balance_20 : decode b_M_balance 20 = .ok (.bipush 10, 2) := by decide +kernel
theorem d_M_balance_22 : decode b_M_balance 22 = .ok (.iload_n 1, 1) := by decide +kernel
theorem d_M_balance_23 : decode b_M_balance 23 = .ok (.imul, 1) := by decide +kernel
theorem d_M_balance_24 : decode b_M_balance 24 = .ok (.iload_n 2, 1) := by decide +kernel
theorem d_M_balance_25 : decode b_M_balance 25 = .ok (.iadd, 1) := by decide +kernel
theorem d_M_balance_26 : decode b_M_balance 26 = .ok (.laload, 1) := by decide +kernel
theorem d_M_balance_27 : decode b_M_balance 27 = .ok (.lsub, 1) := by decide +kernel
theorem d_M_balance_28 : decode b_M_balance 28 = .ok (.goto 4, 3) := by decide +kernel
theorem d_M_balance_31 : decode b_M_balance 31 = .ok (.lconst 0, 1) := by decide +kernel
theorem d_M_balance_32 : decode b_M_balance 32 = .ok (.lreturn, 1) := by decide +kernel
theorem cal_M_balance : am_cal y_M_balance b_M_balance 3 ((Option.some FieldType.long)) 2 := ⟨Or.inl wx_905, wx_6, by decide, by decide +kernel⟩
abbrev y_M_difference : MethodName := ⟨"BillSharesModel", "difference", "(II)J"⟩
abbrev b_M_difference : ByteArray := prog_6_method_41_code
theorem d_M_difference_0 : decode b_M_difference 0 = .ok (.aload_n 0, 1) := by decide +kernel
theorem d_M_difference_1 : decode b_M_difference 1 = .ok (.iconst 1, 1) := by decide +kernel
theorem d_M_difference_2 : decode b_M_difference 2 = .ok (.iload_n 1, 1) := by decide +kernel
theorem d_M_difference_3 : decode b_M_difference 3 = .ok (.iload_n 2, 1) := by decide +kernel
theorem d_M_difference_4 : decode b_M_difference 4 = .ok (.invokevirtual 166, 3) := by decide +kernel
theorem d_M_difference_7 : decode b_M_difference 7 = .ok (.ifCond .eq 13, 3) := by decide +kernel
theorem d_M_difference_10 : decode b_M_difference 10 = .ok (.aload_n 0, 1) := by decide +kernel
theorem d_M_difference_11 : decode b_M_difference 11 = .ok (.getfield 63, 3) := by decide +kernel
theorem d_M_difference_14 : decode b_M_difference 14 = .ok (.iload_n 2, 1) := by decide +kernel
theorem d_M_difference_15 : decode b_M_difference 15 = .ok (.iaload, 1) := by decide +kernel
theorem d_M_difference_16 : decode b_M_difference 16 = .ok (.iconst 1, 1) := by decide +kernel
theorem d_M_difference_17 : decode b_M_difference 17 = .ok (.if_icmp .ne 5, 3) := by decide +kernel
theorem d_M_difference_20 : decode b_M_difference 20 = .ok (.lconst 0, 1) := by decide +kernel
theorem d_M_difference_21 : decode b_M_difference 21 = .ok (.lreturn, 1) := by decide +kernel
theorem d_M_difference_22 : decode b_M_difference 22 = .ok (.aload_n 0, 1) := by decide +kernel
theorem d_M_difference_23 : decode b_M_difference 23 = .ok (.iload_n 1, 1) := by decide +kernel
theorem d_M_difference_24 : decode b_M_difference 24 = .ok (.iload_n 2, 1) := by decide +kernel
theorem d_M_difference_25 : decode b_M_difference 25 = .ok (.invokevirtual 150, 3) := by decide +kernel
theorem d_M_difference_28 : decode b_M_difference 28 = .ok (.iload_n 1, 1) := by decide +kernel
theorem d_M_difference_29 : decode b_M_difference 29 = .ok (.aload_n 0, 1) := by decide +kernel
theorem d_M_difference_30 : decode b_M_difference 30 = .ok (.getfield 69, 3) := by decide +kernel
theorem d_M_difference_33 : decode b_M_difference 33 = .ok (.iload_n 2, 1) := by decide +kernel
theorem d_M_difference_34 : decode b_M_difference 34 = .ok (.iaload, 1) := by decide +kernel
theorem d_M_difference_35 : decode b_M_difference 35 = .ok (.if_icmp .ge 17, 3) := by decide +kernel
theorem d_M_difference_38 : decode b_M_difference 38 = .ok (.aload_n 0, 1) := by decide +kernel
theorem d_M_difference_39 : decode b_M_difference 39 = .ok (.getfield 78, 3) := by decide +kernel
theorem d_M_difference_42 : decode b_M_difference 42 = .ok (.bipush 20, 2) := by decide +kernel
theorem d_M_difference_44 : decode b_M_difference 44 = .ok (.iload_n 2, 1) := by decide +kernel
theorem d_M_difference_45 : decode b_M_difference 45 = .ok (.imul, 1) := by decide +kernel
theorem d_M_difference_46 : decode b_M_difference 46 = .ok (.iload_n 1, 1) := by decide +kernel
theorem d_M_difference_47 : decode b_M_difference 47 = .ok (.iadd, 1) := by decide +kernel
theorem d_M_difference_48 : decode b_M_difference 48 = .ok (.laload, 1) := by decide +kernel
theorem d_M_difference_49 : decode b_M_difference 49 = .ok (.goto 4, 3) := by decide +kernel
theorem d_M_difference_52 : decode b_M_difference 52 = .ok (.lconst 0, 1) := by decide +kernel
theorem d_M_difference_53 : decode b_M_difference 53 = .ok (.lsub, 1) := by decide +kernel
theorem d_M_difference_54 : decode b_M_difference 54 = .ok (.lreturn, 1) := by decide +kernel
theorem cal_M_difference : am_cal y_M_difference b_M_difference 3 ((Option.some FieldType.long)) 2 := ⟨Or.inl wx_909, wx_6, by decide, by decide +kernel⟩
abbrev y_M_edition : MethodName := ⟨"BillSharesModel", "edition", "(I)I"⟩
abbrev b_M_edition : ByteArray := prog_6_method_42_code
theorem d_M_edition_0 : decode b_M_edition 0 = .ok (.aload_n 0, 1) := by decide +kernel
theorem d_M_edition_1 : decode b_M_edition 1 = .ok (.iload_n 1, 1) := by decide +kernel
theorem d_M_edition_2 : decode b_M_edition 2 = .ok (.iconst 0, 1) := by decide +kernel
theorem d_M_edition_3 : decode b_M_edition 3 = .ok (.bipush 9, 2) := by decide +kernel
theorem d_M_edition_5 : decode b_M_edition 5 = .ok (.invokestatic 92, 3) := by decide +kernel
theorem d_M_edition_8 : decode b_M_edition 8 = .ok (.iconst 1, 1) := by decide +kernel
theorem d_M_edition_9 : decode b_M_edition 9 = .ok (.invokevirtual 102, 3) := by decide +kernel
theorem d_M_edition_12 : decode b_M_edition 12 = .ok (.ifCond .eq 12, 3) := by decide +kernel
theorem d_M_edition_15 : decode b_M_edition 15 = .ok (.aload_n 0, 1) := by decide +kernel
theorem d_M_edition_16 : decode b_M_edition 16 = .ok (.getfield 63, 3) := by decide +kernel
theorem d_M_edition_19 : decode b_M_edition 19 = .ok (.iload_n 1, 1) := by decide +kernel
theorem d_M_edition_20 : decode b_M_edition 20 = .ok (.iaload, 1) := by decide +kernel
theorem d_M_edition_21 : decode b_M_edition 21 = .ok (.goto 4, 3) := by decide +kernel
theorem d_M_edition_24 : decode b_M_edition 24 = .ok (.iconst 0, 1) := by decide +kernel
theorem d_M_edition_25 : decode b_M_edition 25 = .ok (.ireturn, 1) := by decide +kernel
theorem cal_M_edition : am_cal y_M_edition b_M_edition 2 ((Option.some FieldType.int)) 1 := ⟨Or.inl wx_913, wx_6, by decide, by decide +kernel⟩
end
section
/-! code rows (written by wip/whole/mkcode.py) -/
abbrev y_S_init : MethodName := ⟨"BillShares", "<init>", "()V"⟩
abbrev b_S_init : ByteArray := prog_1_method_1_code
theorem d_S_init_0 : decode b_S_init 0 = .ok (.aload_n 0, 1) := by decide +kernel
theorem d_S_init_1 : decode b_S_init 1 = .ok (.invokespecial 3, 3) := by decide +kernel
theorem d_S_init_4 : decode b_S_init 4 = .ok (.aload_n 0, 1) := by decide +kernel
theorem d_S_init_5 : decode b_S_init 5 = .ok (.new 9, 3) := by decide +kernel
theorem d_S_init_8 : decode b_S_init 8 = .ok (.dup, 1) := by decide +kernel
theorem d_S_init_9 : decode b_S_init 9 = .ok (.invokespecial 11, 3) := by decide +kernel
theorem d_S_init_12 : decode b_S_init 12 = .ok (.putfield 12, 3) := by decide +kernel
theorem d_S_init_15 : decode b_S_init 15 = .ok (.aload_n 0, 1) := by decide +kernel
theorem d_S_init_16 : decode b_S_init 16 = .ok (.new 9, 3) := by decide +kernel
theorem d_S_init_19 : decode b_S_init 19 = .ok (.dup, 1) := by decide +kernel
theorem d_S_init_20 : decode b_S_init 20 = .ok (.invokespecial 11, 3) := by decide +kernel
theorem d_S_init_23 : decode b_S_init 23 = .ok (.putfield 16, 3) := by decide +kernel
theorem d_S_init_26 : decode b_S_init 26 = .ok (.aload_n 0, 1) := by decide +kernel
theorem d_S_init_27 : decode b_S_init 27 = .ok (.new 9, 3) := by decide +kernel
theorem d_S_init_30 : decode b_S_init 30 = .ok (.dup, 1) := by decide +kernel
theorem d_S_init_31 : decode b_S_init 31 = .ok (.invokespecial 11, 3) := by decide +kernel
theorem d_S_init_34 : decode b_S_init 34 = .ok (.putfield 19, 3) := by decide +kernel
theorem d_S_init_37 : decode b_S_init 37 = .ok (.aload_n 0, 1) := by decide +kernel
theorem d_S_init_38 : decode b_S_init 38 = .ok (.bipush 40, 2) := by decide +kernel
theorem d_S_init_40 : decode b_S_init 40 = .ok (.newarray .int, 2) := by decide +kernel
theorem d_S_init_42 : decode b_S_init 42 = .ok (.putfield 22, 3) := by decide +kernel
theorem d_S_init_45 : decode b_S_init 45 = .ok (.aload_n 0, 1) := by decide +kernel
theorem d_S_init_46 : decode b_S_init 46 = .ok (.iconst 4, 1) := by decide +kernel
theorem d_S_init_47 : decode b_S_init 47 = .ok (.newarray .int, 2) := by decide +kernel
theorem d_S_init_49 : decode b_S_init 49 = .ok (.putfield 26, 3) := by decide +kernel
theorem d_S_init_52 : decode b_S_init 52 = .ok (.aload_n 0, 1) := by decide +kernel
theorem d_S_init_53 : decode b_S_init 53 = .ok (.bipush 10, 2) := by decide +kernel
theorem d_S_init_55 : decode b_S_init 55 = .ok (.newarray .int, 2) := by decide +kernel
theorem d_S_init_57 : decode b_S_init 57 = .ok (.putfield 29, 3) := by decide +kernel
theorem d_S_init_60 : decode b_S_init 60 = .ok (.aload_n 0, 1) := by decide +kernel
theorem d_S_init_61 : decode b_S_init 61 = .ok (.getfield 26, 3) := by decide +kernel
theorem d_S_init_64 : decode b_S_init 64 = .ok (.bipush 30, 2) := by decide +kernel
theorem d_S_init_66 : decode b_S_init 66 = .ok (.invokestatic 32, 3) := by decide +kernel
theorem d_S_init_69 : decode b_S_init 69 = .ok (.return_, 1) := by decide +kernel
theorem cal_S_init : am_cal y_S_init b_S_init 1 ((Option.none : Option FieldType)) 0 := ⟨Or.inl wx_24, wx_1, by decide, by decide +kernel⟩
abbrev y_S_flat : MethodName := ⟨"BillShares", "flat", "(II)I"⟩
abbrev b_S_flat : ByteArray := prog_1_method_2_code
theorem d_S_flat_0 : decode b_S_flat 0 = .ok (.iload_n 1, 1) := by decide +kernel
theorem d_S_flat_1 : decode b_S_flat 1 = .ok (.iconst 1, 1) := by decide +kernel
theorem d_S_flat_2 : decode b_S_flat 2 = .ok (.sipush 1000, 3) := by decide +kernel
theorem d_S_flat_5 : decode b_S_flat 5 = .ok (.invokestatic 38, 3) := by decide +kernel
theorem d_S_flat_8 : decode b_S_flat 8 = .ok (.iload_n 2, 1) := by decide +kernel
theorem d_S_flat_9 : decode b_S_flat 9 = .ok (.iconst 0, 1) := by decide +kernel
theorem d_S_flat_10 : decode b_S_flat 10 = .ok (.bipush 99, 2) := by decide +kernel
theorem d_S_flat_12 : decode b_S_flat 12 = .ok (.invokestatic 38, 3) := by decide +kernel
theorem d_S_flat_15 : decode b_S_flat 15 = .ok (.aload_n 0, 1) := by decide +kernel
theorem d_S_flat_16 : decode b_S_flat 16 = .ok (.getfield 12, 3) := by decide +kernel
theorem d_S_flat_19 : decode b_S_flat 19 = .ok (.invokevirtual 42, 3) := by decide +kernel
theorem d_S_flat_22 : decode b_S_flat 22 = .ok (.bipush 20, 2) := by decide +kernel
theorem d_S_flat_24 : decode b_S_flat 24 = .ok (.if_icmp .lt 13, 3) := by decide +kernel
theorem d_S_flat_27 : decode b_S_flat 27 = .ok (.new 46, 3) := by decide +kernel
theorem d_S_flat_30 : decode b_S_flat 30 = .ok (.dup, 1) := by decide +kernel
theorem d_S_flat_31 : decode b_S_flat 31 = .ok (.ldc 48, 2) := by decide +kernel
theorem d_S_flat_33 : decode b_S_flat 33 = .ok (.invokespecial 50, 3) := by decide +kernel
theorem d_S_flat_36 : decode b_S_flat 36 = .ok (.athrow, 1) := by decide +kernel
theorem d_S_flat_37 : decode b_S_flat 37 = .ok (.new 53, 3) := by decide +kernel
theorem d_S_flat_40 : decode b_S_flat 40 = .ok (.dup, 1) := by decide +kernel
theorem d_S_flat_41 : decode b_S_flat 41 = .ok (.iload_n 1, 1) := by decide +kernel
theorem d_S_flat_42 : decode b_S_flat 42 = .ok (.iload_n 2, 1) := by decide +kernel
theorem d_S_flat_43 : decode b_S_flat 43 = .ok (.invokespecial 55, 3) := by decide +kernel
theorem d_S_flat_46 : decode b_S_flat 46 = .ok (.astore_n 3, 1) := by decide +kernel
theorem d_S_flat_47 : decode b_S_flat 47 = .ok (.aload_n 0, 1) := by decide +kernel
theorem d_S_flat_48 : decode b_S_flat 48 = .ok (.getfield 12, 3) := by decide +kernel
theorem d_S_flat_51 : decode b_S_flat 51 = .ok (.aload_n 3, 1) := by decide +kernel
theorem d_S_flat_52 : decode b_S_flat 52 = .ok (.invokevirtual 58, 3) := by decide +kernel
theorem d_S_flat_55 : decode b_S_flat 55 = .ok (.pop, 1) := by decide +kernel
theorem d_S_flat_56 : decode b_S_flat 56 = .ok (.aload_n 0, 1) := by decide +kernel
theorem d_S_flat_57 : decode b_S_flat 57 = .ok (.getfield 16, 3) := by decide +kernel
theorem d_S_flat_60 : decode b_S_flat 60 = .ok (.aload_n 0, 1) := by decide +kernel
theorem d_S_flat_61 : decode b_S_flat 61 = .ok (.iload_n 2, 1) := by decide +kernel
theorem d_S_flat_62 : decode b_S_flat 62 = .ok (.invokevirtual 62, 3) := by decide +kernel
theorem d_S_flat_65 : decode b_S_flat 65 = .ok (.aload_n 3, 1) := by decide +kernel
theorem d_S_flat_66 : decode b_S_flat 66 = .ok (.invokevirtual 66, 3) := by decide +kernel
theorem d_S_flat_69 : decode b_S_flat 69 = .ok (.aload_n 0, 1) := by decide +kernel
theorem d_S_flat_70 : decode b_S_flat 70 = .ok (.getfield 12, 3) := by decide +kernel
theorem d_S_flat_73 : decode b_S_flat 73 = .ok (.invokevirtual 42, 3) := by decide +kernel
theorem d_S_flat_76 : decode b_S_flat 76 = .ok (.iconst 1, 1) := by decide +kernel
theorem d_S_flat_77 : decode b_S_flat 77 = .ok (.isub, 1) := by decide +kernel
theorem d_S_flat_78 : decode b_S_flat 78 = .ok (.ireturn, 1) := by decide +kernel
theorem cal_S_flat : am_cal y_S_flat b_S_flat 4 ((Option.some FieldType.int)) 2 := ⟨Or.inl wx_85, wx_1, by decide, by decide +kernel⟩
abbrev y_S_checkBounds : MethodName := ⟨"BillShares", "checkBounds", "(III)V"⟩
abbrev b_S_checkBounds : ByteArray := prog_1_method_21_code
theorem d_S_checkBounds_0 : decode b_S_checkBounds 0 = .ok (.iload_n 0, 1) := by decide +kernel
theorem d_S_checkBounds_1 : decode b_S_checkBounds 1 = .ok (.iload_n 1, 1) := by decide +kernel
theorem d_S_checkBounds_2 : decode b_S_checkBounds 2 = .ok (.if_icmp .lt 8, 3) := by decide +kernel
theorem d_S_checkBounds_5 : decode b_S_checkBounds 5 = .ok (.iload_n 0, 1) := by decide +kernel
theorem d_S_checkBounds_6 : decode b_S_checkBounds 6 = .ok (.iload_n 2, 1) := by decide +kernel
theorem d_S_checkBounds_7 : decode b_S_checkBounds 7 = .ok (.if_icmp .le 13, 3) := by decide +kernel
theorem d_S_checkBounds_10 : decode b_S_checkBounds 10 = .ok (.new 104, 3) := by decide +kernel
theorem d_S_checkBounds_13 : decode b_S_checkBounds 13 = .ok (.dup, 1) := by decide +kernel
theorem d_S_checkBounds_14 : decode b_S_checkBounds 14 = .ok (.ldc 194, 2) := by decide +kernel
theorem d_S_checkBounds_16 : decode b_S_checkBounds 16 = .ok (.invokespecial 108, 3) := by decide +kernel
theorem d_S_checkBounds_19 : decode b_S_checkBounds 19 = .ok (.athrow, 1) := by decide +kernel
theorem d_S_checkBounds_20 : decode b_S_checkBounds 20 = .ok (.return_, 1) := by decide +kernel
theorem cal_S_checkBounds : am_cal y_S_checkBounds b_S_checkBounds 3 ((Option.none : Option FieldType)) 3 := ⟨Or.inl wx_88, wx_1, by decide, by decide +kernel⟩
abbrev y_F_init : MethodName := ⟨"BillShares$Flat", "<init>", "(II)V"⟩
abbrev b_F_init : ByteArray := prog_3_method_1_code
theorem d_F_init_0 : decode b_F_init 0 = .ok (.aload_n 0, 1) := by decide +kernel
theorem d_F_init_1 : decode b_F_init 1 = .ok (.invokespecial 3, 3) := by decide +kernel
theorem d_F_init_4 : decode b_F_init 4 = .ok (.aload_n 0, 1) := by decide +kernel
theorem d_F_init_5 : decode b_F_init 5 = .ok (.new 9, 3) := by decide +kernel
theorem d_F_init_8 : decode b_F_init 8 = .ok (.dup, 1) := by decide +kernel
theorem d_F_init_9 : decode b_F_init 9 = .ok (.invokespecial 11, 3) := by decide +kernel
theorem d_F_init_12 : decode b_F_init 12 = .ok (.putfield 12, 3) := by decide +kernel
theorem d_F_init_15 : decode b_F_init 15 = .ok (.aload_n 0, 1) := by decide +kernel
theorem d_F_init_16 : decode b_F_init 16 = .ok (.bipush 12, 2) := by decide +kernel
theorem d_F_init_18 : decode b_F_init 18 = .ok (.newarray .int, 2) := by decide +kernel
theorem d_F_init_20 : decode b_F_init 20 = .ok (.putfield 18, 3) := by decide +kernel
theorem d_F_init_23 : decode b_F_init 23 = .ok (.aload_n 0, 1) := by decide +kernel
theorem d_F_init_24 : decode b_F_init 24 = .ok (.iconst 1, 1) := by decide +kernel
theorem d_F_init_25 : decode b_F_init 25 = .ok (.putfield 22, 3) := by decide +kernel
theorem d_F_init_28 : decode b_F_init 28 = .ok (.aload_n 0, 1) := by decide +kernel
theorem d_F_init_29 : decode b_F_init 29 = .ok (.bipush 10, 2) := by decide +kernel
theorem d_F_init_31 : decode b_F_init 31 = .ok (.newarray .long, 2) := by decide +kernel
theorem d_F_init_33 : decode b_F_init 33 = .ok (.putfield 26, 3) := by decide +kernel
theorem d_F_init_36 : decode b_F_init 36 = .ok (.aload_n 0, 1) := by decide +kernel
theorem d_F_init_37 : decode b_F_init 37 = .ok (.bipush 10, 2) := by decide +kernel
theorem d_F_init_39 : decode b_F_init 39 = .ok (.anewarray 30, 3) := by decide +kernel
theorem d_F_init_42 : decode b_F_init 42 = .ok (.putfield 32, 3) := by decide +kernel
theorem d_F_init_45 : decode b_F_init 45 = .ok (.aload_n 0, 1) := by decide +kernel
theorem d_F_init_46 : decode b_F_init 46 = .ok (.iload_n 1, 1) := by decide +kernel
theorem d_F_init_47 : decode b_F_init 47 = .ok (.putfield 36, 3) := by decide +kernel
theorem d_F_init_50 : decode b_F_init 50 = .ok (.aload_n 0, 1) := by decide +kernel
theorem d_F_init_51 : decode b_F_init 51 = .ok (.iload_n 2, 1) := by decide +kernel
theorem d_F_init_52 : decode b_F_init 52 = .ok (.putfield 39, 3) := by decide +kernel
theorem d_F_init_55 : decode b_F_init 55 = .ok (.return_, 1) := by decide +kernel
theorem cal_F_init : am_cal y_F_init b_F_init 3 ((Option.none : Option FieldType)) 2 := ⟨Or.inl wx_180, wx_12, by decide, by decide +kernel⟩
abbrev y_S_placeByRank : MethodName := ⟨"BillShares", "placeByRank", "(I)I"⟩
abbrev b_S_placeByRank : ByteArray := prog_1_method_31_code
theorem d_S_placeByRank_0 : decode b_S_placeByRank 0 = .ok (.iconst 0, 1) := by decide +kernel
theorem d_S_placeByRank_1 : decode b_S_placeByRank 1 = .ok (.istore_n 2, 1) := by decide +kernel
theorem d_S_placeByRank_2 : decode b_S_placeByRank 2 = .ok (.iload_n 2, 1) := by decide +kernel
theorem d_S_placeByRank_3 : decode b_S_placeByRank 3 = .ok (.aload_n 0, 1) := by decide +kernel
theorem d_S_placeByRank_4 : decode b_S_placeByRank 4 = .ok (.getfield 16, 3) := by decide +kernel
theorem d_S_placeByRank_7 : decode b_S_placeByRank 7 = .ok (.invokevirtual 42, 3) := by decide +kernel
theorem d_S_placeByRank_10 : decode b_S_placeByRank 10 = .ok (.if_icmp .ge 27, 3) := by decide +kernel
theorem d_S_placeByRank_13 : decode b_S_placeByRank 13 = .ok (.aload_n 0, 1) := by decide +kernel
theorem d_S_placeByRank_14 : decode b_S_placeByRank 14 = .ok (.getfield 16, 3) := by decide +kernel
theorem d_S_placeByRank_17 : decode b_S_placeByRank 17 = .ok (.iload_n 2, 1) := by decide +kernel
theorem d_S_placeByRank_18 : decode b_S_placeByRank 18 = .ok (.invokevirtual 204, 3) := by decide +kernel
theorem d_S_placeByRank_21 : decode b_S_placeByRank 21 = .ok (.checkcast 53, 3) := by decide +kernel
theorem d_S_placeByRank_24 : decode b_S_placeByRank 24 = .ok (.getfield 218, 3) := by decide +kernel
theorem d_S_placeByRank_27 : decode b_S_placeByRank 27 = .ok (.iload_n 1, 1) := by decide +kernel
theorem d_S_placeByRank_28 : decode b_S_placeByRank 28 = .ok (.if_icmp .gt 9, 3) := by decide +kernel
theorem d_S_placeByRank_31 : decode b_S_placeByRank 31 = .ok (.iinc 2 1, 3) := by decide +kernel
theorem d_S_placeByRank_34 : decode b_S_placeByRank 34 = .ok (.goto (-32), 3) := by decide +kernel
theorem d_S_placeByRank_37 : decode b_S_placeByRank 37 = .ok (.iload_n 2, 1) := by decide +kernel
theorem d_S_placeByRank_38 : decode b_S_placeByRank 38 = .ok (.ireturn, 1) := by decide +kernel
theorem cal_S_placeByRank : am_cal y_S_placeByRank b_S_placeByRank 3 ((Option.some FieldType.int)) 1 := ⟨Or.inl wx_282, wx_1, by decide, by decide +kernel⟩
abbrev y_S_meter : MethodName := ⟨"BillShares", "meter", "(IIIII)I"⟩
abbrev b_S_meter : ByteArray := prog_1_method_3_code
theorem d_S_meter_0 : decode b_S_meter 0 = .ok (.aload_n 0, 1) := by decide +kernel
theorem d_S_meter_1 : decode b_S_meter 1 = .ok (.iload_n 1, 1) := by decide +kernel
theorem d_S_meter_2 : decode b_S_meter 2 = .ok (.invokevirtual 69, 3) := by decide +kernel
theorem d_S_meter_5 : decode b_S_meter 5 = .ok (.astore 6, 2) := by decide +kernel
theorem d_S_meter_7 : decode b_S_meter 7 = .ok (.iload_n 2, 1) := by decide +kernel
theorem d_S_meter_8 : decode b_S_meter 8 = .ok (.invokestatic 73, 3) := by decide +kernel
theorem d_S_meter_11 : decode b_S_meter 11 = .ok (.iload_n 3, 1) := by decide +kernel
theorem d_S_meter_12 : decode b_S_meter 12 = .ok (.iconst 1, 1) := by decide +kernel
theorem d_S_meter_13 : decode b_S_meter 13 = .ok (.sipush 1000, 3) := by decide +kernel
theorem d_S_meter_16 : decode b_S_meter 16 = .ok (.invokestatic 38, 3) := by decide +kernel
theorem d_S_meter_19 : decode b_S_meter 19 = .ok (.iload 4, 2) := by decide +kernel
theorem d_S_meter_21 : decode b_S_meter 21 = .ok (.iconst 1, 1) := by decide +kernel
theorem d_S_meter_22 : decode b_S_meter 22 = .ok (.sipush 1000, 3) := by decide +kernel
theorem d_S_meter_25 : decode b_S_meter 25 = .ok (.invokestatic 38, 3) := by decide +kernel
theorem d_S_meter_28 : decode b_S_meter 28 = .ok (.iload 5, 2) := by decide +kernel
theorem d_S_meter_30 : decode b_S_meter 30 = .ok (.invokestatic 77, 3) := by decide +kernel
theorem d_S_meter_33 : decode b_S_meter 33 = .ok (.aload_n 0, 1) := by decide +kernel
theorem d_S_meter_34 : decode b_S_meter 34 = .ok (.getfield 19, 3) := by decide +kernel
theorem d_S_meter_37 : decode b_S_meter 37 = .ok (.invokevirtual 42, 3) := by decide +kernel
theorem d_S_meter_40 : decode b_S_meter 40 = .ok (.bipush 60, 2) := by decide +kernel
theorem d_S_meter_42 : decode b_S_meter 42 = .ok (.if_icmp .lt 13, 3) := by decide +kernel
theorem d_S_meter_45 : decode b_S_meter 45 = .ok (.new 46, 3) := by decide +kernel
theorem d_S_meter_48 : decode b_S_meter 48 = .ok (.dup, 1) := by decide +kernel
theorem d_S_meter_49 : decode b_S_meter 49 = .ok (.ldc 80, 2) := by decide +kernel
theorem d_S_meter_51 : decode b_S_meter 51 = .ok (.invokespecial 50, 3) := by decide +kernel
theorem d_S_meter_54 : decode b_S_meter 54 = .ok (.athrow, 1) := by decide +kernel
theorem d_S_meter_55 : decode b_S_meter 55 = .ok (.new 82, 3) := by decide +kernel
theorem d_S_meter_58 : decode b_S_meter 58 = .ok (.dup, 1) := by decide +kernel
theorem d_S_meter_59 : decode b_S_meter 59 = .ok (.iload_n 2, 1) := by decide +kernel
theorem d_S_meter_60 : decode b_S_meter 60 = .ok (.iload_n 3, 1) := by decide +kernel
theorem d_S_meter_61 : decode b_S_meter 61 = .ok (.iload 4, 2) := by decide +kernel
theorem d_S_meter_63 : decode b_S_meter 63 = .ok (.iload 5, 2) := by decide +kernel
theorem d_S_meter_65 : decode b_S_meter 65 = .ok (.invokespecial 84, 3) := by decide +kernel
theorem d_S_meter_68 : decode b_S_meter 68 = .ok (.astore 7, 2) := by decide +kernel
theorem d_S_meter_70 : decode b_S_meter 70 = .ok (.aload_n 0, 1) := by decide +kernel
theorem d_S_meter_71 : decode b_S_meter 71 = .ok (.getfield 19, 3) := by decide +kernel
theorem d_S_meter_74 : decode b_S_meter 74 = .ok (.aload 7, 2) := by decide +kernel
theorem d_S_meter_76 : decode b_S_meter 76 = .ok (.invokevirtual 58, 3) := by decide +kernel
theorem d_S_meter_79 : decode b_S_meter 79 = .ok (.pop, 1) := by decide +kernel
theorem d_S_meter_80 : decode b_S_meter 80 = .ok (.aload 6, 2) := by decide +kernel
theorem d_S_meter_82 : decode b_S_meter 82 = .ok (.getfield 87, 3) := by decide +kernel
theorem d_S_meter_85 : decode b_S_meter 85 = .ok (.aload 7, 2) := by decide +kernel
theorem d_S_meter_87 : decode b_S_meter 87 = .ok (.invokevirtual 58, 3) := by decide +kernel
theorem d_S_meter_90 : decode b_S_meter 90 = .ok (.pop, 1) := by decide +kernel
theorem d_S_meter_91 : decode b_S_meter 91 = .ok (.aload_n 0, 1) := by decide +kernel
theorem d_S_meter_92 : decode b_S_meter 92 = .ok (.getfield 19, 3) := by decide +kernel
theorem d_S_meter_95 : decode b_S_meter 95 = .ok (.invokevirtual 42, 3) := by decide +kernel
theorem d_S_meter_98 : decode b_S_meter 98 = .ok (.iconst 1, 1) := by decide +kernel
theorem d_S_meter_99 : decode b_S_meter 99 = .ok (.isub, 1) := by decide +kernel
theorem d_S_meter_100 : decode b_S_meter 100 = .ok (.ireturn, 1) := by decide +kernel
theorem cal_S_meter : am_cal y_S_meter b_S_meter 8 ((Option.some FieldType.int)) 5 := ⟨Or.inl wx_312, wx_1, by decide, by decide +kernel⟩
abbrev y_S_flatAt : MethodName := ⟨"BillShares", "flatAt", "(I)LBillShares$Flat;"⟩
abbrev b_S_flatAt : ByteArray := prog_1_method_28_code
theorem d_S_flatAt_0 : decode b_S_flatAt 0 = .ok (.iload_n 1, 1) := by decide +kernel
theorem d_S_flatAt_1 : decode b_S_flatAt 1 = .ok (.ifCond .lt 14, 3) := by decide +kernel
theorem d_S_flatAt_4 : decode b_S_flatAt 4 = .ok (.iload_n 1, 1) := by decide +kernel
theorem d_S_flatAt_5 : decode b_S_flatAt 5 = .ok (.aload_n 0, 1) := by decide +kernel
theorem d_S_flatAt_6 : decode b_S_flatAt 6 = .ok (.getfield 12, 3) := by decide +kernel
theorem d_S_flatAt_9 : decode b_S_flatAt 9 = .ok (.invokevirtual 42, 3) := by decide +kernel
theorem d_S_flatAt_12 : decode b_S_flatAt 12 = .ok (.if_icmp .lt 13, 3) := by decide +kernel
theorem d_S_flatAt_15 : decode b_S_flatAt 15 = .ok (.new 104, 3) := by decide +kernel
theorem d_S_flatAt_18 : decode b_S_flatAt 18 = .ok (.dup, 1) := by decide +kernel
theorem d_S_flatAt_19 : decode b_S_flatAt 19 = .ok (.ldc 202, 2) := by decide +kernel
theorem d_S_flatAt_21 : decode b_S_flatAt 21 = .ok (.invokespecial 108, 3) := by decide +kernel
theorem d_S_flatAt_24 : decode b_S_flatAt 24 = .ok (.athrow, 1) := by decide +kernel
theorem d_S_flatAt_25 : decode b_S_flatAt 25 = .ok (.aload_n 0, 1) := by decide +kernel
theorem d_S_flatAt_26 : decode b_S_flatAt 26 = .ok (.getfield 12, 3) := by decide +kernel
theorem d_S_flatAt_29 : decode b_S_flatAt 29 = .ok (.iload_n 1, 1) := by decide +kernel
theorem d_S_flatAt_30 : decode b_S_flatAt 30 = .ok (.invokevirtual 204, 3) := by decide +kernel
theorem d_S_flatAt_33 : decode b_S_flatAt 33 = .ok (.checkcast 53, 3) := by decide +kernel
theorem d_S_flatAt_36 : decode b_S_flatAt 36 = .ok (.areturn, 1) := by decide +kernel
theorem cal_S_flatAt : am_cal y_S_flatAt b_S_flatAt 2 ((Option.some (FieldType.object "BillShares$Flat"))) 1 := ⟨Or.inl wx_316, wx_1, by decide, by decide +kernel⟩
abbrev y_S_checkKind : MethodName := ⟨"BillShares", "checkKind", "(I)V"⟩
abbrev b_S_checkKind : ByteArray := prog_1_method_24_code
theorem d_S_checkKind_0 : decode b_S_checkKind 0 = .ok (.iload_n 0, 1) := by decide +kernel
theorem d_S_checkKind_1 : decode b_S_checkKind 1 = .ok (.iconst 0, 1) := by decide +kernel
theorem d_S_checkKind_2 : decode b_S_checkKind 2 = .ok (.iconst 3, 1) := by decide +kernel
theorem d_S_checkKind_3 : decode b_S_checkKind 3 = .ok (.invokestatic 38, 3) := by decide +kernel
theorem d_S_checkKind_6 : decode b_S_checkKind 6 = .ok (.return_, 1) := by decide +kernel
theorem cal_S_checkKind : am_cal y_S_checkKind b_S_checkKind 1 ((Option.none : Option FieldType)) 1 := ⟨Or.inl wx_320, wx_1, by decide, by decide +kernel⟩
abbrev y_S_checkDay : MethodName := ⟨"BillShares", "checkDay", "(I)V"⟩
abbrev b_S_checkDay : ByteArray := prog_1_method_22_code
theorem d_S_checkDay_0 : decode b_S_checkDay 0 = .ok (.iload_n 0, 1) := by decide +kernel
theorem d_S_checkDay_1 : decode b_S_checkDay 1 = .ok (.iconst 0, 1) := by decide +kernel
theorem d_S_checkDay_2 : decode b_S_checkDay 2 = .ok (.sipush 3649, 3) := by decide +kernel
theorem d_S_checkDay_5 : decode b_S_checkDay 5 = .ok (.invokestatic 38, 3) := by decide +kernel
theorem d_S_checkDay_8 : decode b_S_checkDay 8 = .ok (.return_, 1) := by decide +kernel
theorem cal_S_checkDay : am_cal y_S_checkDay b_S_checkDay 1 ((Option.none : Option FieldType)) 1 := ⟨Or.inl wx_323, wx_1, by decide, by decide +kernel⟩
abbrev y_T_init : MethodName := ⟨"BillShares$Meter", "<init>", "(IIII)V"⟩
abbrev b_T_init : ByteArray := prog_4_method_1_code
theorem d_T_init_0 : decode b_T_init 0 = .ok (.aload_n 0, 1) := by decide +kernel
theorem d_T_init_1 : decode b_T_init 1 = .ok (.invokespecial 3, 3) := by decide +kernel
theorem d_T_init_4 : decode b_T_init 4 = .ok (.aload_n 0, 1) := by decide +kernel
theorem d_T_init_5 : decode b_T_init 5 = .ok (.iconst 0, 1) := by decide +kernel
theorem d_T_init_6 : decode b_T_init 6 = .ok (.putfield 9, 3) := by decide +kernel
theorem d_T_init_9 : decode b_T_init 9 = .ok (.aload_n 0, 1) := by decide +kernel
theorem d_T_init_10 : decode b_T_init 10 = .ok (.bipush 40, 2) := by decide +kernel
theorem d_T_init_12 : decode b_T_init 12 = .ok (.newarray .int, 2) := by decide +kernel
theorem d_T_init_14 : decode b_T_init 14 = .ok (.putfield 15, 3) := by decide +kernel
theorem d_T_init_17 : decode b_T_init 17 = .ok (.aload_n 0, 1) := by decide +kernel
theorem d_T_init_18 : decode b_T_init 18 = .ok (.bipush 40, 2) := by decide +kernel
theorem d_T_init_20 : decode b_T_init 20 = .ok (.newarray .int, 2) := by decide +kernel
theorem d_T_init_22 : decode b_T_init 22 = .ok (.putfield 19, 3) := by decide +kernel
theorem d_T_init_25 : decode b_T_init 25 = .ok (.aload_n 0, 1) := by decide +kernel
theorem d_T_init_26 : decode b_T_init 26 = .ok (.bipush 40, 2) := by decide +kernel
theorem d_T_init_28 : decode b_T_init 28 = .ok (.newarray .int, 2) := by decide +kernel
theorem d_T_init_30 : decode b_T_init 30 = .ok (.putfield 22, 3) := by decide +kernel
theorem d_T_init_33 : decode b_T_init 33 = .ok (.aload_n 0, 1) := by decide +kernel
theorem d_T_init_34 : decode b_T_init 34 = .ok (.iload_n 1, 1) := by decide +kernel
theorem d_T_init_35 : decode b_T_init 35 = .ok (.putfield 25, 3) := by decide +kernel
theorem d_T_init_38 : decode b_T_init 38 = .ok (.aload_n 0, 1) := by decide +kernel
theorem d_T_init_39 : decode b_T_init 39 = .ok (.iload_n 2, 1) := by decide +kernel
theorem d_T_init_40 : decode b_T_init 40 = .ok (.putfield 28, 3) := by decide +kernel
theorem d_T_init_43 : decode b_T_init 43 = .ok (.aload_n 0, 1) := by decide +kernel
theorem d_T_init_44 : decode b_T_init 44 = .ok (.iload_n 3, 1) := by decide +kernel
theorem d_T_init_45 : decode b_T_init 45 = .ok (.putfield 31, 3) := by decide +kernel
theorem d_T_init_48 : decode b_T_init 48 = .ok (.aload_n 0, 1) := by decide +kernel
theorem d_T_init_49 : decode b_T_init 49 = .ok (.iload 4, 2) := by decide +kernel
theorem d_T_init_51 : decode b_T_init 51 = .ok (.putfield 34, 3) := by decide +kernel
theorem d_T_init_54 : decode b_T_init 54 = .ok (.return_, 1) := by decide +kernel
theorem cal_T_init : am_cal y_T_init b_T_init 5 ((Option.none : Option FieldType)) 4 := ⟨Or.inl wx_329, wx_18, by decide, by decide +kernel⟩
abbrev y_S_reading : MethodName := ⟨"BillShares", "reading", "(III)I"⟩
abbrev b_S_reading : ByteArray := prog_1_method_4_code
theorem d_S_reading_0 : decode b_S_reading 0 = .ok (.aload_n 0, 1) := by decide +kernel
theorem d_S_reading_1 : decode b_S_reading 1 = .ok (.iload_n 1, 1) := by decide +kernel
theorem d_S_reading_2 : decode b_S_reading 2 = .ok (.iload_n 2, 1) := by decide +kernel
theorem d_S_reading_3 : decode b_S_reading 3 = .ok (.iload_n 3, 1) := by decide +kernel
theorem d_S_reading_4 : decode b_S_reading 4 = .ok (.iconst (-1), 1) := by decide +kernel
theorem d_S_reading_5 : decode b_S_reading 5 = .ok (.invokevirtual 88, 3) := by decide +kernel
theorem d_S_reading_8 : decode b_S_reading 8 = .ok (.ireturn, 1) := by decide +kernel
theorem cal_S_reading : am_cal y_S_reading b_S_reading 4 ((Option.some FieldType.int)) 3 := ⟨Or.inl wx_365, wx_1, by decide, by decide +kernel⟩
abbrev y_S_addReading : MethodName := ⟨"BillShares", "addReading", "(IIII)I"⟩
abbrev b_S_addReading : ByteArray := prog_1_method_32_code
theorem d_S_addReading_0 : decode b_S_addReading 0 = .ok (.aload_n 0, 1) := by decide +kernel
theorem d_S_addReading_1 : decode b_S_addReading 1 = .ok (.iload_n 1, 1) := by decide +kernel
theorem d_S_addReading_2 : decode b_S_addReading 2 = .ok (.invokevirtual 93, 3) := by decide +kernel
theorem d_S_addReading_5 : decode b_S_addReading 5 = .ok (.astore 5, 2) := by decide +kernel
theorem d_S_addReading_7 : decode b_S_addReading 7 = .ok (.iload_n 2, 1) := by decide +kernel
theorem d_S_addReading_8 : decode b_S_addReading 8 = .ok (.invokestatic 77, 3) := by decide +kernel
theorem d_S_addReading_11 : decode b_S_addReading 11 = .ok (.iload_n 3, 1) := by decide +kernel
theorem d_S_addReading_12 : decode b_S_addReading 12 = .ok (.iconst 0, 1) := by decide +kernel
theorem d_S_addReading_13 : decode b_S_addReading 13 = .ok (.ldc 92, 2) := by decide +kernel
theorem d_S_addReading_15 : decode b_S_addReading 15 = .ok (.invokestatic 38, 3) := by decide +kernel
theorem d_S_addReading_18 : decode b_S_addReading 18 = .ok (.aload 5, 2) := by decide +kernel
theorem d_S_addReading_20 : decode b_S_addReading 20 = .ok (.iload_n 2, 1) := by decide +kernel
theorem d_S_addReading_21 : decode b_S_addReading 21 = .ok (.iload_n 3, 1) := by decide +kernel
theorem d_S_addReading_22 : decode b_S_addReading 22 = .ok (.invokevirtual 221, 3) := by decide +kernel
theorem d_S_addReading_25 : decode b_S_addReading 25 = .ok (.ifCond .ne 13, 3) := by decide +kernel
theorem d_S_addReading_28 : decode b_S_addReading 28 = .ok (.new 104, 3) := by decide +kernel
theorem d_S_addReading_31 : decode b_S_addReading 31 = .ok (.dup, 1) := by decide +kernel
theorem d_S_addReading_32 : decode b_S_addReading 32 = .ok (.ldc 224, 2) := by decide +kernel
theorem d_S_addReading_34 : decode b_S_addReading 34 = .ok (.invokespecial 108, 3) := by decide +kernel
theorem d_S_addReading_37 : decode b_S_addReading 37 = .ok (.athrow, 1) := by decide +kernel
theorem d_S_addReading_38 : decode b_S_addReading 38 = .ok (.aload 5, 2) := by decide +kernel
theorem d_S_addReading_40 : decode b_S_addReading 40 = .ok (.getfield 226, 3) := by decide +kernel
theorem d_S_addReading_43 : decode b_S_addReading 43 = .ok (.bipush 40, 2) := by decide +kernel
theorem d_S_addReading_45 : decode b_S_addReading 45 = .ok (.if_icmp .lt 13, 3) := by decide +kernel
theorem d_S_addReading_48 : decode b_S_addReading 48 = .ok (.new 46, 3) := by decide +kernel
theorem d_S_addReading_51 : decode b_S_addReading 51 = .ok (.dup, 1) := by decide +kernel
theorem d_S_addReading_52 : decode b_S_addReading 52 = .ok (.ldc 229, 2) := by decide +kernel
theorem d_S_addReading_54 : decode b_S_addReading 54 = .ok (.invokespecial 50, 3) := by decide +kernel
theorem d_S_addReading_57 : decode b_S_addReading 57 = .ok (.athrow, 1) := by decide +kernel
theorem d_S_addReading_58 : decode b_S_addReading 58 = .ok (.aload 5, 2) := by decide +kernel
theorem d_S_addReading_60 : decode b_S_addReading 60 = .ok (.iload_n 2, 1) := by decide +kernel
theorem d_S_addReading_61 : decode b_S_addReading 61 = .ok (.iload_n 3, 1) := by decide +kernel
theorem d_S_addReading_62 : decode b_S_addReading 62 = .ok (.iload 4, 2) := by decide +kernel
theorem d_S_addReading_64 : decode b_S_addReading 64 = .ok (.invokevirtual 231, 3) := by decide +kernel
theorem d_S_addReading_67 : decode b_S_addReading 67 = .ok (.ireturn, 1) := by decide +kernel
theorem cal_S_addReading : am_cal y_S_addReading b_S_addReading 6 ((Option.some FieldType.int)) 4 := ⟨Or.inl wx_369, wx_1, by decide, by decide +kernel⟩
abbrev y_S_meterAt : MethodName := ⟨"BillShares", "meterAt", "(I)LBillShares$Meter;"⟩
abbrev b_S_meterAt : ByteArray := prog_1_method_29_code
theorem d_S_meterAt_0 : decode b_S_meterAt 0 = .ok (.iload_n 1, 1) := by decide +kernel
theorem d_S_meterAt_1 : decode b_S_meterAt 1 = .ok (.ifCond .lt 14, 3) := by decide +kernel
theorem d_S_meterAt_4 : decode b_S_meterAt 4 = .ok (.iload_n 1, 1) := by decide +kernel
theorem d_S_meterAt_5 : decode b_S_meterAt 5 = .ok (.aload_n 0, 1) := by decide +kernel
theorem d_S_meterAt_6 : decode b_S_meterAt 6 = .ok (.getfield 19, 3) := by decide +kernel
theorem d_S_meterAt_9 : decode b_S_meterAt 9 = .ok (.invokevirtual 42, 3) := by decide +kernel
theorem d_S_meterAt_12 : decode b_S_meterAt 12 = .ok (.if_icmp .lt 13, 3) := by decide +kernel
theorem d_S_meterAt_15 : decode b_S_meterAt 15 = .ok (.new 104, 3) := by decide +kernel
theorem d_S_meterAt_18 : decode b_S_meterAt 18 = .ok (.dup, 1) := by decide +kernel
theorem d_S_meterAt_19 : decode b_S_meterAt 19 = .ok (.ldc 208, 2) := by decide +kernel
theorem d_S_meterAt_21 : decode b_S_meterAt 21 = .ok (.invokespecial 108, 3) := by decide +kernel
theorem d_S_meterAt_24 : decode b_S_meterAt 24 = .ok (.athrow, 1) := by decide +kernel
theorem d_S_meterAt_25 : decode b_S_meterAt 25 = .ok (.aload_n 0, 1) := by decide +kernel
theorem d_S_meterAt_26 : decode b_S_meterAt 26 = .ok (.getfield 19, 3) := by decide +kernel
theorem d_S_meterAt_29 : decode b_S_meterAt 29 = .ok (.iload_n 1, 1) := by decide +kernel
theorem d_S_meterAt_30 : decode b_S_meterAt 30 = .ok (.invokevirtual 204, 3) := by decide +kernel
theorem d_S_meterAt_33 : decode b_S_meterAt 33 = .ok (.checkcast 82, 3) := by decide +kernel
theorem d_S_meterAt_36 : decode b_S_meterAt 36 = .ok (.areturn, 1) := by decide +kernel
theorem cal_S_meterAt : am_cal y_S_meterAt b_S_meterAt 2 ((Option.some (FieldType.object "BillShares$Meter"))) 1 := ⟨Or.inl wx_373, wx_1, by decide, by decide +kernel⟩
abbrev y_T_mayEndWith : MethodName := ⟨"BillShares$Meter", "mayEndWith", "(II)Z"⟩
abbrev b_T_mayEndWith : ByteArray := prog_4_method_2_code
theorem d_T_mayEndWith_0 : decode b_T_mayEndWith 0 = .ok (.aload_n 0, 1) := by decide +kernel
theorem d_T_mayEndWith_1 : decode b_T_mayEndWith 1 = .ok (.getfield 9, 3) := by decide +kernel
theorem d_T_mayEndWith_4 : decode b_T_mayEndWith 4 = .ok (.ifCond .eq 32, 3) := by decide +kernel
theorem d_T_mayEndWith_7 : decode b_T_mayEndWith 7 = .ok (.iload_n 1, 1) := by decide +kernel
theorem d_T_mayEndWith_8 : decode b_T_mayEndWith 8 = .ok (.aload_n 0, 1) := by decide +kernel
theorem d_T_mayEndWith_9 : decode b_T_mayEndWith 9 = .ok (.getfield 15, 3) := by decide +kernel
theorem d_T_mayEndWith_12 : decode b_T_mayEndWith 12 = .ok (.aload_n 0, 1) := by decide +kernel
theorem d_T_mayEndWith_13 : decode b_T_mayEndWith 13 = .ok (.getfield 9, 3) := by decide +kernel
theorem d_T_mayEndWith_16 : decode b_T_mayEndWith 16 = .ok (.iconst 1, 1) := by decide +kernel
theorem d_T_mayEndWith_17 : decode b_T_mayEndWith 17 = .ok (.isub, 1) := by decide +kernel
theorem d_T_mayEndWith_18 : decode b_T_mayEndWith 18 = .ok (.iaload, 1) := by decide +kernel
theorem d_T_mayEndWith_19 : decode b_T_mayEndWith 19 = .ok (.if_icmp .le 21, 3) := by decide +kernel
theorem d_T_mayEndWith_22 : decode b_T_mayEndWith 22 = .ok (.iload_n 2, 1) := by decide +kernel
theorem d_T_mayEndWith_23 : decode b_T_mayEndWith 23 = .ok (.aload_n 0, 1) := by decide +kernel
theorem d_T_mayEndWith_24 : decode b_T_mayEndWith 24 = .ok (.aload_n 0, 1) := by decide +kernel
theorem d_T_mayEndWith_25 : decode b_T_mayEndWith 25 = .ok (.getfield 9, 3) := by decide +kernel
theorem d_T_mayEndWith_28 : decode b_T_mayEndWith 28 = .ok (.iconst 1, 1) := by decide +kernel
theorem d_T_mayEndWith_29 : decode b_T_mayEndWith 29 = .ok (.isub, 1) := by decide +kernel
theorem d_T_mayEndWith_30 : decode b_T_mayEndWith 30 = .ok (.invokevirtual 37, 3) := by decide +kernel
theorem d_T_mayEndWith_33 : decode b_T_mayEndWith 33 = .ok (.if_icmp .lt 7, 3) := by decide +kernel
theorem d_T_mayEndWith_36 : decode b_T_mayEndWith 36 = .ok (.iconst 1, 1) := by decide +kernel
theorem d_T_mayEndWith_37 : decode b_T_mayEndWith 37 = .ok (.goto 4, 3) := by decide +kernel
theorem d_T_mayEndWith_40 : decode b_T_mayEndWith 40 = .ok (.iconst 0, 1) := by decide +kernel
theorem d_T_mayEndWith_41 : decode b_T_mayEndWith 41 = .ok (.ireturn, 1) := by decide +kernel
theorem cal_T_mayEndWith : am_cal y_T_mayEndWith b_T_mayEndWith 3 ((Option.some FieldType.boolean)) 2 := ⟨Or.inl wx_379, wx_18, by decide, by decide +kernel⟩
abbrev y_T_valueBehind : MethodName := ⟨"BillShares$Meter", "valueBehind", "(I)I"⟩
abbrev b_T_valueBehind : ByteArray := prog_4_method_7_code
theorem d_T_valueBehind_0 : decode b_T_valueBehind 0 = .ok (.aload_n 0, 1) := by decide +kernel
theorem d_T_valueBehind_1 : decode b_T_valueBehind 1 = .ok (.getfield 22, 3) := by decide +kernel
theorem d_T_valueBehind_4 : decode b_T_valueBehind 4 = .ok (.iload_n 1, 1) := by decide +kernel
theorem d_T_valueBehind_5 : decode b_T_valueBehind 5 = .ok (.iaload, 1) := by decide +kernel
theorem d_T_valueBehind_6 : decode b_T_valueBehind 6 = .ok (.iconst (-1), 1) := by decide +kernel
theorem d_T_valueBehind_7 : decode b_T_valueBehind 7 = .ok (.if_icmp .ne 12, 3) := by decide +kernel
theorem d_T_valueBehind_10 : decode b_T_valueBehind 10 = .ok (.aload_n 0, 1) := by decide +kernel
theorem d_T_valueBehind_11 : decode b_T_valueBehind 11 = .ok (.getfield 19, 3) := by decide +kernel
theorem d_T_valueBehind_14 : decode b_T_valueBehind 14 = .ok (.iload_n 1, 1) := by decide +kernel
theorem d_T_valueBehind_15 : decode b_T_valueBehind 15 = .ok (.iaload, 1) := by decide +kernel
theorem d_T_valueBehind_16 : decode b_T_valueBehind 16 = .ok (.goto 9, 3) := by decide +kernel
theorem d_T_valueBehind_19 : decode b_T_valueBehind 19 = .ok (.aload_n 0, 1) := by decide +kernel
theorem d_T_valueBehind_20 : decode b_T_valueBehind 20 = .ok (.getfield 22, 3) := by decide +kernel
theorem d_T_valueBehind_23 : decode b_T_valueBehind 23 = .ok (.iload_n 1, 1) := by decide +kernel
theorem d_T_valueBehind_24 : decode b_T_valueBehind 24 = .ok (.iaload, 1) := by decide +kernel
theorem d_T_valueBehind_25 : decode b_T_valueBehind 25 = .ok (.ireturn, 1) := by decide +kernel
theorem cal_T_valueBehind : am_cal y_T_valueBehind b_T_valueBehind 2 ((Option.some FieldType.int)) 1 := ⟨Or.inl wx_383, wx_18, by decide, by decide +kernel⟩
abbrev y_T_append : MethodName := ⟨"BillShares$Meter", "append", "(III)I"⟩
abbrev b_T_append : ByteArray := prog_4_method_3_code
theorem d_T_append_0 : decode b_T_append 0 = .ok (.aload_n 0, 1) := by decide +kernel
theorem d_T_append_1 : decode b_T_append 1 = .ok (.getfield 9, 3) := by decide +kernel
theorem d_T_append_4 : decode b_T_append 4 = .ok (.aload_n 0, 1) := by decide +kernel
theorem d_T_append_5 : decode b_T_append 5 = .ok (.getfield 15, 3) := by decide +kernel
theorem d_T_append_8 : decode b_T_append 8 = .ok (.arraylength, 1) := by decide +kernel
theorem d_T_append_9 : decode b_T_append 9 = .ok (.if_icmp .ge 43, 3) := by decide +kernel
theorem d_T_append_12 : decode b_T_append 12 = .ok (.aload_n 0, 1) := by decide +kernel
theorem d_T_append_13 : decode b_T_append 13 = .ok (.getfield 15, 3) := by decide +kernel
theorem d_T_append_16 : decode b_T_append 16 = .ok (.aload_n 0, 1) := by decide +kernel
theorem d_T_append_17 : decode b_T_append 17 = .ok (.getfield 9, 3) := by decide +kernel
theorem d_T_append_20 : decode b_T_append 20 = .ok (.iload_n 1, 1) := by decide +kernel
theorem d_T_append_21 : decode b_T_append 21 = .ok (.iastore, 1) := by decide +kernel
theorem d_T_append_22 : decode b_T_append 22 = .ok (.aload_n 0, 1) := by decide +kernel
theorem d_T_append_23 : decode b_T_append 23 = .ok (.getfield 19, 3) := by decide +kernel
theorem d_T_append_26 : decode b_T_append 26 = .ok (.aload_n 0, 1) := by decide +kernel
theorem d_T_append_27 : decode b_T_append 27 = .ok (.getfield 9, 3) := by decide +kernel
theorem d_T_append_30 : decode b_T_append 30 = .ok (.iload_n 2, 1) := by decide +kernel
theorem d_T_append_31 : decode b_T_append 31 = .ok (.iastore, 1) := by decide +kernel
theorem d_T_append_32 : decode b_T_append 32 = .ok (.aload_n 0, 1) := by decide +kernel
theorem d_T_append_33 : decode b_T_append 33 = .ok (.getfield 22, 3) := by decide +kernel
theorem d_T_append_36 : decode b_T_append 36 = .ok (.aload_n 0, 1) := by decide +kernel
theorem d_T_append_37 : decode b_T_append 37 = .ok (.getfield 9, 3) := by decide +kernel
theorem d_T_append_40 : decode b_T_append 40 = .ok (.iload_n 3, 1) := by decide +kernel
theorem d_T_append_41 : decode b_T_append 41 = .ok (.iastore, 1) := by decide +kernel
theorem d_T_append_42 : decode b_T_append 42 = .ok (.aload_n 0, 1) := by decide +kernel
theorem d_T_append_43 : decode b_T_append 43 = .ok (.dup, 1) := by decide +kernel
theorem d_T_append_44 : decode b_T_append 44 = .ok (.getfield 9, 3) := by decide +kernel
theorem d_T_append_47 : decode b_T_append 47 = .ok (.iconst 1, 1) := by decide +kernel
theorem d_T_append_48 : decode b_T_append 48 = .ok (.iadd, 1) := by decide +kernel
theorem d_T_append_49 : decode b_T_append 49 = .ok (.putfield 9, 3) := by decide +kernel
theorem d_T_append_52 : decode b_T_append 52 = .ok (.aload_n 0, 1) := by decide +kernel
theorem d_T_append_53 : decode b_T_append 53 = .ok (.getfield 9, 3) := by decide +kernel
theorem d_T_append_56 : decode b_T_append 56 = .ok (.ireturn, 1) := by decide +kernel
theorem cal_T_append : am_cal y_T_append b_T_append 4 ((Option.some FieldType.int)) 3 := ⟨Or.inl wx_389, wx_18, by decide, by decide +kernel⟩
abbrev y_S_changed : MethodName := ⟨"BillShares", "changed", "(IIII)I"⟩
abbrev b_S_changed : ByteArray := prog_1_method_5_code
theorem d_S_changed_0 : decode b_S_changed 0 = .ok (.iload 4, 2) := by decide +kernel
theorem d_S_changed_2 : decode b_S_changed 2 = .ok (.iconst 0, 1) := by decide +kernel
theorem d_S_changed_3 : decode b_S_changed 3 = .ok (.ldc 92, 2) := by decide +kernel
theorem d_S_changed_5 : decode b_S_changed 5 = .ok (.invokestatic 38, 3) := by decide +kernel
theorem d_S_changed_8 : decode b_S_changed 8 = .ok (.aload_n 0, 1) := by decide +kernel
theorem d_S_changed_9 : decode b_S_changed 9 = .ok (.iload_n 1, 1) := by decide +kernel
theorem d_S_changed_10 : decode b_S_changed 10 = .ok (.iload_n 2, 1) := by decide +kernel
theorem d_S_changed_11 : decode b_S_changed 11 = .ok (.iload_n 3, 1) := by decide +kernel
theorem d_S_changed_12 : decode b_S_changed 12 = .ok (.iload 4, 2) := by decide +kernel
theorem d_S_changed_14 : decode b_S_changed 14 = .ok (.invokevirtual 88, 3) := by decide +kernel
theorem d_S_changed_17 : decode b_S_changed 17 = .ok (.ireturn, 1) := by decide +kernel
theorem cal_S_changed : am_cal y_S_changed b_S_changed 5 ((Option.some FieldType.int)) 4 := ⟨Or.inl wx_396, wx_1, by decide, by decide +kernel⟩
abbrev y_S_correct : MethodName := ⟨"BillShares", "correct", "(III)I"⟩
abbrev b_S_correct : ByteArray := prog_1_method_6_code
theorem d_S_correct_0 : decode b_S_correct 0 = .ok (.aload_n 0, 1) := by decide +kernel
theorem d_S_correct_1 : decode b_S_correct 1 = .ok (.iload_n 1, 1) := by decide +kernel
theorem d_S_correct_2 : decode b_S_correct 2 = .ok (.invokevirtual 93, 3) := by decide +kernel
theorem d_S_correct_5 : decode b_S_correct 5 = .ok (.astore 4, 2) := by decide +kernel
theorem d_S_correct_7 : decode b_S_correct 7 = .ok (.iload_n 2, 1) := by decide +kernel
theorem d_S_correct_8 : decode b_S_correct 8 = .ok (.invokestatic 77, 3) := by decide +kernel
theorem d_S_correct_11 : decode b_S_correct 11 = .ok (.iload_n 3, 1) := by decide +kernel
theorem d_S_correct_12 : decode b_S_correct 12 = .ok (.iconst 0, 1) := by decide +kernel
theorem d_S_correct_13 : decode b_S_correct 13 = .ok (.ldc 92, 2) := by decide +kernel
theorem d_S_correct_15 : decode b_S_correct 15 = .ok (.invokestatic 38, 3) := by decide +kernel
theorem d_S_correct_18 : decode b_S_correct 18 = .ok (.aload 4, 2) := by decide +kernel
theorem d_S_correct_20 : decode b_S_correct 20 = .ok (.iload_n 2, 1) := by decide +kernel
theorem d_S_correct_21 : decode b_S_correct 21 = .ok (.invokevirtual 97, 3) := by decide +kernel
theorem d_S_correct_24 : decode b_S_correct 24 = .ok (.istore 5, 2) := by decide +kernel
theorem d_S_correct_26 : decode b_S_correct 26 = .ok (.iload 5, 2) := by decide +kernel
theorem d_S_correct_28 : decode b_S_correct 28 = .ok (.iconst (-1), 1) := by decide +kernel
theorem d_S_correct_29 : decode b_S_correct 29 = .ok (.if_icmp .eq 14, 3) := by decide +kernel
theorem d_S_correct_32 : decode b_S_correct 32 = .ok (.aload 4, 2) := by decide +kernel
theorem d_S_correct_34 : decode b_S_correct 34 = .ok (.iload 5, 2) := by decide +kernel
theorem d_S_correct_36 : decode b_S_correct 36 = .ok (.iload_n 3, 1) := by decide +kernel
theorem d_S_correct_37 : decode b_S_correct 37 = .ok (.invokevirtual 100, 3) := by decide +kernel
theorem d_S_correct_40 : decode b_S_correct 40 = .ok (.ifCond .ne 13, 3) := by decide +kernel
theorem d_S_correct_43 : decode b_S_correct 43 = .ok (.new 104, 3) := by decide +kernel
theorem d_S_correct_46 : decode b_S_correct 46 = .ok (.dup, 1) := by decide +kernel
theorem d_S_correct_47 : decode b_S_correct 47 = .ok (.ldc 106, 2) := by decide +kernel
theorem d_S_correct_49 : decode b_S_correct 49 = .ok (.invokespecial 108, 3) := by decide +kernel
theorem d_S_correct_52 : decode b_S_correct 52 = .ok (.athrow, 1) := by decide +kernel
theorem d_S_correct_53 : decode b_S_correct 53 = .ok (.aload 4, 2) := by decide +kernel
theorem d_S_correct_55 : decode b_S_correct 55 = .ok (.iload 5, 2) := by decide +kernel
theorem d_S_correct_57 : decode b_S_correct 57 = .ok (.iload_n 3, 1) := by decide +kernel
theorem d_S_correct_58 : decode b_S_correct 58 = .ok (.invokevirtual 109, 3) := by decide +kernel
theorem d_S_correct_61 : decode b_S_correct 61 = .ok (.ireturn, 1) := by decide +kernel
theorem cal_S_correct : am_cal y_S_correct b_S_correct 6 ((Option.some FieldType.int)) 3 := ⟨Or.inl wx_403, wx_1, by decide, by decide +kernel⟩
abbrev y_T_indexOfDay : MethodName := ⟨"BillShares$Meter", "indexOfDay", "(I)I"⟩
abbrev b_T_indexOfDay : ByteArray := prog_4_method_4_code
theorem d_T_indexOfDay_0 : decode b_T_indexOfDay 0 = .ok (.iconst 0, 1) := by decide +kernel
theorem d_T_indexOfDay_1 : decode b_T_indexOfDay 1 = .ok (.istore_n 2, 1) := by decide +kernel
theorem d_T_indexOfDay_2 : decode b_T_indexOfDay 2 = .ok (.iload_n 2, 1) := by decide +kernel
theorem d_T_indexOfDay_3 : decode b_T_indexOfDay 3 = .ok (.aload_n 0, 1) := by decide +kernel
theorem d_T_indexOfDay_4 : decode b_T_indexOfDay 4 = .ok (.getfield 9, 3) := by decide +kernel
theorem d_T_indexOfDay_7 : decode b_T_indexOfDay 7 = .ok (.if_icmp .ge 21, 3) := by decide +kernel
theorem d_T_indexOfDay_10 : decode b_T_indexOfDay 10 = .ok (.aload_n 0, 1) := by decide +kernel
theorem d_T_indexOfDay_11 : decode b_T_indexOfDay 11 = .ok (.getfield 15, 3) := by decide +kernel
theorem d_T_indexOfDay_14 : decode b_T_indexOfDay 14 = .ok (.iload_n 2, 1) := by decide +kernel
theorem d_T_indexOfDay_15 : decode b_T_indexOfDay 15 = .ok (.iaload, 1) := by decide +kernel
theorem d_T_indexOfDay_16 : decode b_T_indexOfDay 16 = .ok (.iload_n 1, 1) := by decide +kernel
theorem d_T_indexOfDay_17 : decode b_T_indexOfDay 17 = .ok (.if_icmp .ne 5, 3) := by decide +kernel
theorem d_T_indexOfDay_20 : decode b_T_indexOfDay 20 = .ok (.iload_n 2, 1) := by decide +kernel
theorem d_T_indexOfDay_21 : decode b_T_indexOfDay 21 = .ok (.ireturn, 1) := by decide +kernel
theorem d_T_indexOfDay_22 : decode b_T_indexOfDay 22 = .ok (.iinc 2 1, 3) := by decide +kernel
theorem d_T_indexOfDay_25 : decode b_T_indexOfDay 25 = .ok (.goto (-23), 3) := by decide +kernel
theorem d_T_indexOfDay_28 : decode b_T_indexOfDay 28 = .ok (.iconst (-1), 1) := by decide +kernel
theorem d_T_indexOfDay_29 : decode b_T_indexOfDay 29 = .ok (.ireturn, 1) := by decide +kernel
theorem cal_T_indexOfDay : am_cal y_T_indexOfDay b_T_indexOfDay 3 ((Option.some FieldType.int)) 1 := ⟨Or.inl wx_407, wx_18, by decide, by decide +kernel⟩
abbrev y_T_fits : MethodName := ⟨"BillShares$Meter", "fits", "(II)Z"⟩
abbrev b_T_fits : ByteArray := prog_4_method_5_code
theorem d_T_fits_0 : decode b_T_fits 0 = .ok (.iload_n 1, 1) := by decide +kernel
theorem d_T_fits_1 : decode b_T_fits 1 = .ok (.ifCond .eq 14, 3) := by decide +kernel
theorem d_T_fits_4 : decode b_T_fits 4 = .ok (.iload_n 2, 1) := by decide +kernel
theorem d_T_fits_5 : decode b_T_fits 5 = .ok (.aload_n 0, 1) := by decide +kernel
theorem d_T_fits_6 : decode b_T_fits 6 = .ok (.iload_n 1, 1) := by decide +kernel
theorem d_T_fits_7 : decode b_T_fits 7 = .ok (.iconst 1, 1) := by decide +kernel
theorem d_T_fits_8 : decode b_T_fits 8 = .ok (.isub, 1) := by decide +kernel
theorem d_T_fits_9 : decode b_T_fits 9 = .ok (.invokevirtual 37, 3) := by decide +kernel
theorem d_T_fits_12 : decode b_T_fits 12 = .ok (.if_icmp .lt 7, 3) := by decide +kernel
theorem d_T_fits_15 : decode b_T_fits 15 = .ok (.iconst 1, 1) := by decide +kernel
theorem d_T_fits_16 : decode b_T_fits 16 = .ok (.goto 4, 3) := by decide +kernel
theorem d_T_fits_19 : decode b_T_fits 19 = .ok (.iconst 0, 1) := by decide +kernel
theorem d_T_fits_20 : decode b_T_fits 20 = .ok (.istore_n 3, 1) := by decide +kernel
theorem d_T_fits_21 : decode b_T_fits 21 = .ok (.iload_n 1, 1) := by decide +kernel
theorem d_T_fits_22 : decode b_T_fits 22 = .ok (.iconst 1, 1) := by decide +kernel
theorem d_T_fits_23 : decode b_T_fits 23 = .ok (.iadd, 1) := by decide +kernel
theorem d_T_fits_24 : decode b_T_fits 24 = .ok (.aload_n 0, 1) := by decide +kernel
theorem d_T_fits_25 : decode b_T_fits 25 = .ok (.getfield 9, 3) := by decide +kernel
theorem d_T_fits_28 : decode b_T_fits 28 = .ok (.if_icmp .ge 25, 3) := by decide +kernel
theorem d_T_fits_31 : decode b_T_fits 31 = .ok (.aload_n 0, 1) := by decide +kernel
theorem d_T_fits_32 : decode b_T_fits 32 = .ok (.getfield 22, 3) := by decide +kernel
theorem d_T_fits_35 : decode b_T_fits 35 = .ok (.iload_n 1, 1) := by decide +kernel
theorem d_T_fits_36 : decode b_T_fits 36 = .ok (.iaload, 1) := by decide +kernel
theorem d_T_fits_37 : decode b_T_fits 37 = .ok (.iconst (-1), 1) := by decide +kernel
theorem d_T_fits_38 : decode b_T_fits 38 = .ok (.if_icmp .ne 15, 3) := by decide +kernel
theorem d_T_fits_41 : decode b_T_fits 41 = .ok (.iload_n 2, 1) := by decide +kernel
theorem d_T_fits_42 : decode b_T_fits 42 = .ok (.aload_n 0, 1) := by decide +kernel
theorem d_T_fits_43 : decode b_T_fits 43 = .ok (.getfield 19, 3) := by decide +kernel
theorem d_T_fits_46 : decode b_T_fits 46 = .ok (.iload_n 1, 1) := by decide +kernel
theorem d_T_fits_47 : decode b_T_fits 47 = .ok (.iconst 1, 1) := by decide +kernel
theorem d_T_fits_48 : decode b_T_fits 48 = .ok (.iadd, 1) := by decide +kernel
theorem d_T_fits_49 : decode b_T_fits 49 = .ok (.iaload, 1) := by decide +kernel
theorem d_T_fits_50 : decode b_T_fits 50 = .ok (.if_icmp .gt 7, 3) := by decide +kernel
theorem d_T_fits_53 : decode b_T_fits 53 = .ok (.iconst 1, 1) := by decide +kernel
theorem d_T_fits_54 : decode b_T_fits 54 = .ok (.goto 4, 3) := by decide +kernel
theorem d_T_fits_57 : decode b_T_fits 57 = .ok (.iconst 0, 1) := by decide +kernel
theorem d_T_fits_58 : decode b_T_fits 58 = .ok (.istore 4, 2) := by decide +kernel
theorem d_T_fits_60 : decode b_T_fits 60 = .ok (.iload_n 3, 1) := by decide +kernel
theorem d_T_fits_61 : decode b_T_fits 61 = .ok (.ifCond .eq 12, 3) := by decide +kernel
theorem d_T_fits_64 : decode b_T_fits 64 = .ok (.iload 4, 2) := by decide +kernel
theorem d_T_fits_66 : decode b_T_fits 66 = .ok (.ifCond .eq 7, 3) := by decide +kernel
theorem d_T_fits_69 : decode b_T_fits 69 = .ok (.iconst 1, 1) := by decide +kernel
theorem d_T_fits_70 : decode b_T_fits 70 = .ok (.goto 4, 3) := by decide +kernel
theorem d_T_fits_73 : decode b_T_fits 73 = .ok (.iconst 0, 1) := by decide +kernel
theorem d_T_fits_74 : decode b_T_fits 74 = .ok (.ireturn, 1) := by decide +kernel
theorem cal_T_fits : am_cal y_T_fits b_T_fits 5 ((Option.some FieldType.boolean)) 2 := ⟨Or.inl wx_411, wx_18, by decide, by decide +kernel⟩
abbrev y_T_replaceValue : MethodName := ⟨"BillShares$Meter", "replaceValue", "(II)I"⟩
abbrev b_T_replaceValue : ByteArray := prog_4_method_6_code
theorem d_T_replaceValue_0 : decode b_T_replaceValue 0 = .ok (.aload_n 0, 1) := by decide +kernel
theorem d_T_replaceValue_1 : decode b_T_replaceValue 1 = .ok (.getfield 19, 3) := by decide +kernel
theorem d_T_replaceValue_4 : decode b_T_replaceValue 4 = .ok (.iload_n 1, 1) := by decide +kernel
theorem d_T_replaceValue_5 : decode b_T_replaceValue 5 = .ok (.iaload, 1) := by decide +kernel
theorem d_T_replaceValue_6 : decode b_T_replaceValue 6 = .ok (.istore_n 3, 1) := by decide +kernel
theorem d_T_replaceValue_7 : decode b_T_replaceValue 7 = .ok (.aload_n 0, 1) := by decide +kernel
theorem d_T_replaceValue_8 : decode b_T_replaceValue 8 = .ok (.getfield 19, 3) := by decide +kernel
theorem d_T_replaceValue_11 : decode b_T_replaceValue 11 = .ok (.iload_n 1, 1) := by decide +kernel
theorem d_T_replaceValue_12 : decode b_T_replaceValue 12 = .ok (.iload_n 2, 1) := by decide +kernel
theorem d_T_replaceValue_13 : decode b_T_replaceValue 13 = .ok (.iastore, 1) := by decide +kernel
theorem d_T_replaceValue_14 : decode b_T_replaceValue 14 = .ok (.iload_n 3, 1) := by decide +kernel
theorem d_T_replaceValue_15 : decode b_T_replaceValue 15 = .ok (.ireturn, 1) := by decide +kernel
theorem cal_T_replaceValue : am_cal y_T_replaceValue b_T_replaceValue 4 ((Option.some FieldType.int)) 2 := ⟨Or.inl wx_416, wx_18, by decide, by decide +kernel⟩
abbrev y_S_tested : MethodName := ⟨"BillShares", "tested", "(II)I"⟩
abbrev b_S_tested : ByteArray := prog_1_method_7_code
theorem d_S_tested_0 : decode b_S_tested 0 = .ok (.aload_n 0, 1) := by decide +kernel
theorem d_S_tested_1 : decode b_S_tested 1 = .ok (.iload_n 1, 1) := by decide +kernel
theorem d_S_tested_2 : decode b_S_tested 2 = .ok (.invokevirtual 93, 3) := by decide +kernel
theorem d_S_tested_5 : decode b_S_tested 5 = .ok (.astore_n 3, 1) := by decide +kernel
theorem d_S_tested_6 : decode b_S_tested 6 = .ok (.iload_n 2, 1) := by decide +kernel
theorem d_S_tested_7 : decode b_S_tested 7 = .ok (.invokestatic 77, 3) := by decide +kernel
theorem d_S_tested_10 : decode b_S_tested 10 = .ok (.aload_n 3, 1) := by decide +kernel
theorem d_S_tested_11 : decode b_S_tested 11 = .ok (.getfield 113, 3) := by decide +kernel
theorem d_S_tested_14 : decode b_S_tested 14 = .ok (.istore 4, 2) := by decide +kernel
theorem d_S_tested_16 : decode b_S_tested 16 = .ok (.aload_n 3, 1) := by decide +kernel
theorem d_S_tested_17 : decode b_S_tested 17 = .ok (.iload_n 2, 1) := by decide +kernel
theorem d_S_tested_18 : decode b_S_tested 18 = .ok (.putfield 113, 3) := by decide +kernel
theorem d_S_tested_21 : decode b_S_tested 21 = .ok (.iload 4, 2) := by decide +kernel
theorem d_S_tested_23 : decode b_S_tested 23 = .ok (.ireturn, 1) := by decide +kernel
theorem cal_S_tested : am_cal y_S_tested b_S_tested 5 ((Option.some FieldType.int)) 2 := ⟨Or.inl wx_423, wx_1, by decide, by decide +kernel⟩
abbrev y_S_cost : MethodName := ⟨"BillShares", "cost", "(III)I"⟩
abbrev b_S_cost : ByteArray := prog_1_method_8_code
theorem d_S_cost_0 : decode b_S_cost 0 = .ok (.iload_n 1, 1) := by decide +kernel
theorem d_S_cost_1 : decode b_S_cost 1 = .ok (.invokestatic 73, 3) := by decide +kernel
theorem d_S_cost_4 : decode b_S_cost 4 = .ok (.iload_n 2, 1) := by decide +kernel
theorem d_S_cost_5 : decode b_S_cost 5 = .ok (.invokestatic 117, 3) := by decide +kernel
theorem d_S_cost_8 : decode b_S_cost 8 = .ok (.iload_n 3, 1) := by decide +kernel
theorem d_S_cost_9 : decode b_S_cost 9 = .ok (.iconst 0, 1) := by decide +kernel
theorem d_S_cost_10 : decode b_S_cost 10 = .ok (.ldc 120, 2) := by decide +kernel
theorem d_S_cost_12 : decode b_S_cost 12 = .ok (.invokestatic 38, 3) := by decide +kernel
theorem d_S_cost_15 : decode b_S_cost 15 = .ok (.iload_n 1, 1) := by decide +kernel
theorem d_S_cost_16 : decode b_S_cost 16 = .ok (.bipush 10, 2) := by decide +kernel
theorem d_S_cost_18 : decode b_S_cost 18 = .ok (.imul, 1) := by decide +kernel
theorem d_S_cost_19 : decode b_S_cost 19 = .ok (.iload_n 2, 1) := by decide +kernel
theorem d_S_cost_20 : decode b_S_cost 20 = .ok (.iadd, 1) := by decide +kernel
theorem d_S_cost_21 : decode b_S_cost 21 = .ok (.istore 4, 2) := by decide +kernel
theorem d_S_cost_23 : decode b_S_cost 23 = .ok (.aload_n 0, 1) := by decide +kernel
theorem d_S_cost_24 : decode b_S_cost 24 = .ok (.getfield 22, 3) := by decide +kernel
theorem d_S_cost_27 : decode b_S_cost 27 = .ok (.iload 4, 2) := by decide +kernel
theorem d_S_cost_29 : decode b_S_cost 29 = .ok (.iaload, 1) := by decide +kernel
theorem d_S_cost_30 : decode b_S_cost 30 = .ok (.istore 5, 2) := by decide +kernel
theorem d_S_cost_32 : decode b_S_cost 32 = .ok (.aload_n 0, 1) := by decide +kernel
theorem d_S_cost_33 : decode b_S_cost 33 = .ok (.getfield 22, 3) := by decide +kernel
theorem d_S_cost_36 : decode b_S_cost 36 = .ok (.iload 4, 2) := by decide +kernel
theorem d_S_cost_38 : decode b_S_cost 38 = .ok (.iload_n 3, 1) := by decide +kernel
theorem d_S_cost_39 : decode b_S_cost 39 = .ok (.iastore, 1) := by decide +kernel
theorem d_S_cost_40 : decode b_S_cost 40 = .ok (.iload 5, 2) := by decide +kernel
theorem d_S_cost_42 : decode b_S_cost 42 = .ok (.ireturn, 1) := by decide +kernel
theorem cal_S_cost : am_cal y_S_cost b_S_cost 6 ((Option.some FieldType.int)) 3 := ⟨Or.inl wx_430, wx_1, by decide, by decide +kernel⟩
abbrev y_S_checkYear : MethodName := ⟨"BillShares", "checkYear", "(I)V"⟩
abbrev b_S_checkYear : ByteArray := prog_1_method_23_code
theorem d_S_checkYear_0 : decode b_S_checkYear 0 = .ok (.iload_n 0, 1) := by decide +kernel
theorem d_S_checkYear_1 : decode b_S_checkYear 1 = .ok (.iconst 0, 1) := by decide +kernel
theorem d_S_checkYear_2 : decode b_S_checkYear 2 = .ok (.bipush 9, 2) := by decide +kernel
theorem d_S_checkYear_4 : decode b_S_checkYear 4 = .ok (.invokestatic 38, 3) := by decide +kernel
theorem d_S_checkYear_7 : decode b_S_checkYear 7 = .ok (.return_, 1) := by decide +kernel
theorem cal_S_checkYear : am_cal y_S_checkYear b_S_checkYear 1 ((Option.none : Option FieldType)) 1 := ⟨Or.inl wx_433, wx_1, by decide, by decide +kernel⟩
abbrev y_S_base : MethodName := ⟨"BillShares", "base", "(II)I"⟩
abbrev b_S_base : ByteArray := prog_1_method_9_code
theorem d_S_base_0 : decode b_S_base 0 = .ok (.iload_n 1, 1) := by decide +kernel
theorem d_S_base_1 : decode b_S_base 1 = .ok (.invokestatic 73, 3) := by decide +kernel
theorem d_S_base_4 : decode b_S_base 4 = .ok (.iload_n 2, 1) := by decide +kernel
theorem d_S_base_5 : decode b_S_base 5 = .ok (.iconst 0, 1) := by decide +kernel
theorem d_S_base_6 : decode b_S_base 6 = .ok (.bipush 100, 2) := by decide +kernel
theorem d_S_base_8 : decode b_S_base 8 = .ok (.invokestatic 38, 3) := by decide +kernel
theorem d_S_base_11 : decode b_S_base 11 = .ok (.aload_n 0, 1) := by decide +kernel
theorem d_S_base_12 : decode b_S_base 12 = .ok (.getfield 26, 3) := by decide +kernel
theorem d_S_base_15 : decode b_S_base 15 = .ok (.iload_n 1, 1) := by decide +kernel
theorem d_S_base_16 : decode b_S_base 16 = .ok (.iaload, 1) := by decide +kernel
theorem d_S_base_17 : decode b_S_base 17 = .ok (.istore_n 3, 1) := by decide +kernel
theorem d_S_base_18 : decode b_S_base 18 = .ok (.aload_n 0, 1) := by decide +kernel
theorem d_S_base_19 : decode b_S_base 19 = .ok (.getfield 26, 3) := by decide +kernel
theorem d_S_base_22 : decode b_S_base 22 = .ok (.iload_n 1, 1) := by decide +kernel
theorem d_S_base_23 : decode b_S_base 23 = .ok (.iload_n 2, 1) := by decide +kernel
theorem d_S_base_24 : decode b_S_base 24 = .ok (.iastore, 1) := by decide +kernel
theorem d_S_base_25 : decode b_S_base 25 = .ok (.iload_n 3, 1) := by decide +kernel
theorem d_S_base_26 : decode b_S_base 26 = .ok (.ireturn, 1) := by decide +kernel
theorem cal_S_base : am_cal y_S_base b_S_base 4 ((Option.some FieldType.int)) 2 := ⟨Or.inl wx_441, wx_1, by decide, by decide +kernel⟩
abbrev y_S_moves : MethodName := ⟨"BillShares", "moves", "(II)I"⟩
abbrev b_S_moves : ByteArray := prog_1_method_10_code
theorem d_S_moves_0 : decode b_S_moves 0 = .ok (.aload_n 0, 1) := by decide +kernel
theorem d_S_moves_1 : decode b_S_moves 1 = .ok (.iload_n 1, 1) := by decide +kernel
theorem d_S_moves_2 : decode b_S_moves 2 = .ok (.invokevirtual 69, 3) := by decide +kernel
theorem d_S_moves_5 : decode b_S_moves 5 = .ok (.astore_n 3, 1) := by decide +kernel
theorem d_S_moves_6 : decode b_S_moves 6 = .ok (.iload_n 2, 1) := by decide +kernel
theorem d_S_moves_7 : decode b_S_moves 7 = .ok (.invokestatic 77, 3) := by decide +kernel
theorem d_S_moves_10 : decode b_S_moves 10 = .ok (.iload_n 2, 1) := by decide +kernel
theorem d_S_moves_11 : decode b_S_moves 11 = .ok (.aload_n 3, 1) := by decide +kernel
theorem d_S_moves_12 : decode b_S_moves 12 = .ok (.invokevirtual 121, 3) := by decide +kernel
theorem d_S_moves_15 : decode b_S_moves 15 = .ok (.if_icmp .gt 13, 3) := by decide +kernel
theorem d_S_moves_18 : decode b_S_moves 18 = .ok (.new 104, 3) := by decide +kernel
theorem d_S_moves_21 : decode b_S_moves 21 = .ok (.dup, 1) := by decide +kernel
theorem d_S_moves_22 : decode b_S_moves 22 = .ok (.ldc 124, 2) := by decide +kernel
theorem d_S_moves_24 : decode b_S_moves 24 = .ok (.invokespecial 108, 3) := by decide +kernel
theorem d_S_moves_27 : decode b_S_moves 27 = .ok (.athrow, 1) := by decide +kernel
theorem d_S_moves_28 : decode b_S_moves 28 = .ok (.aload_n 3, 1) := by decide +kernel
theorem d_S_moves_29 : decode b_S_moves 29 = .ok (.getfield 126, 3) := by decide +kernel
theorem d_S_moves_32 : decode b_S_moves 32 = .ok (.bipush 12, 2) := by decide +kernel
theorem d_S_moves_34 : decode b_S_moves 34 = .ok (.if_icmp .lt 13, 3) := by decide +kernel
theorem d_S_moves_37 : decode b_S_moves 37 = .ok (.new 46, 3) := by decide +kernel
theorem d_S_moves_40 : decode b_S_moves 40 = .ok (.dup, 1) := by decide +kernel
theorem d_S_moves_41 : decode b_S_moves 41 = .ok (.ldc 129, 2) := by decide +kernel
theorem d_S_moves_43 : decode b_S_moves 43 = .ok (.invokespecial 50, 3) := by decide +kernel
theorem d_S_moves_46 : decode b_S_moves 46 = .ok (.athrow, 1) := by decide +kernel
theorem d_S_moves_47 : decode b_S_moves 47 = .ok (.aload_n 3, 1) := by decide +kernel
theorem d_S_moves_48 : decode b_S_moves 48 = .ok (.iload_n 2, 1) := by decide +kernel
theorem d_S_moves_49 : decode b_S_moves 49 = .ok (.invokevirtual 131, 3) := by decide +kernel
theorem d_S_moves_52 : decode b_S_moves 52 = .ok (.ireturn, 1) := by decide +kernel
theorem cal_S_moves : am_cal y_S_moves b_S_moves 4 ((Option.some FieldType.int)) 2 := ⟨Or.inl wx_448, wx_1, by decide, by decide +kernel⟩
abbrev y_F_latestMove : MethodName := ⟨"BillShares$Flat", "latestMove", "()I"⟩
abbrev b_F_latestMove : ByteArray := prog_3_method_2_code
theorem d_F_latestMove_0 : decode b_F_latestMove 0 = .ok (.aload_n 0, 1) := by decide +kernel
theorem d_F_latestMove_1 : decode b_F_latestMove 1 = .ok (.aload_n 0, 1) := by decide +kernel
theorem d_F_latestMove_2 : decode b_F_latestMove 2 = .ok (.getfield 22, 3) := by decide +kernel
theorem d_F_latestMove_5 : decode b_F_latestMove 5 = .ok (.iconst 1, 1) := by decide +kernel
theorem d_F_latestMove_6 : decode b_F_latestMove 6 = .ok (.isub, 1) := by decide +kernel
theorem d_F_latestMove_7 : decode b_F_latestMove 7 = .ok (.invokevirtual 42, 3) := by decide +kernel
theorem d_F_latestMove_10 : decode b_F_latestMove 10 = .ok (.ireturn, 1) := by decide +kernel
theorem cal_F_latestMove : am_cal y_F_latestMove b_F_latestMove 1 ((Option.some FieldType.int)) 0 := ⟨Or.inl wx_452, wx_12, by decide, by decide +kernel⟩
abbrev y_F_movedIn : MethodName := ⟨"BillShares$Flat", "movedIn", "(I)I"⟩
abbrev b_F_movedIn : ByteArray := prog_3_method_4_code
theorem d_F_movedIn_0 : decode b_F_movedIn 0 = .ok (.iload_n 1, 1) := by decide +kernel
theorem d_F_movedIn_1 : decode b_F_movedIn 1 = .ok (.ifCond .lt 20, 3) := by decide +kernel
theorem d_F_movedIn_4 : decode b_F_movedIn 4 = .ok (.iload_n 1, 1) := by decide +kernel
theorem d_F_movedIn_5 : decode b_F_movedIn 5 = .ok (.aload_n 0, 1) := by decide +kernel
theorem d_F_movedIn_6 : decode b_F_movedIn 6 = .ok (.getfield 22, 3) := by decide +kernel
theorem d_F_movedIn_9 : decode b_F_movedIn 9 = .ok (.if_icmp .ge 12, 3) := by decide +kernel
theorem d_F_movedIn_12 : decode b_F_movedIn 12 = .ok (.aload_n 0, 1) := by decide +kernel
theorem d_F_movedIn_13 : decode b_F_movedIn 13 = .ok (.getfield 18, 3) := by decide +kernel
theorem d_F_movedIn_16 : decode b_F_movedIn 16 = .ok (.iload_n 1, 1) := by decide +kernel
theorem d_F_movedIn_17 : decode b_F_movedIn 17 = .ok (.iaload, 1) := by decide +kernel
theorem d_F_movedIn_18 : decode b_F_movedIn 18 = .ok (.goto 4, 3) := by decide +kernel
theorem d_F_movedIn_21 : decode b_F_movedIn 21 = .ok (.iconst 0, 1) := by decide +kernel
theorem d_F_movedIn_22 : decode b_F_movedIn 22 = .ok (.ireturn, 1) := by decide +kernel
theorem cal_F_movedIn : am_cal y_F_movedIn b_F_movedIn 2 ((Option.some FieldType.int)) 1 := ⟨Or.inl wx_456, wx_12, by decide, by decide +kernel⟩
abbrev y_F_takeIn : MethodName := ⟨"BillShares$Flat", "takeIn", "(I)I"⟩
abbrev b_F_takeIn : ByteArray := prog_3_method_3_code
theorem d_F_takeIn_0 : decode b_F_takeIn 0 = .ok (.aload_n 0, 1) := by decide +kernel
theorem d_F_takeIn_1 : decode b_F_takeIn 1 = .ok (.getfield 22, 3) := by decide +kernel
theorem d_F_takeIn_4 : decode b_F_takeIn 4 = .ok (.aload_n 0, 1) := by decide +kernel
theorem d_F_takeIn_5 : decode b_F_takeIn 5 = .ok (.getfield 18, 3) := by decide +kernel
theorem d_F_takeIn_8 : decode b_F_takeIn 8 = .ok (.arraylength, 1) := by decide +kernel
theorem d_F_takeIn_9 : decode b_F_takeIn 9 = .ok (.if_icmp .ge 23, 3) := by decide +kernel
theorem d_F_takeIn_12 : decode b_F_takeIn 12 = .ok (.aload_n 0, 1) := by decide +kernel
theorem d_F_takeIn_13 : decode b_F_takeIn 13 = .ok (.getfield 18, 3) := by decide +kernel
theorem d_F_takeIn_16 : decode b_F_takeIn 16 = .ok (.aload_n 0, 1) := by decide +kernel
theorem d_F_takeIn_17 : decode b_F_takeIn 17 = .ok (.getfield 22, 3) := by decide +kernel
theorem d_F_takeIn_20 : decode b_F_takeIn 20 = .ok (.iload_n 1, 1) := by decide +kernel
theorem d_F_takeIn_21 : decode b_F_takeIn 21 = .ok (.iastore, 1) := by decide +kernel
theorem d_F_takeIn_22 : decode b_F_takeIn 22 = .ok (.aload_n 0, 1) := by decide +kernel
theorem d_F_takeIn_23 : decode b_F_takeIn 23 = .ok (.dup, 1) := by decide +kernel
theorem d_F_takeIn_24 : decode b_F_takeIn 24 = .ok (.getfield 22, 3) := by decide +kernel
theorem d_F_takeIn_27 : decode b_F_takeIn 27 = .ok (.iconst 1, 1) := by decide +kernel
theorem d_F_takeIn_28 : decode b_F_takeIn 28 = .ok (.iadd, 1) := by decide +kernel
theorem d_F_takeIn_29 : decode b_F_takeIn 29 = .ok (.putfield 22, 3) := by decide +kernel
theorem d_F_takeIn_32 : decode b_F_takeIn 32 = .ok (.aload_n 0, 1) := by decide +kernel
theorem d_F_takeIn_33 : decode b_F_takeIn 33 = .ok (.getfield 22, 3) := by decide +kernel
theorem d_F_takeIn_36 : decode b_F_takeIn 36 = .ok (.iconst 1, 1) := by decide +kernel
theorem d_F_takeIn_37 : decode b_F_takeIn 37 = .ok (.isub, 1) := by decide +kernel
theorem d_F_takeIn_38 : decode b_F_takeIn 38 = .ok (.ireturn, 1) := by decide +kernel
theorem cal_F_takeIn : am_cal y_F_takeIn b_F_takeIn 2 ((Option.some FieldType.int)) 1 := ⟨Or.inl wx_462, wx_12, by decide, by decide +kernel⟩
abbrev y_S_prepaid : MethodName := ⟨"BillShares", "prepaid", "(III)J"⟩
abbrev b_S_prepaid : ByteArray := prog_1_method_11_code
theorem d_S_prepaid_0 : decode b_S_prepaid 0 = .ok (.aload_n 0, 1) := by decide +kernel
theorem d_S_prepaid_1 : decode b_S_prepaid 1 = .ok (.iload_n 1, 1) := by decide +kernel
theorem d_S_prepaid_2 : decode b_S_prepaid 2 = .ok (.invokevirtual 69, 3) := by decide +kernel
theorem d_S_prepaid_5 : decode b_S_prepaid 5 = .ok (.astore 4, 2) := by decide +kernel
theorem d_S_prepaid_7 : decode b_S_prepaid 7 = .ok (.iload_n 2, 1) := by decide +kernel
theorem d_S_prepaid_8 : decode b_S_prepaid 8 = .ok (.invokestatic 117, 3) := by decide +kernel
theorem d_S_prepaid_11 : decode b_S_prepaid 11 = .ok (.iload_n 3, 1) := by decide +kernel
theorem d_S_prepaid_12 : decode b_S_prepaid 12 = .ok (.iconst 1, 1) := by decide +kernel
theorem d_S_prepaid_13 : decode b_S_prepaid 13 = .ok (.ldc 120, 2) := by decide +kernel
theorem d_S_prepaid_15 : decode b_S_prepaid 15 = .ok (.invokestatic 38, 3) := by decide +kernel
theorem d_S_prepaid_18 : decode b_S_prepaid 18 = .ok (.aload 4, 2) := by decide +kernel
theorem d_S_prepaid_20 : decode b_S_prepaid 20 = .ok (.getfield 134, 3) := by decide +kernel
theorem d_S_prepaid_23 : decode b_S_prepaid 23 = .ok (.iload_n 2, 1) := by decide +kernel
theorem d_S_prepaid_24 : decode b_S_prepaid 24 = .ok (.dup2, 1) := by decide +kernel
theorem d_S_prepaid_25 : decode b_S_prepaid 25 = .ok (.laload, 1) := by decide +kernel
theorem d_S_prepaid_26 : decode b_S_prepaid 26 = .ok (.iload_n 3, 1) := by decide +kernel
theorem d_S_prepaid_27 : decode b_S_prepaid 27 = .ok (.i2l, 1) := by decide +kernel
theorem d_S_prepaid_28 : decode b_S_prepaid 28 = .ok (.ladd, 1) := by decide +kernel
theorem d_S_prepaid_29 : decode b_S_prepaid 29 = .ok (.lastore, 1) := by decide +kernel
theorem d_S_prepaid_30 : decode b_S_prepaid 30 = .ok (.aload 4, 2) := by decide +kernel
theorem d_S_prepaid_32 : decode b_S_prepaid 32 = .ok (.getfield 134, 3) := by decide +kernel
theorem d_S_prepaid_35 : decode b_S_prepaid 35 = .ok (.iload_n 2, 1) := by decide +kernel
theorem d_S_prepaid_36 : decode b_S_prepaid 36 = .ok (.laload, 1) := by decide +kernel
theorem d_S_prepaid_37 : decode b_S_prepaid 37 = .ok (.lreturn, 1) := by decide +kernel
theorem cal_S_prepaid : am_cal y_S_prepaid b_S_prepaid 5 ((Option.some FieldType.long)) 3 := ⟨Or.inl wx_469, wx_1, by decide, by decide +kernel⟩
abbrev y_S_run : MethodName := ⟨"BillShares", "run", "(I)I"⟩
abbrev b_S_run : ByteArray := prog_1_method_12_code
theorem d_S_run_0 : decode b_S_run 0 = .ok (.iload_n 1, 1) := by decide +kernel
theorem d_S_run_1 : decode b_S_run 1 = .ok (.invokestatic 117, 3) := by decide +kernel
theorem d_S_run_4 : decode b_S_run 4 = .ok (.aload_n 0, 1) := by decide +kernel
theorem d_S_run_5 : decode b_S_run 5 = .ok (.getfield 12, 3) := by decide +kernel
theorem d_S_run_8 : decode b_S_run 8 = .ok (.invokevirtual 138, 3) := by decide +kernel
theorem d_S_run_11 : decode b_S_run 11 = .ok (.ifCond .ne 14, 3) := by decide +kernel
theorem d_S_run_14 : decode b_S_run 14 = .ok (.aload_n 0, 1) := by decide +kernel
theorem d_S_run_15 : decode b_S_run 15 = .ok (.getfield 29, 3) := by decide +kernel
theorem d_S_run_18 : decode b_S_run 18 = .ok (.iload_n 1, 1) := by decide +kernel
theorem d_S_run_19 : decode b_S_run 19 = .ok (.iaload, 1) := by decide +kernel
theorem d_S_run_20 : decode b_S_run 20 = .ok (.bipush 50, 2) := by decide +kernel
theorem d_S_run_22 : decode b_S_run 22 = .ok (.if_icmp .lt 13, 3) := by decide +kernel
theorem d_S_run_25 : decode b_S_run 25 = .ok (.new 46, 3) := by decide +kernel
theorem d_S_run_28 : decode b_S_run 28 = .ok (.dup, 1) := by decide +kernel
theorem d_S_run_29 : decode b_S_run 29 = .ok (.ldc 142, 2) := by decide +kernel
theorem d_S_run_31 : decode b_S_run 31 = .ok (.invokespecial 50, 3) := by decide +kernel
theorem d_S_run_34 : decode b_S_run 34 = .ok (.athrow, 1) := by decide +kernel
theorem d_S_run_35 : decode b_S_run 35 = .ok (.aload_n 0, 1) := by decide +kernel
theorem d_S_run_36 : decode b_S_run 36 = .ok (.iload_n 1, 1) := by decide +kernel
theorem d_S_run_37 : decode b_S_run 37 = .ok (.invokevirtual 144, 3) := by decide +kernel
theorem d_S_run_40 : decode b_S_run 40 = .ok (.iconst 0, 1) := by decide +kernel
theorem d_S_run_41 : decode b_S_run 41 = .ok (.istore_n 2, 1) := by decide +kernel
theorem d_S_run_42 : decode b_S_run 42 = .ok (.iload_n 2, 1) := by decide +kernel
theorem d_S_run_43 : decode b_S_run 43 = .ok (.iconst 4, 1) := by decide +kernel
theorem d_S_run_44 : decode b_S_run 44 = .ok (.if_icmp .ge 15, 3) := by decide +kernel
theorem d_S_run_47 : decode b_S_run 47 = .ok (.aload_n 0, 1) := by decide +kernel
theorem d_S_run_48 : decode b_S_run 48 = .ok (.iload_n 2, 1) := by decide +kernel
theorem d_S_run_49 : decode b_S_run 49 = .ok (.iload_n 1, 1) := by decide +kernel
theorem d_S_run_50 : decode b_S_run 50 = .ok (.invokevirtual 147, 3) := by decide +kernel
theorem d_S_run_53 : decode b_S_run 53 = .ok (.iinc 2 1, 3) := by decide +kernel
theorem d_S_run_56 : decode b_S_run 56 = .ok (.goto (-14), 3) := by decide +kernel
theorem d_S_run_59 : decode b_S_run 59 = .ok (.aload_n 0, 1) := by decide +kernel
theorem d_S_run_60 : decode b_S_run 60 = .ok (.getfield 29, 3) := by decide +kernel
theorem d_S_run_63 : decode b_S_run 63 = .ok (.iload_n 1, 1) := by decide +kernel
theorem d_S_run_64 : decode b_S_run 64 = .ok (.dup2, 1) := by decide +kernel
theorem d_S_run_65 : decode b_S_run 65 = .ok (.iaload, 1) := by decide +kernel
theorem d_S_run_66 : decode b_S_run 66 = .ok (.iconst 1, 1) := by decide +kernel
theorem d_S_run_67 : decode b_S_run 67 = .ok (.iadd, 1) := by decide +kernel
theorem d_S_run_68 : decode b_S_run 68 = .ok (.iastore, 1) := by decide +kernel
theorem d_S_run_69 : decode b_S_run 69 = .ok (.aload_n 0, 1) := by decide +kernel
theorem d_S_run_70 : decode b_S_run 70 = .ok (.getfield 29, 3) := by decide +kernel
theorem d_S_run_73 : decode b_S_run 73 = .ok (.iload_n 1, 1) := by decide +kernel
theorem d_S_run_74 : decode b_S_run 74 = .ok (.iaload, 1) := by decide +kernel
theorem d_S_run_75 : decode b_S_run 75 = .ok (.ireturn, 1) := by decide +kernel
theorem cal_S_run : am_cal y_S_run b_S_run 3 ((Option.some FieldType.int)) 1 := ⟨Or.inl wx_476, wx_1, by decide, by decide +kernel⟩
abbrev y_S_openBills : MethodName := ⟨"BillShares", "openBills", "(I)V"⟩
abbrev b_S_openBills : ByteArray := prog_1_method_33_code
theorem d_S_openBills_0 : decode b_S_openBills 0 = .ok (.iconst 0, 1) := by decide +kernel
theorem d_S_openBills_1 : decode b_S_openBills 1 = .ok (.istore_n 2, 1) := by decide +kernel
theorem d_S_openBills_2 : decode b_S_openBills 2 = .ok (.iload_n 2, 1) := by decide +kernel
theorem d_S_openBills_3 : decode b_S_openBills 3 = .ok (.aload_n 0, 1) := by decide +kernel
theorem d_S_openBills_4 : decode b_S_openBills 4 = .ok (.getfield 12, 3) := by decide +kernel
theorem d_S_openBills_7 : decode b_S_openBills 7 = .ok (.invokevirtual 42, 3) := by decide +kernel
theorem d_S_openBills_10 : decode b_S_openBills 10 = .ok (.if_icmp .ge 33, 3) := by decide +kernel
theorem d_S_openBills_13 : decode b_S_openBills 13 = .ok (.aload_n 0, 1) := by decide +kernel
theorem d_S_openBills_14 : decode b_S_openBills 14 = .ok (.getfield 12, 3) := by decide +kernel
theorem d_S_openBills_17 : decode b_S_openBills 17 = .ok (.iload_n 2, 1) := by decide +kernel
theorem d_S_openBills_18 : decode b_S_openBills 18 = .ok (.invokevirtual 204, 3) := by decide +kernel
theorem d_S_openBills_21 : decode b_S_openBills 21 = .ok (.checkcast 53, 3) := by decide +kernel
theorem d_S_openBills_24 : decode b_S_openBills 24 = .ok (.iload_n 1, 1) := by decide +kernel
theorem d_S_openBills_25 : decode b_S_openBills 25 = .ok (.invokevirtual 235, 3) := by decide +kernel
theorem d_S_openBills_28 : decode b_S_openBills 28 = .ok (.astore_n 3, 1) := by decide +kernel
theorem d_S_openBills_29 : decode b_S_openBills 29 = .ok (.aload_n 3, 1) := by decide +kernel
theorem d_S_openBills_30 : decode b_S_openBills 30 = .ok (.aload_n 3, 1) := by decide +kernel
theorem d_S_openBills_31 : decode b_S_openBills 31 = .ok (.invokevirtual 179, 3) := by decide +kernel
theorem d_S_openBills_34 : decode b_S_openBills 34 = .ok (.putfield 190, 3) := by decide +kernel
theorem d_S_openBills_37 : decode b_S_openBills 37 = .ok (.iinc 2 1, 3) := by decide +kernel
theorem d_S_openBills_40 : decode b_S_openBills 40 = .ok (.goto (-38), 3) := by decide +kernel
theorem d_S_openBills_43 : decode b_S_openBills 43 = .ok (.return_, 1) := by decide +kernel
theorem cal_S_openBills : am_cal y_S_openBills b_S_openBills 4 ((Option.none : Option FieldType)) 1 := ⟨Or.inl wx_485, wx_1, by decide, by decide +kernel⟩
abbrev y_F_billOf : MethodName := ⟨"BillShares$Flat", "billOf", "(I)LBillShares$Bill;"⟩
abbrev b_F_billOf : ByteArray := prog_3_method_7_code
theorem d_F_billOf_0 : decode b_F_billOf 0 = .ok (.aload_n 0, 1) := by decide +kernel
theorem d_F_billOf_1 : decode b_F_billOf 1 = .ok (.getfield 32, 3) := by decide +kernel
theorem d_F_billOf_4 : decode b_F_billOf 4 = .ok (.iload_n 1, 1) := by decide +kernel
theorem d_F_billOf_5 : decode b_F_billOf 5 = .ok (.aaload, 1) := by decide +kernel
theorem d_F_billOf_6 : decode b_F_billOf 6 = .ok (.ifnonnull 16, 3) := by decide +kernel
theorem d_F_billOf_9 : decode b_F_billOf 9 = .ok (.aload_n 0, 1) := by decide +kernel
theorem d_F_billOf_10 : decode b_F_billOf 10 = .ok (.getfield 32, 3) := by decide +kernel
theorem d_F_billOf_13 : decode b_F_billOf 13 = .ok (.iload_n 1, 1) := by decide +kernel
theorem d_F_billOf_14 : decode b_F_billOf 14 = .ok (.new 30, 3) := by decide +kernel
theorem d_F_billOf_17 : decode b_F_billOf 17 = .ok (.dup, 1) := by decide +kernel
theorem d_F_billOf_18 : decode b_F_billOf 18 = .ok (.invokespecial 49, 3) := by decide +kernel
theorem d_F_billOf_21 : decode b_F_billOf 21 = .ok (.aastore, 1) := by decide +kernel
theorem d_F_billOf_22 : decode b_F_billOf 22 = .ok (.aload_n 0, 1) := by decide +kernel
theorem d_F_billOf_23 : decode b_F_billOf 23 = .ok (.getfield 32, 3) := by decide +kernel
theorem d_F_billOf_26 : decode b_F_billOf 26 = .ok (.iload_n 1, 1) := by decide +kernel
theorem d_F_billOf_27 : decode b_F_billOf 27 = .ok (.aaload, 1) := by decide +kernel
theorem d_F_billOf_28 : decode b_F_billOf 28 = .ok (.areturn, 1) := by decide +kernel
theorem cal_F_billOf : am_cal y_F_billOf b_F_billOf 2 ((Option.some (FieldType.object "BillShares$Bill"))) 1 := ⟨Or.inl wx_489, wx_12, by decide, by decide +kernel⟩
abbrev y_B_init : MethodName := ⟨"BillShares$Bill", "<init>", "()V"⟩
abbrev b_B_init : ByteArray := prog_2_method_1_code
theorem d_B_init_0 : decode b_B_init 0 = .ok (.aload_n 0, 1) := by decide +kernel
theorem d_B_init_1 : decode b_B_init 1 = .ok (.invokespecial 3, 3) := by decide +kernel
theorem d_B_init_4 : decode b_B_init 4 = .ok (.aload_n 0, 1) := by decide +kernel
theorem d_B_init_5 : decode b_B_init 5 = .ok (.iconst 4, 1) := by decide +kernel
theorem d_B_init_6 : decode b_B_init 6 = .ok (.newarray .long, 2) := by decide +kernel
theorem d_B_init_8 : decode b_B_init 8 = .ok (.putfield 9, 3) := by decide +kernel
theorem d_B_init_11 : decode b_B_init 11 = .ok (.aload_n 0, 1) := by decide +kernel
theorem d_B_init_12 : decode b_B_init 12 = .ok (.iconst 4, 1) := by decide +kernel
theorem d_B_init_13 : decode b_B_init 13 = .ok (.newarray .long, 2) := by decide +kernel
theorem d_B_init_15 : decode b_B_init 15 = .ok (.putfield 15, 3) := by decide +kernel
theorem d_B_init_18 : decode b_B_init 18 = .ok (.aload_n 0, 1) := by decide +kernel
theorem d_B_init_19 : decode b_B_init 19 = .ok (.lconst 0, 1) := by decide +kernel
theorem d_B_init_20 : decode b_B_init 20 = .ok (.putfield 18, 3) := by decide +kernel
theorem d_B_init_23 : decode b_B_init 23 = .ok (.return_, 1) := by decide +kernel
theorem cal_B_init : am_cal y_B_init b_B_init 1 ((Option.none : Option FieldType)) 0 := ⟨Or.inl wx_493, wx_19, by decide, by decide +kernel⟩
abbrev y_B_total : MethodName := ⟨"BillShares$Bill", "total", "()J"⟩
abbrev b_B_total : ByteArray := prog_2_method_2_code
theorem d_B_total_0 : decode b_B_total 0 = .ok (.lconst 0, 1) := by decide +kernel
theorem d_B_total_1 : decode b_B_total 1 = .ok (.lstore_n 1, 1) := by decide +kernel
theorem d_B_total_2 : decode b_B_total 2 = .ok (.iconst 0, 1) := by decide +kernel
theorem d_B_total_3 : decode b_B_total 3 = .ok (.istore_n 3, 1) := by decide +kernel
theorem d_B_total_4 : decode b_B_total 4 = .ok (.iload_n 3, 1) := by decide +kernel
theorem d_B_total_5 : decode b_B_total 5 = .ok (.iconst 4, 1) := by decide +kernel
theorem d_B_total_6 : decode b_B_total 6 = .ok (.if_icmp .ge 25, 3) := by decide +kernel
theorem d_B_total_9 : decode b_B_total 9 = .ok (.lload_n 1, 1) := by decide +kernel
theorem d_B_total_10 : decode b_B_total 10 = .ok (.aload_n 0, 1) := by decide +kernel
theorem d_B_total_11 : decode b_B_total 11 = .ok (.getfield 9, 3) := by decide +kernel
theorem d_B_total_14 : decode b_B_total 14 = .ok (.iload_n 3, 1) := by decide +kernel
theorem d_B_total_15 : decode b_B_total 15 = .ok (.laload, 1) := by decide +kernel
theorem d_B_total_16 : decode b_B_total 16 = .ok (.aload_n 0, 1) := by decide +kernel
theorem d_B_total_17 : decode b_B_total 17 = .ok (.getfield 15, 3) := by decide +kernel
theorem d_B_total_20 : decode b_B_total 20 = .ok (.iload_n 3, 1) := by decide +kernel
theorem d_B_total_21 : decode b_B_total 21 = .ok (.laload, 1) := by decide +kernel
theorem d_B_total_22 : decode b_B_total 22 = .ok (.ladd, 1) := by decide +kernel
theorem d_B_total_23 : decode b_B_total 23 = .ok (.ladd, 1) := by decide +kernel
theorem d_B_total_24 : decode b_B_total 24 = .ok (.lstore_n 1, 1) := by decide +kernel
theorem d_B_total_25 : decode b_B_total 25 = .ok (.iinc 3 1, 3) := by decide +kernel
theorem d_B_total_28 : decode b_B_total 28 = .ok (.goto (-24), 3) := by decide +kernel
theorem d_B_total_31 : decode b_B_total 31 = .ok (.lload_n 1, 1) := by decide +kernel
theorem d_B_total_32 : decode b_B_total 32 = .ok (.lreturn, 1) := by decide +kernel
theorem cal_B_total : am_cal y_B_total b_B_total 4 ((Option.some FieldType.long)) 0 := ⟨Or.inl wx_511, wx_19, by decide, by decide +kernel⟩
abbrev y_S_shareOut : MethodName := ⟨"BillShares", "shareOut", "(II)V"⟩
abbrev b_S_shareOut : ByteArray := prog_1_method_34_code
theorem d_S_shareOut_0 : decode b_S_shareOut 0 = .ok (.aload_n 0, 1) := by decide +kernel
theorem d_S_shareOut_1 : decode b_S_shareOut 1 = .ok (.getfield 22, 3) := by decide +kernel
theorem d_S_shareOut_4 : decode b_S_shareOut 4 = .ok (.iload_n 1, 1) := by decide +kernel
theorem d_S_shareOut_5 : decode b_S_shareOut 5 = .ok (.bipush 10, 2) := by decide +kernel
theorem d_S_shareOut_7 : decode b_S_shareOut 7 = .ok (.imul, 1) := by decide +kernel
theorem d_S_shareOut_8 : decode b_S_shareOut 8 = .ok (.iload_n 2, 1) := by decide +kernel
theorem d_S_shareOut_9 : decode b_S_shareOut 9 = .ok (.iadd, 1) := by decide +kernel
theorem d_S_shareOut_10 : decode b_S_shareOut 10 = .ok (.iaload, 1) := by decide +kernel
theorem d_S_shareOut_11 : decode b_S_shareOut 11 = .ok (.i2l, 1) := by decide +kernel
theorem d_S_shareOut_12 : decode b_S_shareOut 12 = .ok (.lstore_n 3, 1) := by decide +kernel
theorem d_S_shareOut_13 : decode b_S_shareOut 13 = .ok (.lload_n 3, 1) := by decide +kernel
theorem d_S_shareOut_14 : decode b_S_shareOut 14 = .ok (.aload_n 0, 1) := by decide +kernel
theorem d_S_shareOut_15 : decode b_S_shareOut 15 = .ok (.getfield 26, 3) := by decide +kernel
theorem d_S_shareOut_18 : decode b_S_shareOut 18 = .ok (.iload_n 1, 1) := by decide +kernel
theorem d_S_shareOut_19 : decode b_S_shareOut 19 = .ok (.iaload, 1) := by decide +kernel
theorem d_S_shareOut_20 : decode b_S_shareOut 20 = .ok (.i2l, 1) := by decide +kernel
theorem d_S_shareOut_21 : decode b_S_shareOut 21 = .ok (.ldc2_w 239, 3) := by decide +kernel
theorem d_S_shareOut_24 : decode b_S_shareOut 24 = .ok (.invokestatic 241, 3) := by decide +kernel
theorem d_S_shareOut_27 : decode b_S_shareOut 27 = .ok (.lstore 5, 2) := by decide +kernel
theorem d_S_shareOut_29 : decode b_S_shareOut 29 = .ok (.aload_n 0, 1) := by decide +kernel
theorem d_S_shareOut_30 : decode b_S_shareOut 30 = .ok (.invokevirtual 245, 3) := by decide +kernel
theorem d_S_shareOut_33 : decode b_S_shareOut 33 = .ok (.aload_n 0, 1) := by decide +kernel
theorem d_S_shareOut_34 : decode b_S_shareOut 34 = .ok (.lload 5, 2) := by decide +kernel
theorem d_S_shareOut_36 : decode b_S_shareOut 36 = .ok (.invokevirtual 248, 3) := by decide +kernel
theorem d_S_shareOut_39 : decode b_S_shareOut 39 = .ok (.iconst 0, 1) := by decide +kernel
theorem d_S_shareOut_40 : decode b_S_shareOut 40 = .ok (.istore 7, 2) := by decide +kernel
theorem d_S_shareOut_42 : decode b_S_shareOut 42 = .ok (.iload 7, 2) := by decide +kernel
theorem d_S_shareOut_44 : decode b_S_shareOut 44 = .ok (.aload_n 0, 1) := by decide +kernel
theorem d_S_shareOut_45 : decode b_S_shareOut 45 = .ok (.getfield 12, 3) := by decide +kernel
theorem d_S_shareOut_48 : decode b_S_shareOut 48 = .ok (.invokevirtual 42, 3) := by decide +kernel
theorem d_S_shareOut_51 : decode b_S_shareOut 51 = .ok (.if_icmp .ge 39, 3) := by decide +kernel
theorem d_S_shareOut_54 : decode b_S_shareOut 54 = .ok (.aload_n 0, 1) := by decide +kernel
theorem d_S_shareOut_55 : decode b_S_shareOut 55 = .ok (.getfield 12, 3) := by decide +kernel
theorem d_S_shareOut_58 : decode b_S_shareOut 58 = .ok (.iload 7, 2) := by decide +kernel
theorem d_S_shareOut_60 : decode b_S_shareOut 60 = .ok (.invokevirtual 204, 3) := by decide +kernel
theorem d_S_shareOut_63 : decode b_S_shareOut 63 = .ok (.checkcast 53, 3) := by decide +kernel
theorem d_S_shareOut_66 : decode b_S_shareOut 66 = .ok (.astore 8, 2) := by decide +kernel
theorem d_S_shareOut_68 : decode b_S_shareOut 68 = .ok (.aload 8, 2) := by decide +kernel
theorem d_S_shareOut_70 : decode b_S_shareOut 70 = .ok (.iload_n 2, 1) := by decide +kernel
theorem d_S_shareOut_71 : decode b_S_shareOut 71 = .ok (.invokevirtual 235, 3) := by decide +kernel
theorem d_S_shareOut_74 : decode b_S_shareOut 74 = .ok (.getfield 171, 3) := by decide +kernel
theorem d_S_shareOut_77 : decode b_S_shareOut 77 = .ok (.iload_n 1, 1) := by decide +kernel
theorem d_S_shareOut_78 : decode b_S_shareOut 78 = .ok (.aload 8, 2) := by decide +kernel
theorem d_S_shareOut_80 : decode b_S_shareOut 80 = .ok (.getfield 252, 3) := by decide +kernel
theorem d_S_shareOut_83 : decode b_S_shareOut 83 = .ok (.lastore, 1) := by decide +kernel
theorem d_S_shareOut_84 : decode b_S_shareOut 84 = .ok (.iinc 7 1, 3) := by decide +kernel
theorem d_S_shareOut_87 : decode b_S_shareOut 87 = .ok (.goto (-45), 3) := by decide +kernel
theorem d_S_shareOut_90 : decode b_S_shareOut 90 = .ok (.aload_n 0, 1) := by decide +kernel
theorem d_S_shareOut_91 : decode b_S_shareOut 91 = .ok (.iload_n 1, 1) := by decide +kernel
theorem d_S_shareOut_92 : decode b_S_shareOut 92 = .ok (.iload_n 2, 1) := by decide +kernel
theorem d_S_shareOut_93 : decode b_S_shareOut 93 = .ok (.invokevirtual 255, 3) := by decide +kernel
theorem d_S_shareOut_96 : decode b_S_shareOut 96 = .ok (.aload_n 0, 1) := by decide +kernel
theorem d_S_shareOut_97 : decode b_S_shareOut 97 = .ok (.lload_n 3, 1) := by decide +kernel
theorem d_S_shareOut_98 : decode b_S_shareOut 98 = .ok (.lload 5, 2) := by decide +kernel
theorem d_S_shareOut_100 : decode b_S_shareOut 100 = .ok (.lsub, 1) := by decide +kernel
theorem d_S_shareOut_101 : decode b_S_shareOut 101 = .ok (.invokevirtual 248, 3) := by decide +kernel
theorem d_S_shareOut_104 : decode b_S_shareOut 104 = .ok (.iconst 0, 1) := by decide +kernel
theorem d_S_shareOut_105 : decode b_S_shareOut 105 = .ok (.istore 7, 2) := by decide +kernel
theorem d_S_shareOut_107 : decode b_S_shareOut 107 = .ok (.iload 7, 2) := by decide +kernel
theorem d_S_shareOut_109 : decode b_S_shareOut 109 = .ok (.aload_n 0, 1) := by decide +kernel
theorem d_S_shareOut_110 : decode b_S_shareOut 110 = .ok (.getfield 12, 3) := by decide +kernel
theorem d_S_shareOut_113 : decode b_S_shareOut 113 = .ok (.invokevirtual 42, 3) := by decide +kernel
theorem d_S_shareOut_116 : decode b_S_shareOut 116 = .ok (.if_icmp .ge 39, 3) := by decide +kernel
theorem d_S_shareOut_119 : decode b_S_shareOut 119 = .ok (.aload_n 0, 1) := by decide +kernel
theorem d_S_shareOut_120 : decode b_S_shareOut 120 = .ok (.getfield 12, 3) := by decide +kernel
theorem d_S_shareOut_123 : decode b_S_shareOut 123 = .ok (.iload 7, 2) := by decide +kernel
theorem d_S_shareOut_125 : decode b_S_shareOut 125 = .ok (.invokevirtual 204, 3) := by decide +kernel
theorem d_S_shareOut_128 : decode b_S_shareOut 128 = .ok (.checkcast 53, 3) := by decide +kernel
theorem d_S_shareOut_131 : decode b_S_shareOut 131 = .ok (.astore 8, 2) := by decide +kernel
theorem d_S_shareOut_133 : decode b_S_shareOut 133 = .ok (.aload 8, 2) := by decide +kernel
theorem d_S_shareOut_135 : decode b_S_shareOut 135 = .ok (.iload_n 2, 1) := by decide +kernel
theorem d_S_shareOut_136 : decode b_S_shareOut 136 = .ok (.invokevirtual 235, 3) := by decide +kernel
theorem d_S_shareOut_139 : decode b_S_shareOut 139 = .ok (.getfield 176, 3) := by decide +kernel
theorem d_S_shareOut_142 : decode b_S_shareOut 142 = .ok (.iload_n 1, 1) := by decide +kernel
theorem d_S_shareOut_143 : decode b_S_shareOut 143 = .ok (.aload 8, 2) := by decide +kernel
theorem d_S_shareOut_145 : decode b_S_shareOut 145 = .ok (.getfield 252, 3) := by decide +kernel
theorem d_S_shareOut_148 : decode b_S_shareOut 148 = .ok (.lastore, 1) := by decide +kernel
theorem d_S_shareOut_149 : decode b_S_shareOut 149 = .ok (.iinc 7 1, 3) := by decide +kernel
theorem d_S_shareOut_152 : decode b_S_shareOut 152 = .ok (.goto (-45), 3) := by decide +kernel
theorem d_S_shareOut_155 : decode b_S_shareOut 155 = .ok (.return_, 1) := by decide +kernel
theorem cal_S_shareOut : am_cal y_S_shareOut b_S_shareOut 9 ((Option.none : Option FieldType)) 2 := ⟨Or.inl wx_515, wx_1, by decide, by decide +kernel⟩
abbrev y_S_portion : MethodName := ⟨"BillShares", "portion", "(JJJ)J"⟩
abbrev b_S_portion : ByteArray := prog_1_method_27_code
theorem d_S_portion_0 : decode b_S_portion 0 = .ok (.lload 4, 2) := by decide +kernel
theorem d_S_portion_2 : decode b_S_portion 2 = .ok (.lconst 0, 1) := by decide +kernel
theorem d_S_portion_3 : decode b_S_portion 3 = .ok (.lcmp, 1) := by decide +kernel
theorem d_S_portion_4 : decode b_S_portion 4 = .ok (.ifCond .gt 5, 3) := by decide +kernel
theorem d_S_portion_7 : decode b_S_portion 7 = .ok (.lconst 0, 1) := by decide +kernel
theorem d_S_portion_8 : decode b_S_portion 8 = .ok (.lreturn, 1) := by decide +kernel
theorem d_S_portion_9 : decode b_S_portion 9 = .ok (.lload_n 2, 1) := by decide +kernel
theorem d_S_portion_10 : decode b_S_portion 10 = .ok (.ldc2_w 196, 3) := by decide +kernel
theorem d_S_portion_13 : decode b_S_portion 13 = .ok (.lcmp, 1) := by decide +kernel
theorem d_S_portion_14 : decode b_S_portion 14 = .ok (.ifCond .gt 10, 3) := by decide +kernel
theorem d_S_portion_17 : decode b_S_portion 17 = .ok (.lload_n 0, 1) := by decide +kernel
theorem d_S_portion_18 : decode b_S_portion 18 = .ok (.lload_n 2, 1) := by decide +kernel
theorem d_S_portion_19 : decode b_S_portion 19 = .ok (.lmul, 1) := by decide +kernel
theorem d_S_portion_20 : decode b_S_portion 20 = .ok (.lload 4, 2) := by decide +kernel
theorem d_S_portion_22 : decode b_S_portion 22 = .ok (.ldiv, 1) := by decide +kernel
theorem d_S_portion_23 : decode b_S_portion 23 = .ok (.lreturn, 1) := by decide +kernel
theorem d_S_portion_24 : decode b_S_portion 24 = .ok (.lconst 0, 1) := by decide +kernel
theorem d_S_portion_25 : decode b_S_portion 25 = .ok (.lstore 6, 2) := by decide +kernel
theorem d_S_portion_27 : decode b_S_portion 27 = .ok (.lconst 0, 1) := by decide +kernel
theorem d_S_portion_28 : decode b_S_portion 28 = .ok (.lstore 8, 2) := by decide +kernel
theorem d_S_portion_30 : decode b_S_portion 30 = .ok (.bipush 27, 2) := by decide +kernel
theorem d_S_portion_32 : decode b_S_portion 32 = .ok (.istore 10, 2) := by decide +kernel
theorem d_S_portion_34 : decode b_S_portion 34 = .ok (.iload 10, 2) := by decide +kernel
theorem d_S_portion_36 : decode b_S_portion 36 = .ok (.ifCond .lt 49, 3) := by decide +kernel
theorem d_S_portion_39 : decode b_S_portion 39 = .ok (.lload 8, 2) := by decide +kernel
theorem d_S_portion_41 : decode b_S_portion 41 = .ok (.ldc2_w 198, 3) := by decide +kernel
theorem d_S_portion_44 : decode b_S_portion 44 = .ok (.lmul, 1) := by decide +kernel
theorem d_S_portion_45 : decode b_S_portion 45 = .ok (.lload_n 2, 1) := by decide +kernel
theorem d_S_portion_46 : decode b_S_portion 46 = .ok (.lload_n 0, 1) := by decide +kernel
theorem d_S_portion_47 : decode b_S_portion 47 = .ok (.iload 10, 2) := by decide +kernel
theorem d_S_portion_49 : decode b_S_portion 49 = .ok (.lshr, 1) := by decide +kernel
theorem d_S_portion_50 : decode b_S_portion 50 = .ok (.ldc2_w 200, 3) := by decide +kernel
theorem d_S_portion_53 : decode b_S_portion 53 = .ok (.land, 1) := by decide +kernel
theorem d_S_portion_54 : decode b_S_portion 54 = .ok (.lmul, 1) := by decide +kernel
theorem d_S_portion_55 : decode b_S_portion 55 = .ok (.ladd, 1) := by decide +kernel
theorem d_S_portion_56 : decode b_S_portion 56 = .ok (.lstore 11, 2) := by decide +kernel
theorem d_S_portion_58 : decode b_S_portion 58 = .ok (.lload 6, 2) := by decide +kernel
theorem d_S_portion_60 : decode b_S_portion 60 = .ok (.ldc2_w 198, 3) := by decide +kernel
theorem d_S_portion_63 : decode b_S_portion 63 = .ok (.lmul, 1) := by decide +kernel
theorem d_S_portion_64 : decode b_S_portion 64 = .ok (.lload 11, 2) := by decide +kernel
theorem d_S_portion_66 : decode b_S_portion 66 = .ok (.lload 4, 2) := by decide +kernel
theorem d_S_portion_68 : decode b_S_portion 68 = .ok (.ldiv, 1) := by decide +kernel
theorem d_S_portion_69 : decode b_S_portion 69 = .ok (.ladd, 1) := by decide +kernel
theorem d_S_portion_70 : decode b_S_portion 70 = .ok (.lstore 6, 2) := by decide +kernel
theorem d_S_portion_72 : decode b_S_portion 72 = .ok (.lload 11, 2) := by decide +kernel
theorem d_S_portion_74 : decode b_S_portion 74 = .ok (.lload 4, 2) := by decide +kernel
theorem d_S_portion_76 : decode b_S_portion 76 = .ok (.lrem, 1) := by decide +kernel
theorem d_S_portion_77 : decode b_S_portion 77 = .ok (.lstore 8, 2) := by decide +kernel
theorem d_S_portion_79 : decode b_S_portion 79 = .ok (.iinc 10 (-3), 3) := by decide +kernel
theorem d_S_portion_82 : decode b_S_portion 82 = .ok (.goto (-48), 3) := by decide +kernel
theorem d_S_portion_85 : decode b_S_portion 85 = .ok (.lload 6, 2) := by decide +kernel
theorem d_S_portion_87 : decode b_S_portion 87 = .ok (.lreturn, 1) := by decide +kernel
theorem cal_S_portion : am_cal y_S_portion b_S_portion 13 ((Option.some FieldType.long)) 3 := ⟨Or.inl wx_519, wx_1, by decide, by decide +kernel⟩
abbrev y_S_weighByArea : MethodName := ⟨"BillShares", "weighByArea", "()V"⟩
abbrev b_S_weighByArea : ByteArray := prog_1_method_35_code
theorem d_S_weighByArea_0 : decode b_S_weighByArea 0 = .ok (.iconst 0, 1) := by decide +kernel
theorem d_S_weighByArea_1 : decode b_S_weighByArea 1 = .ok (.istore_n 1, 1) := by decide +kernel
theorem d_S_weighByArea_2 : decode b_S_weighByArea 2 = .ok (.iload_n 1, 1) := by decide +kernel
theorem d_S_weighByArea_3 : decode b_S_weighByArea 3 = .ok (.aload_n 0, 1) := by decide +kernel
theorem d_S_weighByArea_4 : decode b_S_weighByArea 4 = .ok (.getfield 12, 3) := by decide +kernel
theorem d_S_weighByArea_7 : decode b_S_weighByArea 7 = .ok (.invokevirtual 42, 3) := by decide +kernel
theorem d_S_weighByArea_10 : decode b_S_weighByArea 10 = .ok (.if_icmp .ge 30, 3) := by decide +kernel
theorem d_S_weighByArea_13 : decode b_S_weighByArea 13 = .ok (.aload_n 0, 1) := by decide +kernel
theorem d_S_weighByArea_14 : decode b_S_weighByArea 14 = .ok (.getfield 12, 3) := by decide +kernel
theorem d_S_weighByArea_17 : decode b_S_weighByArea 17 = .ok (.iload_n 1, 1) := by decide +kernel
theorem d_S_weighByArea_18 : decode b_S_weighByArea 18 = .ok (.invokevirtual 204, 3) := by decide +kernel
theorem d_S_weighByArea_21 : decode b_S_weighByArea 21 = .ok (.checkcast 53, 3) := by decide +kernel
theorem d_S_weighByArea_24 : decode b_S_weighByArea 24 = .ok (.astore_n 2, 1) := by decide +kernel
theorem d_S_weighByArea_25 : decode b_S_weighByArea 25 = .ok (.aload_n 2, 1) := by decide +kernel
theorem d_S_weighByArea_26 : decode b_S_weighByArea 26 = .ok (.aload_n 2, 1) := by decide +kernel
theorem d_S_weighByArea_27 : decode b_S_weighByArea 27 = .ok (.getfield 258, 3) := by decide +kernel
theorem d_S_weighByArea_30 : decode b_S_weighByArea 30 = .ok (.i2l, 1) := by decide +kernel
theorem d_S_weighByArea_31 : decode b_S_weighByArea 31 = .ok (.putfield 261, 3) := by decide +kernel
theorem d_S_weighByArea_34 : decode b_S_weighByArea 34 = .ok (.iinc 1 1, 3) := by decide +kernel
theorem d_S_weighByArea_37 : decode b_S_weighByArea 37 = .ok (.goto (-35), 3) := by decide +kernel
theorem d_S_weighByArea_40 : decode b_S_weighByArea 40 = .ok (.return_, 1) := by decide +kernel
theorem cal_S_weighByArea : am_cal y_S_weighByArea b_S_weighByArea 3 ((Option.none : Option FieldType)) 0 := ⟨Or.inl wx_526, wx_1, by decide, by decide +kernel⟩
abbrev y_S_dealOut : MethodName := ⟨"BillShares", "dealOut", "(J)V"⟩
abbrev b_S_dealOut : ByteArray := prog_1_method_38_code
theorem d_S_dealOut_0 : decode b_S_dealOut 0 = .ok (.aload_n 0, 1) := by decide +kernel
theorem d_S_dealOut_1 : decode b_S_dealOut 1 = .ok (.invokevirtual 271, 3) := by decide +kernel
theorem d_S_dealOut_4 : decode b_S_dealOut 4 = .ok (.lstore_n 3, 1) := by decide +kernel
theorem d_S_dealOut_5 : decode b_S_dealOut 5 = .ok (.lload_n 1, 1) := by decide +kernel
theorem d_S_dealOut_6 : decode b_S_dealOut 6 = .ok (.lstore 5, 2) := by decide +kernel
theorem d_S_dealOut_8 : decode b_S_dealOut 8 = .ok (.iconst 0, 1) := by decide +kernel
theorem d_S_dealOut_9 : decode b_S_dealOut 9 = .ok (.istore 7, 2) := by decide +kernel
theorem d_S_dealOut_11 : decode b_S_dealOut 11 = .ok (.iload 7, 2) := by decide +kernel
theorem d_S_dealOut_13 : decode b_S_dealOut 13 = .ok (.aload_n 0, 1) := by decide +kernel
theorem d_S_dealOut_14 : decode b_S_dealOut 14 = .ok (.getfield 12, 3) := by decide +kernel
theorem d_S_dealOut_17 : decode b_S_dealOut 17 = .ok (.invokevirtual 42, 3) := by decide +kernel
theorem d_S_dealOut_20 : decode b_S_dealOut 20 = .ok (.if_icmp .ge 48, 3) := by decide +kernel
theorem d_S_dealOut_23 : decode b_S_dealOut 23 = .ok (.aload_n 0, 1) := by decide +kernel
theorem d_S_dealOut_24 : decode b_S_dealOut 24 = .ok (.getfield 12, 3) := by decide +kernel
theorem d_S_dealOut_27 : decode b_S_dealOut 27 = .ok (.iload 7, 2) := by decide +kernel
theorem d_S_dealOut_29 : decode b_S_dealOut 29 = .ok (.invokevirtual 204, 3) := by decide +kernel
theorem d_S_dealOut_32 : decode b_S_dealOut 32 = .ok (.checkcast 53, 3) := by decide +kernel
theorem d_S_dealOut_35 : decode b_S_dealOut 35 = .ok (.astore 8, 2) := by decide +kernel
theorem d_S_dealOut_37 : decode b_S_dealOut 37 = .ok (.aload 8, 2) := by decide +kernel
theorem d_S_dealOut_39 : decode b_S_dealOut 39 = .ok (.lload_n 1, 1) := by decide +kernel
theorem d_S_dealOut_40 : decode b_S_dealOut 40 = .ok (.aload 8, 2) := by decide +kernel
theorem d_S_dealOut_42 : decode b_S_dealOut 42 = .ok (.getfield 261, 3) := by decide +kernel
theorem d_S_dealOut_45 : decode b_S_dealOut 45 = .ok (.lload_n 3, 1) := by decide +kernel
theorem d_S_dealOut_46 : decode b_S_dealOut 46 = .ok (.invokestatic 241, 3) := by decide +kernel
theorem d_S_dealOut_49 : decode b_S_dealOut 49 = .ok (.putfield 252, 3) := by decide +kernel
theorem d_S_dealOut_52 : decode b_S_dealOut 52 = .ok (.lload 5, 2) := by decide +kernel
theorem d_S_dealOut_54 : decode b_S_dealOut 54 = .ok (.aload 8, 2) := by decide +kernel
theorem d_S_dealOut_56 : decode b_S_dealOut 56 = .ok (.getfield 252, 3) := by decide +kernel
theorem d_S_dealOut_59 : decode b_S_dealOut 59 = .ok (.lsub, 1) := by decide +kernel
theorem d_S_dealOut_60 : decode b_S_dealOut 60 = .ok (.lstore 5, 2) := by decide +kernel
theorem d_S_dealOut_62 : decode b_S_dealOut 62 = .ok (.iinc 7 1, 3) := by decide +kernel
theorem d_S_dealOut_65 : decode b_S_dealOut 65 = .ok (.goto (-54), 3) := by decide +kernel
theorem d_S_dealOut_68 : decode b_S_dealOut 68 = .ok (.iconst 0, 1) := by decide +kernel
theorem d_S_dealOut_69 : decode b_S_dealOut 69 = .ok (.istore 7, 2) := by decide +kernel
theorem d_S_dealOut_71 : decode b_S_dealOut 71 = .ok (.iload 7, 2) := by decide +kernel
theorem d_S_dealOut_73 : decode b_S_dealOut 73 = .ok (.aload_n 0, 1) := by decide +kernel
theorem d_S_dealOut_74 : decode b_S_dealOut 74 = .ok (.getfield 16, 3) := by decide +kernel
theorem d_S_dealOut_77 : decode b_S_dealOut 77 = .ok (.invokevirtual 42, 3) := by decide +kernel
theorem d_S_dealOut_80 : decode b_S_dealOut 80 = .ok (.if_icmp .ge 43, 3) := by decide +kernel
theorem d_S_dealOut_83 : decode b_S_dealOut 83 = .ok (.lload 5, 2) := by decide +kernel
theorem d_S_dealOut_85 : decode b_S_dealOut 85 = .ok (.lconst 0, 1) := by decide +kernel
theorem d_S_dealOut_86 : decode b_S_dealOut 86 = .ok (.lcmp, 1) := by decide +kernel
theorem d_S_dealOut_87 : decode b_S_dealOut 87 = .ok (.ifCond .le 36, 3) := by decide +kernel
theorem d_S_dealOut_90 : decode b_S_dealOut 90 = .ok (.aload_n 0, 1) := by decide +kernel
theorem d_S_dealOut_91 : decode b_S_dealOut 91 = .ok (.getfield 16, 3) := by decide +kernel
theorem d_S_dealOut_94 : decode b_S_dealOut 94 = .ok (.iload 7, 2) := by decide +kernel
theorem d_S_dealOut_96 : decode b_S_dealOut 96 = .ok (.invokevirtual 204, 3) := by decide +kernel
theorem d_S_dealOut_99 : decode b_S_dealOut 99 = .ok (.checkcast 53, 3) := by decide +kernel
theorem d_S_dealOut_102 : decode b_S_dealOut 102 = .ok (.dup, 1) := by decide +kernel
theorem d_S_dealOut_103 : decode b_S_dealOut 103 = .ok (.getfield 252, 3) := by decide +kernel
theorem d_S_dealOut_106 : decode b_S_dealOut 106 = .ok (.lconst 1, 1) := by decide +kernel
theorem d_S_dealOut_107 : decode b_S_dealOut 107 = .ok (.ladd, 1) := by decide +kernel
theorem d_S_dealOut_108 : decode b_S_dealOut 108 = .ok (.putfield 252, 3) := by decide +kernel
theorem d_S_dealOut_111 : decode b_S_dealOut 111 = .ok (.lload 5, 2) := by decide +kernel
theorem d_S_dealOut_113 : decode b_S_dealOut 113 = .ok (.lconst 1, 1) := by decide +kernel
theorem d_S_dealOut_114 : decode b_S_dealOut 114 = .ok (.lsub, 1) := by decide +kernel
theorem d_S_dealOut_115 : decode b_S_dealOut 115 = .ok (.lstore 5, 2) := by decide +kernel
theorem d_S_dealOut_117 : decode b_S_dealOut 117 = .ok (.iinc 7 1, 3) := by decide +kernel
theorem d_S_dealOut_120 : decode b_S_dealOut 120 = .ok (.goto (-49), 3) := by decide +kernel
theorem d_S_dealOut_123 : decode b_S_dealOut 123 = .ok (.return_, 1) := by decide +kernel
theorem cal_S_dealOut : am_cal y_S_dealOut b_S_dealOut 9 ((Option.none : Option FieldType)) 1 := ⟨Or.inl wx_530, wx_1, by decide, by decide +kernel⟩
abbrev y_S_sumOfWeights : MethodName := ⟨"BillShares", "sumOfWeights", "()J"⟩
abbrev b_S_sumOfWeights : ByteArray := prog_1_method_37_code
theorem d_S_sumOfWeights_0 : decode b_S_sumOfWeights 0 = .ok (.lconst 0, 1) := by decide +kernel
theorem d_S_sumOfWeights_1 : decode b_S_sumOfWeights 1 = .ok (.lstore_n 1, 1) := by decide +kernel
theorem d_S_sumOfWeights_2 : decode b_S_sumOfWeights 2 = .ok (.iconst 0, 1) := by decide +kernel
theorem d_S_sumOfWeights_3 : decode b_S_sumOfWeights 3 = .ok (.istore_n 3, 1) := by decide +kernel
theorem d_S_sumOfWeights_4 : decode b_S_sumOfWeights 4 = .ok (.iload_n 3, 1) := by decide +kernel
theorem d_S_sumOfWeights_5 : decode b_S_sumOfWeights 5 = .ok (.aload_n 0, 1) := by decide +kernel
theorem d_S_sumOfWeights_6 : decode b_S_sumOfWeights 6 = .ok (.getfield 12, 3) := by decide +kernel
theorem d_S_sumOfWeights_9 : decode b_S_sumOfWeights 9 = .ok (.invokevirtual 42, 3) := by decide +kernel
theorem d_S_sumOfWeights_12 : decode b_S_sumOfWeights 12 = .ok (.if_icmp .ge 26, 3) := by decide +kernel
theorem d_S_sumOfWeights_15 : decode b_S_sumOfWeights 15 = .ok (.lload_n 1, 1) := by decide +kernel
theorem d_S_sumOfWeights_16 : decode b_S_sumOfWeights 16 = .ok (.aload_n 0, 1) := by decide +kernel
theorem d_S_sumOfWeights_17 : decode b_S_sumOfWeights 17 = .ok (.getfield 12, 3) := by decide +kernel
theorem d_S_sumOfWeights_20 : decode b_S_sumOfWeights 20 = .ok (.iload_n 3, 1) := by decide +kernel
theorem d_S_sumOfWeights_21 : decode b_S_sumOfWeights 21 = .ok (.invokevirtual 204, 3) := by decide +kernel
theorem d_S_sumOfWeights_24 : decode b_S_sumOfWeights 24 = .ok (.checkcast 53, 3) := by decide +kernel
theorem d_S_sumOfWeights_27 : decode b_S_sumOfWeights 27 = .ok (.getfield 261, 3) := by decide +kernel
theorem d_S_sumOfWeights_30 : decode b_S_sumOfWeights 30 = .ok (.ladd, 1) := by decide +kernel
theorem d_S_sumOfWeights_31 : decode b_S_sumOfWeights 31 = .ok (.lstore_n 1, 1) := by decide +kernel
theorem d_S_sumOfWeights_32 : decode b_S_sumOfWeights 32 = .ok (.iinc 3 1, 3) := by decide +kernel
theorem d_S_sumOfWeights_35 : decode b_S_sumOfWeights 35 = .ok (.goto (-31), 3) := by decide +kernel
theorem d_S_sumOfWeights_38 : decode b_S_sumOfWeights 38 = .ok (.lload_n 1, 1) := by decide +kernel
theorem d_S_sumOfWeights_39 : decode b_S_sumOfWeights 39 = .ok (.lreturn, 1) := by decide +kernel
theorem cal_S_sumOfWeights : am_cal y_S_sumOfWeights b_S_sumOfWeights 4 ((Option.some FieldType.long)) 0 := ⟨Or.inl wx_534, wx_1, by decide, by decide +kernel⟩
abbrev y_S_weighByUse : MethodName := ⟨"BillShares", "weighByUse", "(II)V"⟩
abbrev b_S_weighByUse : ByteArray := prog_1_method_36_code
theorem d_S_weighByUse_0 : decode b_S_weighByUse 0 = .ok (.lconst 0, 1) := by decide +kernel
theorem d_S_weighByUse_1 : decode b_S_weighByUse 1 = .ok (.lstore_n 3, 1) := by decide +kernel
theorem d_S_weighByUse_2 : decode b_S_weighByUse 2 = .ok (.lconst 0, 1) := by decide +kernel
theorem d_S_weighByUse_3 : decode b_S_weighByUse 3 = .ok (.lstore 5, 2) := by decide +kernel
theorem d_S_weighByUse_5 : decode b_S_weighByUse 5 = .ok (.iconst 0, 1) := by decide +kernel
theorem d_S_weighByUse_6 : decode b_S_weighByUse 6 = .ok (.istore 7, 2) := by decide +kernel
theorem d_S_weighByUse_8 : decode b_S_weighByUse 8 = .ok (.iload 7, 2) := by decide +kernel
theorem d_S_weighByUse_10 : decode b_S_weighByUse 10 = .ok (.aload_n 0, 1) := by decide +kernel
theorem d_S_weighByUse_11 : decode b_S_weighByUse 11 = .ok (.getfield 12, 3) := by decide +kernel
theorem d_S_weighByUse_14 : decode b_S_weighByUse 14 = .ok (.invokevirtual 42, 3) := by decide +kernel
theorem d_S_weighByUse_17 : decode b_S_weighByUse 17 = .ok (.if_icmp .ge 89, 3) := by decide +kernel
theorem d_S_weighByUse_20 : decode b_S_weighByUse 20 = .ok (.aload_n 0, 1) := by decide +kernel
theorem d_S_weighByUse_21 : decode b_S_weighByUse 21 = .ok (.getfield 12, 3) := by decide +kernel
theorem d_S_weighByUse_24 : decode b_S_weighByUse 24 = .ok (.iload 7, 2) := by decide +kernel
theorem d_S_weighByUse_26 : decode b_S_weighByUse 26 = .ok (.invokevirtual 204, 3) := by decide +kernel
theorem d_S_weighByUse_29 : decode b_S_weighByUse 29 = .ok (.checkcast 53, 3) := by decide +kernel
theorem d_S_weighByUse_32 : decode b_S_weighByUse 32 = .ok (.astore 8, 2) := by decide +kernel
theorem d_S_weighByUse_34 : decode b_S_weighByUse 34 = .ok (.aload 8, 2) := by decide +kernel
theorem d_S_weighByUse_36 : decode b_S_weighByUse 36 = .ok (.aload 8, 2) := by decide +kernel
theorem d_S_weighByUse_38 : decode b_S_weighByUse 38 = .ok (.iload_n 1, 1) := by decide +kernel
theorem d_S_weighByUse_39 : decode b_S_weighByUse 39 = .ok (.iload_n 2, 1) := by decide +kernel
theorem d_S_weighByUse_40 : decode b_S_weighByUse 40 = .ok (.invokevirtual 165, 3) := by decide +kernel
theorem d_S_weighByUse_43 : decode b_S_weighByUse 43 = .ok (.ifCond .ne 7, 3) := by decide +kernel
theorem d_S_weighByUse_46 : decode b_S_weighByUse 46 = .ok (.iconst 1, 1) := by decide +kernel
theorem d_S_weighByUse_47 : decode b_S_weighByUse 47 = .ok (.goto 4, 3) := by decide +kernel
theorem d_S_weighByUse_50 : decode b_S_weighByUse 50 = .ok (.iconst 0, 1) := by decide +kernel
theorem d_S_weighByUse_51 : decode b_S_weighByUse 51 = .ok (.putfield 264, 3) := by decide +kernel
theorem d_S_weighByUse_54 : decode b_S_weighByUse 54 = .ok (.aload 8, 2) := by decide +kernel
theorem d_S_weighByUse_56 : decode b_S_weighByUse 56 = .ok (.getfield 264, 3) := by decide +kernel
theorem d_S_weighByUse_59 : decode b_S_weighByUse 59 = .ok (.ifCond .eq 41, 3) := by decide +kernel
theorem d_S_weighByUse_62 : decode b_S_weighByUse 62 = .ok (.aload 8, 2) := by decide +kernel
theorem d_S_weighByUse_64 : decode b_S_weighByUse 64 = .ok (.aload 8, 2) := by decide +kernel
theorem d_S_weighByUse_66 : decode b_S_weighByUse 66 = .ok (.iload_n 1, 1) := by decide +kernel
theorem d_S_weighByUse_67 : decode b_S_weighByUse 67 = .ok (.iload_n 2, 1) := by decide +kernel
theorem d_S_weighByUse_68 : decode b_S_weighByUse 68 = .ok (.invokestatic 153, 3) := by decide +kernel
theorem d_S_weighByUse_71 : decode b_S_weighByUse 71 = .ok (.iload_n 2, 1) := by decide +kernel
theorem d_S_weighByUse_72 : decode b_S_weighByUse 72 = .ok (.invokestatic 156, 3) := by decide +kernel
theorem d_S_weighByUse_75 : decode b_S_weighByUse 75 = .ok (.invokevirtual 268, 3) := by decide +kernel
theorem d_S_weighByUse_78 : decode b_S_weighByUse 78 = .ok (.putfield 261, 3) := by decide +kernel
theorem d_S_weighByUse_81 : decode b_S_weighByUse 81 = .ok (.lload_n 3, 1) := by decide +kernel
theorem d_S_weighByUse_82 : decode b_S_weighByUse 82 = .ok (.aload 8, 2) := by decide +kernel
theorem d_S_weighByUse_84 : decode b_S_weighByUse 84 = .ok (.getfield 261, 3) := by decide +kernel
theorem d_S_weighByUse_87 : decode b_S_weighByUse 87 = .ok (.ladd, 1) := by decide +kernel
theorem d_S_weighByUse_88 : decode b_S_weighByUse 88 = .ok (.lstore_n 3, 1) := by decide +kernel
theorem d_S_weighByUse_89 : decode b_S_weighByUse 89 = .ok (.lload 5, 2) := by decide +kernel
theorem d_S_weighByUse_91 : decode b_S_weighByUse 91 = .ok (.aload 8, 2) := by decide +kernel
theorem d_S_weighByUse_93 : decode b_S_weighByUse 93 = .ok (.getfield 258, 3) := by decide +kernel
theorem d_S_weighByUse_96 : decode b_S_weighByUse 96 = .ok (.i2l, 1) := by decide +kernel
theorem d_S_weighByUse_97 : decode b_S_weighByUse 97 = .ok (.ladd, 1) := by decide +kernel
theorem d_S_weighByUse_98 : decode b_S_weighByUse 98 = .ok (.lstore 5, 2) := by decide +kernel
theorem d_S_weighByUse_100 : decode b_S_weighByUse 100 = .ok (.iinc 7 1, 3) := by decide +kernel
theorem d_S_weighByUse_103 : decode b_S_weighByUse 103 = .ok (.goto (-95), 3) := by decide +kernel
theorem d_S_weighByUse_106 : decode b_S_weighByUse 106 = .ok (.iconst 0, 1) := by decide +kernel
theorem d_S_weighByUse_107 : decode b_S_weighByUse 107 = .ok (.istore 7, 2) := by decide +kernel
theorem d_S_weighByUse_109 : decode b_S_weighByUse 109 = .ok (.iload 7, 2) := by decide +kernel
theorem d_S_weighByUse_111 : decode b_S_weighByUse 111 = .ok (.aload_n 0, 1) := by decide +kernel
theorem d_S_weighByUse_112 : decode b_S_weighByUse 112 = .ok (.getfield 12, 3) := by decide +kernel
theorem d_S_weighByUse_115 : decode b_S_weighByUse 115 = .ok (.invokevirtual 42, 3) := by decide +kernel
theorem d_S_weighByUse_118 : decode b_S_weighByUse 118 = .ok (.if_icmp .ge 48, 3) := by decide +kernel
theorem d_S_weighByUse_121 : decode b_S_weighByUse 121 = .ok (.aload_n 0, 1) := by decide +kernel
theorem d_S_weighByUse_122 : decode b_S_weighByUse 122 = .ok (.getfield 12, 3) := by decide +kernel
theorem d_S_weighByUse_125 : decode b_S_weighByUse 125 = .ok (.iload 7, 2) := by decide +kernel
theorem d_S_weighByUse_127 : decode b_S_weighByUse 127 = .ok (.invokevirtual 204, 3) := by decide +kernel
theorem d_S_weighByUse_130 : decode b_S_weighByUse 130 = .ok (.checkcast 53, 3) := by decide +kernel
theorem d_S_weighByUse_133 : decode b_S_weighByUse 133 = .ok (.astore 8, 2) := by decide +kernel
theorem d_S_weighByUse_135 : decode b_S_weighByUse 135 = .ok (.aload 8, 2) := by decide +kernel
theorem d_S_weighByUse_137 : decode b_S_weighByUse 137 = .ok (.getfield 264, 3) := by decide +kernel
theorem d_S_weighByUse_140 : decode b_S_weighByUse 140 = .ok (.ifCond .ne 20, 3) := by decide +kernel
theorem d_S_weighByUse_143 : decode b_S_weighByUse 143 = .ok (.aload 8, 2) := by decide +kernel
theorem d_S_weighByUse_145 : decode b_S_weighByUse 145 = .ok (.aload 8, 2) := by decide +kernel
theorem d_S_weighByUse_147 : decode b_S_weighByUse 147 = .ok (.getfield 258, 3) := by decide +kernel
theorem d_S_weighByUse_150 : decode b_S_weighByUse 150 = .ok (.i2l, 1) := by decide +kernel
theorem d_S_weighByUse_151 : decode b_S_weighByUse 151 = .ok (.lload_n 3, 1) := by decide +kernel
theorem d_S_weighByUse_152 : decode b_S_weighByUse 152 = .ok (.lload 5, 2) := by decide +kernel
theorem d_S_weighByUse_154 : decode b_S_weighByUse 154 = .ok (.invokestatic 241, 3) := by decide +kernel
theorem d_S_weighByUse_157 : decode b_S_weighByUse 157 = .ok (.putfield 261, 3) := by decide +kernel
theorem d_S_weighByUse_160 : decode b_S_weighByUse 160 = .ok (.iinc 7 1, 3) := by decide +kernel
theorem d_S_weighByUse_163 : decode b_S_weighByUse 163 = .ok (.goto (-54), 3) := by decide +kernel
theorem d_S_weighByUse_166 : decode b_S_weighByUse 166 = .ok (.aload_n 0, 1) := by decide +kernel
theorem d_S_weighByUse_167 : decode b_S_weighByUse 167 = .ok (.invokevirtual 271, 3) := by decide +kernel
theorem d_S_weighByUse_170 : decode b_S_weighByUse 170 = .ok (.lconst 0, 1) := by decide +kernel
theorem d_S_weighByUse_171 : decode b_S_weighByUse 171 = .ok (.lcmp, 1) := by decide +kernel
theorem d_S_weighByUse_172 : decode b_S_weighByUse 172 = .ok (.ifCond .ne 7, 3) := by decide +kernel
theorem d_S_weighByUse_175 : decode b_S_weighByUse 175 = .ok (.aload_n 0, 1) := by decide +kernel
theorem d_S_weighByUse_176 : decode b_S_weighByUse 176 = .ok (.invokevirtual 245, 3) := by decide +kernel
theorem d_S_weighByUse_179 : decode b_S_weighByUse 179 = .ok (.return_, 1) := by decide +kernel
theorem cal_S_weighByUse : am_cal y_S_weighByUse b_S_weighByUse 9 ((Option.none : Option FieldType)) 2 := ⟨Or.inl wx_538, wx_1, by decide, by decide +kernel⟩
abbrev y_F_whyBarred : MethodName := ⟨"BillShares$Flat", "whyBarred", "(II)I"⟩
abbrev b_F_whyBarred : ByteArray := prog_3_method_8_code
theorem d_F_whyBarred_0 : decode b_F_whyBarred 0 = .ok (.iconst 0, 1) := by decide +kernel
theorem d_F_whyBarred_1 : decode b_F_whyBarred 1 = .ok (.istore_n 3, 1) := by decide +kernel
theorem d_F_whyBarred_2 : decode b_F_whyBarred 2 = .ok (.iconst 0, 1) := by decide +kernel
theorem d_F_whyBarred_3 : decode b_F_whyBarred 3 = .ok (.istore 4, 2) := by decide +kernel
theorem d_F_whyBarred_5 : decode b_F_whyBarred 5 = .ok (.iload 4, 2) := by decide +kernel
theorem d_F_whyBarred_7 : decode b_F_whyBarred 7 = .ok (.aload_n 0, 1) := by decide +kernel
theorem d_F_whyBarred_8 : decode b_F_whyBarred 8 = .ok (.getfield 12, 3) := by decide +kernel
theorem d_F_whyBarred_11 : decode b_F_whyBarred 11 = .ok (.invokevirtual 50, 3) := by decide +kernel
theorem d_F_whyBarred_14 : decode b_F_whyBarred 14 = .ok (.if_icmp .ge 50, 3) := by decide +kernel
theorem d_F_whyBarred_17 : decode b_F_whyBarred 17 = .ok (.aload_n 0, 1) := by decide +kernel
theorem d_F_whyBarred_18 : decode b_F_whyBarred 18 = .ok (.getfield 12, 3) := by decide +kernel
theorem d_F_whyBarred_21 : decode b_F_whyBarred 21 = .ok (.iload 4, 2) := by decide +kernel
theorem d_F_whyBarred_23 : decode b_F_whyBarred 23 = .ok (.invokevirtual 54, 3) := by decide +kernel
theorem d_F_whyBarred_26 : decode b_F_whyBarred 26 = .ok (.checkcast 58, 3) := by decide +kernel
theorem d_F_whyBarred_29 : decode b_F_whyBarred 29 = .ok (.astore 5, 2) := by decide +kernel
theorem d_F_whyBarred_31 : decode b_F_whyBarred 31 = .ok (.aload 5, 2) := by decide +kernel
theorem d_F_whyBarred_33 : decode b_F_whyBarred 33 = .ok (.getfield 60, 3) := by decide +kernel
theorem d_F_whyBarred_36 : decode b_F_whyBarred 36 = .ok (.iload_n 1, 1) := by decide +kernel
theorem d_F_whyBarred_37 : decode b_F_whyBarred 37 = .ok (.if_icmp .ne 21, 3) := by decide +kernel
theorem d_F_whyBarred_40 : decode b_F_whyBarred 40 = .ok (.iconst 1, 1) := by decide +kernel
theorem d_F_whyBarred_41 : decode b_F_whyBarred 41 = .ok (.istore_n 3, 1) := by decide +kernel
theorem d_F_whyBarred_42 : decode b_F_whyBarred 42 = .ok (.aload 5, 2) := by decide +kernel
theorem d_F_whyBarred_44 : decode b_F_whyBarred 44 = .ok (.iload_n 2, 1) := by decide +kernel
theorem d_F_whyBarred_45 : decode b_F_whyBarred 45 = .ok (.invokevirtual 63, 3) := by decide +kernel
theorem d_F_whyBarred_48 : decode b_F_whyBarred 48 = .ok (.istore 6, 2) := by decide +kernel
theorem d_F_whyBarred_50 : decode b_F_whyBarred 50 = .ok (.iload 6, 2) := by decide +kernel
theorem d_F_whyBarred_52 : decode b_F_whyBarred 52 = .ok (.ifCond .eq 6, 3) := by decide +kernel
theorem d_F_whyBarred_55 : decode b_F_whyBarred 55 = .ok (.iload 6, 2) := by decide +kernel
theorem d_F_whyBarred_57 : decode b_F_whyBarred 57 = .ok (.ireturn, 1) := by decide +kernel
theorem d_F_whyBarred_58 : decode b_F_whyBarred 58 = .ok (.iinc 4 1, 3) := by decide +kernel
theorem d_F_whyBarred_61 : decode b_F_whyBarred 61 = .ok (.goto (-56), 3) := by decide +kernel
theorem d_F_whyBarred_64 : decode b_F_whyBarred 64 = .ok (.iload_n 3, 1) := by decide +kernel
theorem d_F_whyBarred_65 : decode b_F_whyBarred 65 = .ok (.ifCond .eq 7, 3) := by decide +kernel
theorem d_F_whyBarred_68 : decode b_F_whyBarred 68 = .ok (.iconst 0, 1) := by decide +kernel
theorem d_F_whyBarred_69 : decode b_F_whyBarred 69 = .ok (.goto 4, 3) := by decide +kernel
theorem d_F_whyBarred_72 : decode b_F_whyBarred 72 = .ok (.iconst 1, 1) := by decide +kernel
theorem d_F_whyBarred_73 : decode b_F_whyBarred 73 = .ok (.ireturn, 1) := by decide +kernel
theorem cal_F_whyBarred : am_cal y_F_whyBarred b_F_whyBarred 7 ((Option.some FieldType.int)) 2 := ⟨Or.inl wx_542, wx_12, by decide, by decide +kernel⟩
abbrev y_T_whyBarred : MethodName := ⟨"BillShares$Meter", "whyBarred", "(I)I"⟩
abbrev b_T_whyBarred : ByteArray := prog_4_method_8_code
theorem d_T_whyBarred_0 : decode b_T_whyBarred 0 = .ok (.aload_n 0, 1) := by decide +kernel
theorem d_T_whyBarred_1 : decode b_T_whyBarred 1 = .ok (.getfield 9, 3) := by decide +kernel
theorem d_T_whyBarred_4 : decode b_T_whyBarred 4 = .ok (.ifCond .eq 34, 3) := by decide +kernel
theorem d_T_whyBarred_7 : decode b_T_whyBarred 7 = .ok (.aload_n 0, 1) := by decide +kernel
theorem d_T_whyBarred_8 : decode b_T_whyBarred 8 = .ok (.getfield 15, 3) := by decide +kernel
theorem d_T_whyBarred_11 : decode b_T_whyBarred 11 = .ok (.iconst 0, 1) := by decide +kernel
theorem d_T_whyBarred_12 : decode b_T_whyBarred 12 = .ok (.iaload, 1) := by decide +kernel
theorem d_T_whyBarred_13 : decode b_T_whyBarred 13 = .ok (.iload_n 1, 1) := by decide +kernel
theorem d_T_whyBarred_14 : decode b_T_whyBarred 14 = .ok (.invokestatic 41, 3) := by decide +kernel
theorem d_T_whyBarred_17 : decode b_T_whyBarred 17 = .ok (.if_icmp .gt 21, 3) := by decide +kernel
theorem d_T_whyBarred_20 : decode b_T_whyBarred 20 = .ok (.aload_n 0, 1) := by decide +kernel
theorem d_T_whyBarred_21 : decode b_T_whyBarred 21 = .ok (.getfield 15, 3) := by decide +kernel
theorem d_T_whyBarred_24 : decode b_T_whyBarred 24 = .ok (.aload_n 0, 1) := by decide +kernel
theorem d_T_whyBarred_25 : decode b_T_whyBarred 25 = .ok (.getfield 9, 3) := by decide +kernel
theorem d_T_whyBarred_28 : decode b_T_whyBarred 28 = .ok (.iconst 1, 1) := by decide +kernel
theorem d_T_whyBarred_29 : decode b_T_whyBarred 29 = .ok (.isub, 1) := by decide +kernel
theorem d_T_whyBarred_30 : decode b_T_whyBarred 30 = .ok (.iaload, 1) := by decide +kernel
theorem d_T_whyBarred_31 : decode b_T_whyBarred 31 = .ok (.iload_n 1, 1) := by decide +kernel
theorem d_T_whyBarred_32 : decode b_T_whyBarred 32 = .ok (.invokestatic 44, 3) := by decide +kernel
theorem d_T_whyBarred_35 : decode b_T_whyBarred 35 = .ok (.if_icmp .ge 5, 3) := by decide +kernel
theorem d_T_whyBarred_38 : decode b_T_whyBarred 38 = .ok (.iconst 2, 1) := by decide +kernel
theorem d_T_whyBarred_39 : decode b_T_whyBarred 39 = .ok (.ireturn, 1) := by decide +kernel
theorem d_T_whyBarred_40 : decode b_T_whyBarred 40 = .ok (.aload_n 0, 1) := by decide +kernel
theorem d_T_whyBarred_41 : decode b_T_whyBarred 41 = .ok (.getfield 34, 3) := by decide +kernel
theorem d_T_whyBarred_44 : decode b_T_whyBarred 44 = .ok (.iload_n 1, 1) := by decide +kernel
theorem d_T_whyBarred_45 : decode b_T_whyBarred 45 = .ok (.invokestatic 44, 3) := by decide +kernel
theorem d_T_whyBarred_48 : decode b_T_whyBarred 48 = .ok (.if_icmp .ge 7, 3) := by decide +kernel
theorem d_T_whyBarred_51 : decode b_T_whyBarred 51 = .ok (.iconst 3, 1) := by decide +kernel
theorem d_T_whyBarred_52 : decode b_T_whyBarred 52 = .ok (.goto 4, 3) := by decide +kernel
theorem d_T_whyBarred_55 : decode b_T_whyBarred 55 = .ok (.iconst 0, 1) := by decide +kernel
theorem d_T_whyBarred_56 : decode b_T_whyBarred 56 = .ok (.ireturn, 1) := by decide +kernel
theorem cal_T_whyBarred : am_cal y_T_whyBarred b_T_whyBarred 2 ((Option.some FieldType.int)) 1 := ⟨Or.inl wx_549, wx_18, by decide, by decide +kernel⟩
abbrev y_S_startOf : MethodName := ⟨"BillShares", "startOf", "(I)I"⟩
abbrev b_S_startOf : ByteArray := prog_1_method_25_code
theorem d_S_startOf_0 : decode b_S_startOf 0 = .ok (.sipush 365, 3) := by decide +kernel
theorem d_S_startOf_3 : decode b_S_startOf 3 = .ok (.iload_n 0, 1) := by decide +kernel
theorem d_S_startOf_4 : decode b_S_startOf 4 = .ok (.imul, 1) := by decide +kernel
theorem d_S_startOf_5 : decode b_S_startOf 5 = .ok (.ireturn, 1) := by decide +kernel
theorem cal_S_startOf : am_cal y_S_startOf b_S_startOf 1 ((Option.some FieldType.int)) 1 := ⟨Or.inl wx_552, wx_1, by decide, by decide +kernel⟩
abbrev y_S_endOf : MethodName := ⟨"BillShares", "endOf", "(I)I"⟩
abbrev b_S_endOf : ByteArray := prog_1_method_26_code
theorem d_S_endOf_0 : decode b_S_endOf 0 = .ok (.sipush 365, 3) := by decide +kernel
theorem d_S_endOf_3 : decode b_S_endOf 3 = .ok (.iload_n 0, 1) := by decide +kernel
theorem d_S_endOf_4 : decode b_S_endOf 4 = .ok (.iconst 1, 1) := by decide +kernel
theorem d_S_endOf_5 : decode b_S_endOf 5 = .ok (.iadd, 1) := by decide +kernel
theorem d_S_endOf_6 : decode b_S_endOf 6 = .ok (.imul, 1) := by decide +kernel
theorem d_S_endOf_7 : decode b_S_endOf 7 = .ok (.ireturn, 1) := by decide +kernel
theorem cal_S_endOf : am_cal y_S_endOf b_S_endOf 1 ((Option.some FieldType.int)) 1 := ⟨Or.inl wx_555, wx_1, by decide, by decide +kernel⟩
abbrev y_F_useBetween : MethodName := ⟨"BillShares$Flat", "useBetween", "(III)J"⟩
abbrev b_F_useBetween : ByteArray := prog_3_method_9_code
theorem d_F_useBetween_0 : decode b_F_useBetween 0 = .ok (.lconst 0, 1) := by decide +kernel
theorem d_F_useBetween_1 : decode b_F_useBetween 1 = .ok (.lstore 4, 2) := by decide +kernel
theorem d_F_useBetween_3 : decode b_F_useBetween 3 = .ok (.iconst 0, 1) := by decide +kernel
theorem d_F_useBetween_4 : decode b_F_useBetween 4 = .ok (.istore 6, 2) := by decide +kernel
theorem d_F_useBetween_6 : decode b_F_useBetween 6 = .ok (.iload 6, 2) := by decide +kernel
theorem d_F_useBetween_8 : decode b_F_useBetween 8 = .ok (.aload_n 0, 1) := by decide +kernel
theorem d_F_useBetween_9 : decode b_F_useBetween 9 = .ok (.getfield 12, 3) := by decide +kernel
theorem d_F_useBetween_12 : decode b_F_useBetween 12 = .ok (.invokevirtual 50, 3) := by decide +kernel
theorem d_F_useBetween_15 : decode b_F_useBetween 15 = .ok (.if_icmp .ge 44, 3) := by decide +kernel
theorem d_F_useBetween_18 : decode b_F_useBetween 18 = .ok (.aload_n 0, 1) := by decide +kernel
theorem d_F_useBetween_19 : decode b_F_useBetween 19 = .ok (.getfield 12, 3) := by decide +kernel
theorem d_F_useBetween_22 : decode b_F_useBetween 22 = .ok (.iload 6, 2) := by decide +kernel
theorem d_F_useBetween_24 : decode b_F_useBetween 24 = .ok (.invokevirtual 54, 3) := by decide +kernel
theorem d_F_useBetween_27 : decode b_F_useBetween 27 = .ok (.checkcast 58, 3) := by decide +kernel
theorem d_F_useBetween_30 : decode b_F_useBetween 30 = .ok (.astore 7, 2) := by decide +kernel
theorem d_F_useBetween_32 : decode b_F_useBetween 32 = .ok (.aload 7, 2) := by decide +kernel
theorem d_F_useBetween_34 : decode b_F_useBetween 34 = .ok (.getfield 60, 3) := by decide +kernel
theorem d_F_useBetween_37 : decode b_F_useBetween 37 = .ok (.iload_n 1, 1) := by decide +kernel
theorem d_F_useBetween_38 : decode b_F_useBetween 38 = .ok (.if_icmp .ne 15, 3) := by decide +kernel
theorem d_F_useBetween_41 : decode b_F_useBetween 41 = .ok (.lload 4, 2) := by decide +kernel
theorem d_F_useBetween_43 : decode b_F_useBetween 43 = .ok (.aload 7, 2) := by decide +kernel
theorem d_F_useBetween_45 : decode b_F_useBetween 45 = .ok (.iload_n 2, 1) := by decide +kernel
theorem d_F_useBetween_46 : decode b_F_useBetween 46 = .ok (.iload_n 3, 1) := by decide +kernel
theorem d_F_useBetween_47 : decode b_F_useBetween 47 = .ok (.invokevirtual 66, 3) := by decide +kernel
theorem d_F_useBetween_50 : decode b_F_useBetween 50 = .ok (.ladd, 1) := by decide +kernel
theorem d_F_useBetween_51 : decode b_F_useBetween 51 = .ok (.lstore 4, 2) := by decide +kernel
theorem d_F_useBetween_53 : decode b_F_useBetween 53 = .ok (.iinc 6 1, 3) := by decide +kernel
theorem d_F_useBetween_56 : decode b_F_useBetween 56 = .ok (.goto (-50), 3) := by decide +kernel
theorem d_F_useBetween_59 : decode b_F_useBetween 59 = .ok (.lload 4, 2) := by decide +kernel
theorem d_F_useBetween_61 : decode b_F_useBetween 61 = .ok (.lreturn, 1) := by decide +kernel
theorem cal_F_useBetween : am_cal y_F_useBetween b_F_useBetween 8 ((Option.some FieldType.long)) 3 := ⟨Or.inl wx_561, wx_12, by decide, by decide +kernel⟩
abbrev y_T_useBetween : MethodName := ⟨"BillShares$Meter", "useBetween", "(II)J"⟩
abbrev b_T_useBetween : ByteArray := prog_4_method_9_code
theorem d_T_useBetween_0 : decode b_T_useBetween 0 = .ok (.lconst 0, 1) := by decide +kernel
theorem d_T_useBetween_1 : decode b_T_useBetween 1 = .ok (.lstore_n 3, 1) := by decide +kernel
theorem d_T_useBetween_2 : decode b_T_useBetween 2 = .ok (.iconst 0, 1) := by decide +kernel
theorem d_T_useBetween_3 : decode b_T_useBetween 3 = .ok (.istore 5, 2) := by decide +kernel
theorem d_T_useBetween_5 : decode b_T_useBetween 5 = .ok (.iload 5, 2) := by decide +kernel
theorem d_T_useBetween_7 : decode b_T_useBetween 7 = .ok (.iconst 1, 1) := by decide +kernel
theorem d_T_useBetween_8 : decode b_T_useBetween 8 = .ok (.iadd, 1) := by decide +kernel
theorem d_T_useBetween_9 : decode b_T_useBetween 9 = .ok (.aload_n 0, 1) := by decide +kernel
theorem d_T_useBetween_10 : decode b_T_useBetween 10 = .ok (.getfield 9, 3) := by decide +kernel
theorem d_T_useBetween_13 : decode b_T_useBetween 13 = .ok (.if_icmp .ge 27, 3) := by decide +kernel
theorem d_T_useBetween_16 : decode b_T_useBetween 16 = .ok (.lload_n 3, 1) := by decide +kernel
theorem d_T_useBetween_17 : decode b_T_useBetween 17 = .ok (.aload_n 0, 1) := by decide +kernel
theorem d_T_useBetween_18 : decode b_T_useBetween 18 = .ok (.iload 5, 2) := by decide +kernel
theorem d_T_useBetween_20 : decode b_T_useBetween 20 = .ok (.iload_n 2, 1) := by decide +kernel
theorem d_T_useBetween_21 : decode b_T_useBetween 21 = .ok (.invokevirtual 47, 3) := by decide +kernel
theorem d_T_useBetween_24 : decode b_T_useBetween 24 = .ok (.aload_n 0, 1) := by decide +kernel
theorem d_T_useBetween_25 : decode b_T_useBetween 25 = .ok (.iload 5, 2) := by decide +kernel
theorem d_T_useBetween_27 : decode b_T_useBetween 27 = .ok (.iload_n 1, 1) := by decide +kernel
theorem d_T_useBetween_28 : decode b_T_useBetween 28 = .ok (.invokevirtual 47, 3) := by decide +kernel
theorem d_T_useBetween_31 : decode b_T_useBetween 31 = .ok (.lsub, 1) := by decide +kernel
theorem d_T_useBetween_32 : decode b_T_useBetween 32 = .ok (.ladd, 1) := by decide +kernel
theorem d_T_useBetween_33 : decode b_T_useBetween 33 = .ok (.lstore_n 3, 1) := by decide +kernel
theorem d_T_useBetween_34 : decode b_T_useBetween 34 = .ok (.iinc 5 1, 3) := by decide +kernel
theorem d_T_useBetween_37 : decode b_T_useBetween 37 = .ok (.goto (-32), 3) := by decide +kernel
theorem d_T_useBetween_40 : decode b_T_useBetween 40 = .ok (.lload_n 3, 1) := by decide +kernel
theorem d_T_useBetween_41 : decode b_T_useBetween 41 = .ok (.aload_n 0, 1) := by decide +kernel
theorem d_T_useBetween_42 : decode b_T_useBetween 42 = .ok (.getfield 28, 3) := by decide +kernel
theorem d_T_useBetween_45 : decode b_T_useBetween 45 = .ok (.i2l, 1) := by decide +kernel
theorem d_T_useBetween_46 : decode b_T_useBetween 46 = .ok (.aload_n 0, 1) := by decide +kernel
theorem d_T_useBetween_47 : decode b_T_useBetween 47 = .ok (.getfield 31, 3) := by decide +kernel
theorem d_T_useBetween_50 : decode b_T_useBetween 50 = .ok (.i2l, 1) := by decide +kernel
theorem d_T_useBetween_51 : decode b_T_useBetween 51 = .ok (.invokestatic 51, 3) := by decide +kernel
theorem d_T_useBetween_54 : decode b_T_useBetween 54 = .ok (.lreturn, 1) := by decide +kernel
theorem cal_T_useBetween : am_cal y_T_useBetween b_T_useBetween 6 ((Option.some FieldType.long)) 2 := ⟨Or.inl wx_565, wx_18, by decide, by decide +kernel⟩
abbrev y_T_comesTo : MethodName := ⟨"BillShares$Meter", "comesTo", "(II)J"⟩
abbrev b_T_comesTo : ByteArray := prog_4_method_10_code
theorem d_T_comesTo_0 : decode b_T_comesTo 0 = .ok (.aload_n 0, 1) := by decide +kernel
theorem d_T_comesTo_1 : decode b_T_comesTo 1 = .ok (.getfield 19, 3) := by decide +kernel
theorem d_T_comesTo_4 : decode b_T_comesTo 4 = .ok (.iload_n 1, 1) := by decide +kernel
theorem d_T_comesTo_5 : decode b_T_comesTo 5 = .ok (.iconst 1, 1) := by decide +kernel
theorem d_T_comesTo_6 : decode b_T_comesTo 6 = .ok (.iadd, 1) := by decide +kernel
theorem d_T_comesTo_7 : decode b_T_comesTo 7 = .ok (.iaload, 1) := by decide +kernel
theorem d_T_comesTo_8 : decode b_T_comesTo 8 = .ok (.aload_n 0, 1) := by decide +kernel
theorem d_T_comesTo_9 : decode b_T_comesTo 9 = .ok (.iload_n 1, 1) := by decide +kernel
theorem d_T_comesTo_10 : decode b_T_comesTo 10 = .ok (.invokevirtual 37, 3) := by decide +kernel
theorem d_T_comesTo_13 : decode b_T_comesTo 13 = .ok (.isub, 1) := by decide +kernel
theorem d_T_comesTo_14 : decode b_T_comesTo 14 = .ok (.i2l, 1) := by decide +kernel
theorem d_T_comesTo_15 : decode b_T_comesTo 15 = .ok (.lstore_n 3, 1) := by decide +kernel
theorem d_T_comesTo_16 : decode b_T_comesTo 16 = .ok (.iload_n 2, 1) := by decide +kernel
theorem d_T_comesTo_17 : decode b_T_comesTo 17 = .ok (.aload_n 0, 1) := by decide +kernel
theorem d_T_comesTo_18 : decode b_T_comesTo 18 = .ok (.getfield 15, 3) := by decide +kernel
theorem d_T_comesTo_21 : decode b_T_comesTo 21 = .ok (.iload_n 1, 1) := by decide +kernel
theorem d_T_comesTo_22 : decode b_T_comesTo 22 = .ok (.iaload, 1) := by decide +kernel
theorem d_T_comesTo_23 : decode b_T_comesTo 23 = .ok (.if_icmp .gt 5, 3) := by decide +kernel
theorem d_T_comesTo_26 : decode b_T_comesTo 26 = .ok (.lconst 0, 1) := by decide +kernel
theorem d_T_comesTo_27 : decode b_T_comesTo 27 = .ok (.lreturn, 1) := by decide +kernel
theorem d_T_comesTo_28 : decode b_T_comesTo 28 = .ok (.iload_n 2, 1) := by decide +kernel
theorem d_T_comesTo_29 : decode b_T_comesTo 29 = .ok (.aload_n 0, 1) := by decide +kernel
theorem d_T_comesTo_30 : decode b_T_comesTo 30 = .ok (.getfield 15, 3) := by decide +kernel
theorem d_T_comesTo_33 : decode b_T_comesTo 33 = .ok (.iload_n 1, 1) := by decide +kernel
theorem d_T_comesTo_34 : decode b_T_comesTo 34 = .ok (.iconst 1, 1) := by decide +kernel
theorem d_T_comesTo_35 : decode b_T_comesTo 35 = .ok (.iadd, 1) := by decide +kernel
theorem d_T_comesTo_36 : decode b_T_comesTo 36 = .ok (.iaload, 1) := by decide +kernel
theorem d_T_comesTo_37 : decode b_T_comesTo 37 = .ok (.if_icmp .lt 5, 3) := by decide +kernel
theorem d_T_comesTo_40 : decode b_T_comesTo 40 = .ok (.lload_n 3, 1) := by decide +kernel
theorem d_T_comesTo_41 : decode b_T_comesTo 41 = .ok (.lreturn, 1) := by decide +kernel
theorem d_T_comesTo_42 : decode b_T_comesTo 42 = .ok (.lload_n 3, 1) := by decide +kernel
theorem d_T_comesTo_43 : decode b_T_comesTo 43 = .ok (.iload_n 2, 1) := by decide +kernel
theorem d_T_comesTo_44 : decode b_T_comesTo 44 = .ok (.aload_n 0, 1) := by decide +kernel
theorem d_T_comesTo_45 : decode b_T_comesTo 45 = .ok (.getfield 15, 3) := by decide +kernel
theorem d_T_comesTo_48 : decode b_T_comesTo 48 = .ok (.iload_n 1, 1) := by decide +kernel
theorem d_T_comesTo_49 : decode b_T_comesTo 49 = .ok (.iaload, 1) := by decide +kernel
theorem d_T_comesTo_50 : decode b_T_comesTo 50 = .ok (.isub, 1) := by decide +kernel
theorem d_T_comesTo_51 : decode b_T_comesTo 51 = .ok (.i2l, 1) := by decide +kernel
theorem d_T_comesTo_52 : decode b_T_comesTo 52 = .ok (.lmul, 1) := by decide +kernel
theorem d_T_comesTo_53 : decode b_T_comesTo 53 = .ok (.aload_n 0, 1) := by decide +kernel
theorem d_T_comesTo_54 : decode b_T_comesTo 54 = .ok (.getfield 15, 3) := by decide +kernel
theorem d_T_comesTo_57 : decode b_T_comesTo 57 = .ok (.iload_n 1, 1) := by decide +kernel
theorem d_T_comesTo_58 : decode b_T_comesTo 58 = .ok (.iconst 1, 1) := by decide +kernel
theorem d_T_comesTo_59 : decode b_T_comesTo 59 = .ok (.iadd, 1) := by decide +kernel
theorem d_T_comesTo_60 : decode b_T_comesTo 60 = .ok (.iaload, 1) := by decide +kernel
theorem d_T_comesTo_61 : decode b_T_comesTo 61 = .ok (.aload_n 0, 1) := by decide +kernel
theorem d_T_comesTo_62 : decode b_T_comesTo 62 = .ok (.getfield 15, 3) := by decide +kernel
theorem d_T_comesTo_65 : decode b_T_comesTo 65 = .ok (.iload_n 1, 1) := by decide +kernel
theorem d_T_comesTo_66 : decode b_T_comesTo 66 = .ok (.iaload, 1) := by decide +kernel
theorem d_T_comesTo_67 : decode b_T_comesTo 67 = .ok (.isub, 1) := by decide +kernel
theorem d_T_comesTo_68 : decode b_T_comesTo 68 = .ok (.i2l, 1) := by decide +kernel
theorem d_T_comesTo_69 : decode b_T_comesTo 69 = .ok (.ldiv, 1) := by decide +kernel
theorem d_T_comesTo_70 : decode b_T_comesTo 70 = .ok (.lreturn, 1) := by decide +kernel
theorem cal_T_comesTo : am_cal y_T_comesTo b_T_comesTo 5 ((Option.some FieldType.long)) 2 := ⟨Or.inl wx_569, wx_18, by decide, by decide +kernel⟩
abbrev y_S_use : MethodName := ⟨"BillShares", "use", "(II)J"⟩
abbrev b_S_use : ByteArray := prog_1_method_13_code
theorem d_S_use_0 : decode b_S_use 0 = .ok (.aload_n 0, 1) := by decide +kernel
theorem d_S_use_1 : decode b_S_use 1 = .ok (.iload_n 1, 1) := by decide +kernel
theorem d_S_use_2 : decode b_S_use 2 = .ok (.invokevirtual 93, 3) := by decide +kernel
theorem d_S_use_5 : decode b_S_use 5 = .ok (.astore_n 3, 1) := by decide +kernel
theorem d_S_use_6 : decode b_S_use 6 = .ok (.iload_n 2, 1) := by decide +kernel
theorem d_S_use_7 : decode b_S_use 7 = .ok (.invokestatic 117, 3) := by decide +kernel
theorem d_S_use_10 : decode b_S_use 10 = .ok (.aload_n 3, 1) := by decide +kernel
theorem d_S_use_11 : decode b_S_use 11 = .ok (.iload_n 2, 1) := by decide +kernel
theorem d_S_use_12 : decode b_S_use 12 = .ok (.invokevirtual 150, 3) := by decide +kernel
theorem d_S_use_15 : decode b_S_use 15 = .ok (.ifCond .ne 18, 3) := by decide +kernel
theorem d_S_use_18 : decode b_S_use 18 = .ok (.aload_n 3, 1) := by decide +kernel
theorem d_S_use_19 : decode b_S_use 19 = .ok (.iload_n 2, 1) := by decide +kernel
theorem d_S_use_20 : decode b_S_use 20 = .ok (.invokestatic 153, 3) := by decide +kernel
theorem d_S_use_23 : decode b_S_use 23 = .ok (.iload_n 2, 1) := by decide +kernel
theorem d_S_use_24 : decode b_S_use 24 = .ok (.invokestatic 156, 3) := by decide +kernel
theorem d_S_use_27 : decode b_S_use 27 = .ok (.invokevirtual 159, 3) := by decide +kernel
theorem d_S_use_30 : decode b_S_use 30 = .ok (.goto 6, 3) := by decide +kernel
theorem d_S_use_33 : decode b_S_use 33 = .ok (.ldc2_w 163, 3) := by decide +kernel
theorem d_S_use_36 : decode b_S_use 36 = .ok (.lreturn, 1) := by decide +kernel
theorem cal_S_use : am_cal y_S_use b_S_use 4 ((Option.some FieldType.long)) 2 := ⟨Or.inl wx_577, wx_1, by decide, by decide +kernel⟩
abbrev y_S_barred : MethodName := ⟨"BillShares", "barred", "(III)I"⟩
abbrev b_S_barred : ByteArray := prog_1_method_14_code
theorem d_S_barred_0 : decode b_S_barred 0 = .ok (.aload_n 0, 1) := by decide +kernel
theorem d_S_barred_1 : decode b_S_barred 1 = .ok (.iload_n 1, 1) := by decide +kernel
theorem d_S_barred_2 : decode b_S_barred 2 = .ok (.invokevirtual 69, 3) := by decide +kernel
theorem d_S_barred_5 : decode b_S_barred 5 = .ok (.astore 4, 2) := by decide +kernel
theorem d_S_barred_7 : decode b_S_barred 7 = .ok (.iload_n 2, 1) := by decide +kernel
theorem d_S_barred_8 : decode b_S_barred 8 = .ok (.invokestatic 73, 3) := by decide +kernel
theorem d_S_barred_11 : decode b_S_barred 11 = .ok (.iload_n 3, 1) := by decide +kernel
theorem d_S_barred_12 : decode b_S_barred 12 = .ok (.invokestatic 117, 3) := by decide +kernel
theorem d_S_barred_15 : decode b_S_barred 15 = .ok (.aload 4, 2) := by decide +kernel
theorem d_S_barred_17 : decode b_S_barred 17 = .ok (.iload_n 2, 1) := by decide +kernel
theorem d_S_barred_18 : decode b_S_barred 18 = .ok (.iload_n 3, 1) := by decide +kernel
theorem d_S_barred_19 : decode b_S_barred 19 = .ok (.invokevirtual 165, 3) := by decide +kernel
theorem d_S_barred_22 : decode b_S_barred 22 = .ok (.ireturn, 1) := by decide +kernel
theorem cal_S_barred : am_cal y_S_barred b_S_barred 5 ((Option.some FieldType.int)) 3 := ⟨Or.inl wx_587, wx_1, by decide, by decide +kernel⟩
abbrev y_S_line : MethodName := ⟨"BillShares", "line", "(IIII)J"⟩
abbrev b_S_line : ByteArray := prog_1_method_15_code
theorem d_S_line_0 : decode b_S_line 0 = .ok (.aload_n 0, 1) := by decide +kernel
theorem d_S_line_1 : decode b_S_line 1 = .ok (.iload_n 1, 1) := by decide +kernel
theorem d_S_line_2 : decode b_S_line 2 = .ok (.invokevirtual 69, 3) := by decide +kernel
theorem d_S_line_5 : decode b_S_line 5 = .ok (.astore 5, 2) := by decide +kernel
theorem d_S_line_7 : decode b_S_line 7 = .ok (.iload_n 2, 1) := by decide +kernel
theorem d_S_line_8 : decode b_S_line 8 = .ok (.invokestatic 73, 3) := by decide +kernel
theorem d_S_line_11 : decode b_S_line 11 = .ok (.iload 4, 2) := by decide +kernel
theorem d_S_line_13 : decode b_S_line 13 = .ok (.iconst 0, 1) := by decide +kernel
theorem d_S_line_14 : decode b_S_line 14 = .ok (.iconst 1, 1) := by decide +kernel
theorem d_S_line_15 : decode b_S_line 15 = .ok (.invokestatic 38, 3) := by decide +kernel
theorem d_S_line_18 : decode b_S_line 18 = .ok (.aload_n 0, 1) := by decide +kernel
theorem d_S_line_19 : decode b_S_line 19 = .ok (.aload 5, 2) := by decide +kernel
theorem d_S_line_21 : decode b_S_line 21 = .ok (.iload_n 3, 1) := by decide +kernel
theorem d_S_line_22 : decode b_S_line 22 = .ok (.invokevirtual 167, 3) := by decide +kernel
theorem d_S_line_25 : decode b_S_line 25 = .ok (.astore 6, 2) := by decide +kernel
theorem d_S_line_27 : decode b_S_line 27 = .ok (.iload 4, 2) := by decide +kernel
theorem d_S_line_29 : decode b_S_line 29 = .ok (.iconst 1, 1) := by decide +kernel
theorem d_S_line_30 : decode b_S_line 30 = .ok (.if_icmp .ne 13, 3) := by decide +kernel
theorem d_S_line_33 : decode b_S_line 33 = .ok (.aload 6, 2) := by decide +kernel
theorem d_S_line_35 : decode b_S_line 35 = .ok (.getfield 171, 3) := by decide +kernel
theorem d_S_line_38 : decode b_S_line 38 = .ok (.iload_n 2, 1) := by decide +kernel
theorem d_S_line_39 : decode b_S_line 39 = .ok (.laload, 1) := by decide +kernel
theorem d_S_line_40 : decode b_S_line 40 = .ok (.goto 18, 3) := by decide +kernel
theorem d_S_line_43 : decode b_S_line 43 = .ok (.aload 6, 2) := by decide +kernel
theorem d_S_line_45 : decode b_S_line 45 = .ok (.getfield 171, 3) := by decide +kernel
theorem d_S_line_48 : decode b_S_line 48 = .ok (.iload_n 2, 1) := by decide +kernel
theorem d_S_line_49 : decode b_S_line 49 = .ok (.laload, 1) := by decide +kernel
theorem d_S_line_50 : decode b_S_line 50 = .ok (.aload 6, 2) := by decide +kernel
theorem d_S_line_52 : decode b_S_line 52 = .ok (.getfield 176, 3) := by decide +kernel
theorem d_S_line_55 : decode b_S_line 55 = .ok (.iload_n 2, 1) := by decide +kernel
theorem d_S_line_56 : decode b_S_line 56 = .ok (.laload, 1) := by decide +kernel
theorem d_S_line_57 : decode b_S_line 57 = .ok (.ladd, 1) := by decide +kernel
theorem d_S_line_58 : decode b_S_line 58 = .ok (.lreturn, 1) := by decide +kernel
theorem cal_S_line : am_cal y_S_line b_S_line 7 ((Option.some FieldType.long)) 4 := ⟨Or.inl wx_594, wx_1, by decide, by decide +kernel⟩
abbrev y_S_latestBill : MethodName := ⟨"BillShares", "latestBill", "(LBillShares$Flat;I)LBillShares$Bill;"⟩
abbrev b_S_latestBill : ByteArray := prog_1_method_30_code
theorem d_S_latestBill_0 : decode b_S_latestBill 0 = .ok (.iload_n 2, 1) := by decide +kernel
theorem d_S_latestBill_1 : decode b_S_latestBill 1 = .ok (.invokestatic 117, 3) := by decide +kernel
theorem d_S_latestBill_4 : decode b_S_latestBill 4 = .ok (.aload_n 0, 1) := by decide +kernel
theorem d_S_latestBill_5 : decode b_S_latestBill 5 = .ok (.getfield 29, 3) := by decide +kernel
theorem d_S_latestBill_8 : decode b_S_latestBill 8 = .ok (.iload_n 2, 1) := by decide +kernel
theorem d_S_latestBill_9 : decode b_S_latestBill 9 = .ok (.iaload, 1) := by decide +kernel
theorem d_S_latestBill_10 : decode b_S_latestBill 10 = .ok (.ifCond .ne 13, 3) := by decide +kernel
theorem d_S_latestBill_13 : decode b_S_latestBill 13 = .ok (.new 46, 3) := by decide +kernel
theorem d_S_latestBill_16 : decode b_S_latestBill 16 = .ok (.dup, 1) := by decide +kernel
theorem d_S_latestBill_17 : decode b_S_latestBill 17 = .ok (.ldc 210, 2) := by decide +kernel
theorem d_S_latestBill_19 : decode b_S_latestBill 19 = .ok (.invokespecial 50, 3) := by decide +kernel
theorem d_S_latestBill_22 : decode b_S_latestBill 22 = .ok (.athrow, 1) := by decide +kernel
theorem d_S_latestBill_23 : decode b_S_latestBill 23 = .ok (.aload_n 1, 1) := by decide +kernel
theorem d_S_latestBill_24 : decode b_S_latestBill 24 = .ok (.getfield 212, 3) := by decide +kernel
theorem d_S_latestBill_27 : decode b_S_latestBill 27 = .ok (.iload_n 2, 1) := by decide +kernel
theorem d_S_latestBill_28 : decode b_S_latestBill 28 = .ok (.aaload, 1) := by decide +kernel
theorem d_S_latestBill_29 : decode b_S_latestBill 29 = .ok (.astore_n 3, 1) := by decide +kernel
theorem d_S_latestBill_30 : decode b_S_latestBill 30 = .ok (.aload_n 3, 1) := by decide +kernel
theorem d_S_latestBill_31 : decode b_S_latestBill 31 = .ok (.ifnonnull 13, 3) := by decide +kernel
theorem d_S_latestBill_34 : decode b_S_latestBill 34 = .ok (.new 104, 3) := by decide +kernel
theorem d_S_latestBill_37 : decode b_S_latestBill 37 = .ok (.dup, 1) := by decide +kernel
theorem d_S_latestBill_38 : decode b_S_latestBill 38 = .ok (.ldc 216, 2) := by decide +kernel
theorem d_S_latestBill_40 : decode b_S_latestBill 40 = .ok (.invokespecial 108, 3) := by decide +kernel
theorem d_S_latestBill_43 : decode b_S_latestBill 43 = .ok (.athrow, 1) := by decide +kernel
theorem d_S_latestBill_44 : decode b_S_latestBill 44 = .ok (.aload_n 3, 1) := by decide +kernel
theorem d_S_latestBill_45 : decode b_S_latestBill 45 = .ok (.areturn, 1) := by decide +kernel
theorem cal_S_latestBill : am_cal y_S_latestBill b_S_latestBill 4 ((Option.some (FieldType.object "BillShares$Bill"))) 2 := ⟨Or.inl wx_598, wx_1, by decide, by decide +kernel⟩
abbrev y_S_share : MethodName := ⟨"BillShares", "share", "(II)J"⟩
abbrev b_S_share : ByteArray := prog_1_method_16_code
theorem d_S_share_0 : decode b_S_share 0 = .ok (.aload_n 0, 1) := by decide +kernel
theorem d_S_share_1 : decode b_S_share 1 = .ok (.aload_n 0, 1) := by decide +kernel
theorem d_S_share_2 : decode b_S_share 2 = .ok (.iload_n 1, 1) := by decide +kernel
theorem d_S_share_3 : decode b_S_share 3 = .ok (.invokevirtual 69, 3) := by decide +kernel
theorem d_S_share_6 : decode b_S_share 6 = .ok (.iload_n 2, 1) := by decide +kernel
theorem d_S_share_7 : decode b_S_share 7 = .ok (.invokevirtual 167, 3) := by decide +kernel
theorem d_S_share_10 : decode b_S_share 10 = .ok (.invokevirtual 179, 3) := by decide +kernel
theorem d_S_share_13 : decode b_S_share 13 = .ok (.lreturn, 1) := by decide +kernel
theorem cal_S_share : am_cal y_S_share b_S_share 3 ((Option.some FieldType.long)) 2 := ⟨Or.inl wx_607, wx_1, by decide, by decide +kernel⟩
abbrev y_S_part : MethodName := ⟨"BillShares", "part", "(III)J"⟩
abbrev b_S_part : ByteArray := prog_1_method_17_code
theorem d_S_part_0 : decode b_S_part 0 = .ok (.aload_n 0, 1) := by decide +kernel
theorem d_S_part_1 : decode b_S_part 1 = .ok (.iload_n 1, 1) := by decide +kernel
theorem d_S_part_2 : decode b_S_part 2 = .ok (.invokevirtual 69, 3) := by decide +kernel
theorem d_S_part_5 : decode b_S_part 5 = .ok (.astore 4, 2) := by decide +kernel
theorem d_S_part_7 : decode b_S_part 7 = .ok (.iload_n 2, 1) := by decide +kernel
theorem d_S_part_8 : decode b_S_part 8 = .ok (.iconst 0, 1) := by decide +kernel
theorem d_S_part_9 : decode b_S_part 9 = .ok (.aload 4, 2) := by decide +kernel
theorem d_S_part_11 : decode b_S_part 11 = .ok (.getfield 126, 3) := by decide +kernel
theorem d_S_part_14 : decode b_S_part 14 = .ok (.iconst 1, 1) := by decide +kernel
theorem d_S_part_15 : decode b_S_part 15 = .ok (.isub, 1) := by decide +kernel
theorem d_S_part_16 : decode b_S_part 16 = .ok (.invokestatic 38, 3) := by decide +kernel
theorem d_S_part_19 : decode b_S_part 19 = .ok (.aload_n 0, 1) := by decide +kernel
theorem d_S_part_20 : decode b_S_part 20 = .ok (.aload 4, 2) := by decide +kernel
theorem d_S_part_22 : decode b_S_part 22 = .ok (.iload_n 3, 1) := by decide +kernel
theorem d_S_part_23 : decode b_S_part 23 = .ok (.invokevirtual 167, 3) := by decide +kernel
theorem d_S_part_26 : decode b_S_part 26 = .ok (.astore 5, 2) := by decide +kernel
theorem d_S_part_28 : decode b_S_part 28 = .ok (.aload 4, 2) := by decide +kernel
theorem d_S_part_30 : decode b_S_part 30 = .ok (.iload_n 3, 1) := by decide +kernel
theorem d_S_part_31 : decode b_S_part 31 = .ok (.invokevirtual 183, 3) := by decide +kernel
theorem d_S_part_34 : decode b_S_part 34 = .ok (.istore 6, 2) := by decide +kernel
theorem d_S_part_36 : decode b_S_part 36 = .ok (.iload_n 2, 1) := by decide +kernel
theorem d_S_part_37 : decode b_S_part 37 = .ok (.iload 6, 2) := by decide +kernel
theorem d_S_part_39 : decode b_S_part 39 = .ok (.if_icmp .eq 13, 3) := by decide +kernel
theorem d_S_part_42 : decode b_S_part 42 = .ok (.aload 4, 2) := by decide +kernel
theorem d_S_part_44 : decode b_S_part 44 = .ok (.aload 5, 2) := by decide +kernel
theorem d_S_part_46 : decode b_S_part 46 = .ok (.iload_n 2, 1) := by decide +kernel
theorem d_S_part_47 : decode b_S_part 47 = .ok (.iload_n 3, 1) := by decide +kernel
theorem d_S_part_48 : decode b_S_part 48 = .ok (.invokestatic 186, 3) := by decide +kernel
theorem d_S_part_51 : decode b_S_part 51 = .ok (.lreturn, 1) := by decide +kernel
theorem d_S_part_52 : decode b_S_part 52 = .ok (.aload 5, 2) := by decide +kernel
theorem d_S_part_54 : decode b_S_part 54 = .ok (.invokevirtual 179, 3) := by decide +kernel
theorem d_S_part_57 : decode b_S_part 57 = .ok (.lstore 7, 2) := by decide +kernel
theorem d_S_part_59 : decode b_S_part 59 = .ok (.iconst 0, 1) := by decide +kernel
theorem d_S_part_60 : decode b_S_part 60 = .ok (.istore 9, 2) := by decide +kernel
theorem d_S_part_62 : decode b_S_part 62 = .ok (.iload 9, 2) := by decide +kernel
theorem d_S_part_64 : decode b_S_part 64 = .ok (.iload 6, 2) := by decide +kernel
theorem d_S_part_66 : decode b_S_part 66 = .ok (.if_icmp .ge 24, 3) := by decide +kernel
theorem d_S_part_69 : decode b_S_part 69 = .ok (.lload 7, 2) := by decide +kernel
theorem d_S_part_71 : decode b_S_part 71 = .ok (.aload 4, 2) := by decide +kernel
theorem d_S_part_73 : decode b_S_part 73 = .ok (.aload 5, 2) := by decide +kernel
theorem d_S_part_75 : decode b_S_part 75 = .ok (.iload 9, 2) := by decide +kernel
theorem d_S_part_77 : decode b_S_part 77 = .ok (.iload_n 3, 1) := by decide +kernel
theorem d_S_part_78 : decode b_S_part 78 = .ok (.invokestatic 186, 3) := by decide +kernel
theorem d_S_part_81 : decode b_S_part 81 = .ok (.lsub, 1) := by decide +kernel
theorem d_S_part_82 : decode b_S_part 82 = .ok (.lstore 7, 2) := by decide +kernel
theorem d_S_part_84 : decode b_S_part 84 = .ok (.iinc 9 1, 3) := by decide +kernel
theorem d_S_part_87 : decode b_S_part 87 = .ok (.goto (-25), 3) := by decide +kernel
theorem d_S_part_90 : decode b_S_part 90 = .ok (.lload 7, 2) := by decide +kernel
theorem d_S_part_92 : decode b_S_part 92 = .ok (.lreturn, 1) := by decide +kernel
theorem cal_S_part : am_cal y_S_part b_S_part 10 ((Option.some FieldType.long)) 3 := ⟨Or.inl wx_614, wx_1, by decide, by decide +kernel⟩
abbrev y_F_lastDwellerIn : MethodName := ⟨"BillShares$Flat", "lastDwellerIn", "(I)I"⟩
abbrev b_F_lastDwellerIn : ByteArray := prog_3_method_6_code
theorem d_F_lastDwellerIn_0 : decode b_F_lastDwellerIn 0 = .ok (.iconst 0, 1) := by decide +kernel
theorem d_F_lastDwellerIn_1 : decode b_F_lastDwellerIn 1 = .ok (.istore_n 2, 1) := by decide +kernel
theorem d_F_lastDwellerIn_2 : decode b_F_lastDwellerIn 2 = .ok (.iconst 1, 1) := by decide +kernel
theorem d_F_lastDwellerIn_3 : decode b_F_lastDwellerIn 3 = .ok (.istore_n 3, 1) := by decide +kernel
theorem d_F_lastDwellerIn_4 : decode b_F_lastDwellerIn 4 = .ok (.iload_n 3, 1) := by decide +kernel
theorem d_F_lastDwellerIn_5 : decode b_F_lastDwellerIn 5 = .ok (.aload_n 0, 1) := by decide +kernel
theorem d_F_lastDwellerIn_6 : decode b_F_lastDwellerIn 6 = .ok (.getfield 22, 3) := by decide +kernel
theorem d_F_lastDwellerIn_9 : decode b_F_lastDwellerIn 9 = .ok (.if_icmp .ge 24, 3) := by decide +kernel
theorem d_F_lastDwellerIn_12 : decode b_F_lastDwellerIn 12 = .ok (.aload_n 0, 1) := by decide +kernel
theorem d_F_lastDwellerIn_13 : decode b_F_lastDwellerIn 13 = .ok (.getfield 18, 3) := by decide +kernel
theorem d_F_lastDwellerIn_16 : decode b_F_lastDwellerIn 16 = .ok (.iload_n 3, 1) := by decide +kernel
theorem d_F_lastDwellerIn_17 : decode b_F_lastDwellerIn 17 = .ok (.iaload, 1) := by decide +kernel
theorem d_F_lastDwellerIn_18 : decode b_F_lastDwellerIn 18 = .ok (.iload_n 1, 1) := by decide +kernel
theorem d_F_lastDwellerIn_19 : decode b_F_lastDwellerIn 19 = .ok (.invokestatic 46, 3) := by decide +kernel
theorem d_F_lastDwellerIn_22 : decode b_F_lastDwellerIn 22 = .ok (.if_icmp .ge 5, 3) := by decide +kernel
theorem d_F_lastDwellerIn_25 : decode b_F_lastDwellerIn 25 = .ok (.iload_n 3, 1) := by decide +kernel
theorem d_F_lastDwellerIn_26 : decode b_F_lastDwellerIn 26 = .ok (.istore_n 2, 1) := by decide +kernel
theorem d_F_lastDwellerIn_27 : decode b_F_lastDwellerIn 27 = .ok (.iinc 3 1, 3) := by decide +kernel
theorem d_F_lastDwellerIn_30 : decode b_F_lastDwellerIn 30 = .ok (.goto (-26), 3) := by decide +kernel
theorem d_F_lastDwellerIn_33 : decode b_F_lastDwellerIn 33 = .ok (.iload_n 2, 1) := by decide +kernel
theorem d_F_lastDwellerIn_34 : decode b_F_lastDwellerIn 34 = .ok (.ireturn, 1) := by decide +kernel
theorem cal_F_lastDwellerIn : am_cal y_F_lastDwellerIn b_F_lastDwellerIn 4 ((Option.some FieldType.int)) 1 := ⟨Or.inl wx_618, wx_12, by decide, by decide +kernel⟩
abbrev y_S_partByFloors : MethodName := ⟨"BillShares", "partByFloors", "(LBillShares$Flat;LBillShares$Bill;II)J"⟩
abbrev b_S_partByFloors : ByteArray := prog_1_method_39_code
theorem d_S_partByFloors_0 : decode b_S_partByFloors 0 = .ok (.aload_n 0, 1) := by decide +kernel
theorem d_S_partByFloors_1 : decode b_S_partByFloors 1 = .ok (.iload_n 2, 1) := by decide +kernel
theorem d_S_partByFloors_2 : decode b_S_partByFloors 2 = .ok (.invokevirtual 274, 3) := by decide +kernel
theorem d_S_partByFloors_5 : decode b_S_partByFloors 5 = .ok (.iload_n 3, 1) := by decide +kernel
theorem d_S_partByFloors_6 : decode b_S_partByFloors 6 = .ok (.invokestatic 153, 3) := by decide +kernel
theorem d_S_partByFloors_9 : decode b_S_partByFloors 9 = .ok (.invokestatic 277, 3) := by decide +kernel
theorem d_S_partByFloors_12 : decode b_S_partByFloors 12 = .ok (.istore 4, 2) := by decide +kernel
theorem d_S_partByFloors_14 : decode b_S_partByFloors 14 = .ok (.aload_n 0, 1) := by decide +kernel
theorem d_S_partByFloors_15 : decode b_S_partByFloors 15 = .ok (.iload_n 2, 1) := by decide +kernel
theorem d_S_partByFloors_16 : decode b_S_partByFloors 16 = .ok (.invokevirtual 282, 3) := by decide +kernel
theorem d_S_partByFloors_19 : decode b_S_partByFloors 19 = .ok (.iload_n 3, 1) := by decide +kernel
theorem d_S_partByFloors_20 : decode b_S_partByFloors 20 = .ok (.invokestatic 156, 3) := by decide +kernel
theorem d_S_partByFloors_23 : decode b_S_partByFloors 23 = .ok (.invokestatic 285, 3) := by decide +kernel
theorem d_S_partByFloors_26 : decode b_S_partByFloors 26 = .ok (.istore 5, 2) := by decide +kernel
theorem d_S_partByFloors_28 : decode b_S_partByFloors 28 = .ok (.iload 5, 2) := by decide +kernel
theorem d_S_partByFloors_30 : decode b_S_partByFloors 30 = .ok (.iload 4, 2) := by decide +kernel
theorem d_S_partByFloors_32 : decode b_S_partByFloors 32 = .ok (.if_icmp .gt 5, 3) := by decide +kernel
theorem d_S_partByFloors_35 : decode b_S_partByFloors 35 = .ok (.lconst 0, 1) := by decide +kernel
theorem d_S_partByFloors_36 : decode b_S_partByFloors 36 = .ok (.lreturn, 1) := by decide +kernel
theorem d_S_partByFloors_37 : decode b_S_partByFloors 37 = .ok (.lconst 0, 1) := by decide +kernel
theorem d_S_partByFloors_38 : decode b_S_partByFloors 38 = .ok (.lstore 6, 2) := by decide +kernel
theorem d_S_partByFloors_40 : decode b_S_partByFloors 40 = .ok (.iconst 0, 1) := by decide +kernel
theorem d_S_partByFloors_41 : decode b_S_partByFloors 41 = .ok (.istore 8, 2) := by decide +kernel
theorem d_S_partByFloors_43 : decode b_S_partByFloors 43 = .ok (.iload 8, 2) := by decide +kernel
theorem d_S_partByFloors_45 : decode b_S_partByFloors 45 = .ok (.iconst 4, 1) := by decide +kernel
theorem d_S_partByFloors_46 : decode b_S_partByFloors 46 = .ok (.if_icmp .ge 56, 3) := by decide +kernel
theorem d_S_partByFloors_49 : decode b_S_partByFloors 49 = .ok (.lload 6, 2) := by decide +kernel
theorem d_S_partByFloors_51 : decode b_S_partByFloors 51 = .ok (.aload_n 1, 1) := by decide +kernel
theorem d_S_partByFloors_52 : decode b_S_partByFloors 52 = .ok (.getfield 171, 3) := by decide +kernel
theorem d_S_partByFloors_55 : decode b_S_partByFloors 55 = .ok (.iload 8, 2) := by decide +kernel
theorem d_S_partByFloors_57 : decode b_S_partByFloors 57 = .ok (.laload, 1) := by decide +kernel
theorem d_S_partByFloors_58 : decode b_S_partByFloors 58 = .ok (.iload 5, 2) := by decide +kernel
theorem d_S_partByFloors_60 : decode b_S_partByFloors 60 = .ok (.iload 4, 2) := by decide +kernel
theorem d_S_partByFloors_62 : decode b_S_partByFloors 62 = .ok (.isub, 1) := by decide +kernel
theorem d_S_partByFloors_63 : decode b_S_partByFloors 63 = .ok (.i2l, 1) := by decide +kernel
theorem d_S_partByFloors_64 : decode b_S_partByFloors 64 = .ok (.ldc2_w 288, 3) := by decide +kernel
theorem d_S_partByFloors_67 : decode b_S_partByFloors 67 = .ok (.invokestatic 241, 3) := by decide +kernel
theorem d_S_partByFloors_70 : decode b_S_partByFloors 70 = .ok (.ladd, 1) := by decide +kernel
theorem d_S_partByFloors_71 : decode b_S_partByFloors 71 = .ok (.lstore 6, 2) := by decide +kernel
theorem d_S_partByFloors_73 : decode b_S_partByFloors 73 = .ok (.lload 6, 2) := by decide +kernel
theorem d_S_partByFloors_75 : decode b_S_partByFloors 75 = .ok (.aload_n 0, 1) := by decide +kernel
theorem d_S_partByFloors_76 : decode b_S_partByFloors 76 = .ok (.aload_n 1, 1) := by decide +kernel
theorem d_S_partByFloors_77 : decode b_S_partByFloors 77 = .ok (.getfield 176, 3) := by decide +kernel
theorem d_S_partByFloors_80 : decode b_S_partByFloors 80 = .ok (.iload 8, 2) := by decide +kernel
theorem d_S_partByFloors_82 : decode b_S_partByFloors 82 = .ok (.laload, 1) := by decide +kernel
theorem d_S_partByFloors_83 : decode b_S_partByFloors 83 = .ok (.iload 8, 2) := by decide +kernel
theorem d_S_partByFloors_85 : decode b_S_partByFloors 85 = .ok (.iload_n 3, 1) := by decide +kernel
theorem d_S_partByFloors_86 : decode b_S_partByFloors 86 = .ok (.iload 4, 2) := by decide +kernel
theorem d_S_partByFloors_88 : decode b_S_partByFloors 88 = .ok (.iload 5, 2) := by decide +kernel
theorem d_S_partByFloors_90 : decode b_S_partByFloors 90 = .ok (.invokestatic 290, 3) := by decide +kernel
theorem d_S_partByFloors_93 : decode b_S_partByFloors 93 = .ok (.ladd, 1) := by decide +kernel
theorem d_S_partByFloors_94 : decode b_S_partByFloors 94 = .ok (.lstore 6, 2) := by decide +kernel
theorem d_S_partByFloors_96 : decode b_S_partByFloors 96 = .ok (.iinc 8 1, 3) := by decide +kernel
theorem d_S_partByFloors_99 : decode b_S_partByFloors 99 = .ok (.goto (-56), 3) := by decide +kernel
theorem d_S_partByFloors_102 : decode b_S_partByFloors 102 = .ok (.lload 6, 2) := by decide +kernel
theorem d_S_partByFloors_104 : decode b_S_partByFloors 104 = .ok (.lreturn, 1) := by decide +kernel
theorem cal_S_partByFloors : am_cal y_S_partByFloors b_S_partByFloors 9 ((Option.some FieldType.long)) 4 := ⟨Or.inl wx_622, wx_1, by decide, by decide +kernel⟩
abbrev y_F_movedOut : MethodName := ⟨"BillShares$Flat", "movedOut", "(I)I"⟩
abbrev b_F_movedOut : ByteArray := prog_3_method_5_code
theorem d_F_movedOut_0 : decode b_F_movedOut 0 = .ok (.iload_n 1, 1) := by decide +kernel
theorem d_F_movedOut_1 : decode b_F_movedOut 1 = .ok (.iconst 1, 1) := by decide +kernel
theorem d_F_movedOut_2 : decode b_F_movedOut 2 = .ok (.iadd, 1) := by decide +kernel
theorem d_F_movedOut_3 : decode b_F_movedOut 3 = .ok (.aload_n 0, 1) := by decide +kernel
theorem d_F_movedOut_4 : decode b_F_movedOut 4 = .ok (.getfield 22, 3) := by decide +kernel
theorem d_F_movedOut_7 : decode b_F_movedOut 7 = .ok (.if_icmp .ge 13, 3) := by decide +kernel
theorem d_F_movedOut_10 : decode b_F_movedOut 10 = .ok (.aload_n 0, 1) := by decide +kernel
theorem d_F_movedOut_11 : decode b_F_movedOut 11 = .ok (.iload_n 1, 1) := by decide +kernel
theorem d_F_movedOut_12 : decode b_F_movedOut 12 = .ok (.iconst 1, 1) := by decide +kernel
theorem d_F_movedOut_13 : decode b_F_movedOut 13 = .ok (.iadd, 1) := by decide +kernel
theorem d_F_movedOut_14 : decode b_F_movedOut 14 = .ok (.invokevirtual 42, 3) := by decide +kernel
theorem d_F_movedOut_17 : decode b_F_movedOut 17 = .ok (.goto 6, 3) := by decide +kernel
theorem d_F_movedOut_20 : decode b_F_movedOut 20 = .ok (.sipush 3650, 3) := by decide +kernel
theorem d_F_movedOut_23 : decode b_F_movedOut 23 = .ok (.ireturn, 1) := by decide +kernel
theorem cal_F_movedOut : am_cal y_F_movedOut b_F_movedOut 2 ((Option.some FieldType.int)) 1 := ⟨Or.inl wx_628, wx_12, by decide, by decide +kernel⟩
abbrev y_S_usedPartBetween : MethodName := ⟨"BillShares", "usedPartBetween", "(LBillShares$Flat;JIIII)J"⟩
abbrev b_S_usedPartBetween : ByteArray := prog_1_method_40_code
theorem d_S_usedPartBetween_0 : decode b_S_usedPartBetween 0 = .ok (.aload_n 0, 1) := by decide +kernel
theorem d_S_usedPartBetween_1 : decode b_S_usedPartBetween 1 = .ok (.iload_n 3, 1) := by decide +kernel
theorem d_S_usedPartBetween_2 : decode b_S_usedPartBetween 2 = .ok (.iload 4, 2) := by decide +kernel
theorem d_S_usedPartBetween_4 : decode b_S_usedPartBetween 4 = .ok (.invokevirtual 165, 3) := by decide +kernel
theorem d_S_usedPartBetween_7 : decode b_S_usedPartBetween 7 = .ok (.ifCond .ne 43, 3) := by decide +kernel
theorem d_S_usedPartBetween_10 : decode b_S_usedPartBetween 10 = .ok (.aload_n 0, 1) := by decide +kernel
theorem d_S_usedPartBetween_11 : decode b_S_usedPartBetween 11 = .ok (.iload_n 3, 1) := by decide +kernel
theorem d_S_usedPartBetween_12 : decode b_S_usedPartBetween 12 = .ok (.iload 4, 2) := by decide +kernel
theorem d_S_usedPartBetween_14 : decode b_S_usedPartBetween 14 = .ok (.invokestatic 153, 3) := by decide +kernel
theorem d_S_usedPartBetween_17 : decode b_S_usedPartBetween 17 = .ok (.iload 4, 2) := by decide +kernel
theorem d_S_usedPartBetween_19 : decode b_S_usedPartBetween 19 = .ok (.invokestatic 156, 3) := by decide +kernel
theorem d_S_usedPartBetween_22 : decode b_S_usedPartBetween 22 = .ok (.invokevirtual 268, 3) := by decide +kernel
theorem d_S_usedPartBetween_25 : decode b_S_usedPartBetween 25 = .ok (.lstore 7, 2) := by decide +kernel
theorem d_S_usedPartBetween_27 : decode b_S_usedPartBetween 27 = .ok (.lload 7, 2) := by decide +kernel
theorem d_S_usedPartBetween_29 : decode b_S_usedPartBetween 29 = .ok (.lconst 0, 1) := by decide +kernel
theorem d_S_usedPartBetween_30 : decode b_S_usedPartBetween 30 = .ok (.lcmp, 1) := by decide +kernel
theorem d_S_usedPartBetween_31 : decode b_S_usedPartBetween 31 = .ok (.ifCond .le 19, 3) := by decide +kernel
theorem d_S_usedPartBetween_34 : decode b_S_usedPartBetween 34 = .ok (.lload_n 1, 1) := by decide +kernel
theorem d_S_usedPartBetween_35 : decode b_S_usedPartBetween 35 = .ok (.aload_n 0, 1) := by decide +kernel
theorem d_S_usedPartBetween_36 : decode b_S_usedPartBetween 36 = .ok (.iload_n 3, 1) := by decide +kernel
theorem d_S_usedPartBetween_37 : decode b_S_usedPartBetween 37 = .ok (.iload 5, 2) := by decide +kernel
theorem d_S_usedPartBetween_39 : decode b_S_usedPartBetween 39 = .ok (.iload 6, 2) := by decide +kernel
theorem d_S_usedPartBetween_41 : decode b_S_usedPartBetween 41 = .ok (.invokevirtual 268, 3) := by decide +kernel
theorem d_S_usedPartBetween_44 : decode b_S_usedPartBetween 44 = .ok (.lload 7, 2) := by decide +kernel
theorem d_S_usedPartBetween_46 : decode b_S_usedPartBetween 46 = .ok (.invokestatic 241, 3) := by decide +kernel
theorem d_S_usedPartBetween_49 : decode b_S_usedPartBetween 49 = .ok (.lreturn, 1) := by decide +kernel
theorem d_S_usedPartBetween_50 : decode b_S_usedPartBetween 50 = .ok (.lload_n 1, 1) := by decide +kernel
theorem d_S_usedPartBetween_51 : decode b_S_usedPartBetween 51 = .ok (.iload 6, 2) := by decide +kernel
theorem d_S_usedPartBetween_53 : decode b_S_usedPartBetween 53 = .ok (.iload 5, 2) := by decide +kernel
theorem d_S_usedPartBetween_55 : decode b_S_usedPartBetween 55 = .ok (.isub, 1) := by decide +kernel
theorem d_S_usedPartBetween_56 : decode b_S_usedPartBetween 56 = .ok (.i2l, 1) := by decide +kernel
theorem d_S_usedPartBetween_57 : decode b_S_usedPartBetween 57 = .ok (.ldc2_w 288, 3) := by decide +kernel
theorem d_S_usedPartBetween_60 : decode b_S_usedPartBetween 60 = .ok (.invokestatic 241, 3) := by decide +kernel
theorem d_S_usedPartBetween_63 : decode b_S_usedPartBetween 63 = .ok (.lreturn, 1) := by decide +kernel
theorem cal_S_usedPartBetween : am_cal y_S_usedPartBetween b_S_usedPartBetween 9 ((Option.some FieldType.long)) 6 := ⟨Or.inl wx_633, wx_1, by decide, by decide +kernel⟩
abbrev y_S_balance : MethodName := ⟨"BillShares", "balance", "(II)J"⟩
abbrev b_S_balance : ByteArray := prog_1_method_18_code
theorem d_S_balance_0 : decode b_S_balance 0 = .ok (.aload_n 0, 1) := by decide +kernel
theorem d_S_balance_1 : decode b_S_balance 1 = .ok (.iload_n 1, 1) := by decide +kernel
theorem d_S_balance_2 : decode b_S_balance 2 = .ok (.invokevirtual 69, 3) := by decide +kernel
theorem d_S_balance_5 : decode b_S_balance 5 = .ok (.astore_n 3, 1) := by decide +kernel
theorem d_S_balance_6 : decode b_S_balance 6 = .ok (.aload_n 0, 1) := by decide +kernel
theorem d_S_balance_7 : decode b_S_balance 7 = .ok (.aload_n 3, 1) := by decide +kernel
theorem d_S_balance_8 : decode b_S_balance 8 = .ok (.iload_n 2, 1) := by decide +kernel
theorem d_S_balance_9 : decode b_S_balance 9 = .ok (.invokevirtual 167, 3) := by decide +kernel
theorem d_S_balance_12 : decode b_S_balance 12 = .ok (.invokevirtual 179, 3) := by decide +kernel
theorem d_S_balance_15 : decode b_S_balance 15 = .ok (.aload_n 3, 1) := by decide +kernel
theorem d_S_balance_16 : decode b_S_balance 16 = .ok (.getfield 134, 3) := by decide +kernel
theorem d_S_balance_19 : decode b_S_balance 19 = .ok (.iload_n 2, 1) := by decide +kernel
theorem d_S_balance_20 : decode b_S_balance 20 = .ok (.laload, 1) := by decide +kernel
theorem d_S_balance_21 : decode b_S_balance 21 = .ok (.lsub, 1) := by decide +kernel
theorem d_S_balance_22 : decode b_S_balance 22 = .ok (.lreturn, 1) := by decide +kernel
theorem cal_S_balance : am_cal y_S_balance b_S_balance 4 ((Option.some FieldType.long)) 2 := ⟨Or.inl wx_640, wx_1, by decide, by decide +kernel⟩
abbrev y_S_difference : MethodName := ⟨"BillShares", "difference", "(II)J"⟩
abbrev b_S_difference : ByteArray := prog_1_method_19_code
theorem d_S_difference_0 : decode b_S_difference 0 = .ok (.aload_n 0, 1) := by decide +kernel
theorem d_S_difference_1 : decode b_S_difference 1 = .ok (.aload_n 0, 1) := by decide +kernel
theorem d_S_difference_2 : decode b_S_difference 2 = .ok (.iload_n 1, 1) := by decide +kernel
theorem d_S_difference_3 : decode b_S_difference 3 = .ok (.invokevirtual 69, 3) := by decide +kernel
theorem d_S_difference_6 : decode b_S_difference 6 = .ok (.iload_n 2, 1) := by decide +kernel
theorem d_S_difference_7 : decode b_S_difference 7 = .ok (.invokevirtual 167, 3) := by decide +kernel
theorem d_S_difference_10 : decode b_S_difference 10 = .ok (.astore_n 3, 1) := by decide +kernel
theorem d_S_difference_11 : decode b_S_difference 11 = .ok (.aload_n 0, 1) := by decide +kernel
theorem d_S_difference_12 : decode b_S_difference 12 = .ok (.getfield 29, 3) := by decide +kernel
theorem d_S_difference_15 : decode b_S_difference 15 = .ok (.iload_n 2, 1) := by decide +kernel
theorem d_S_difference_16 : decode b_S_difference 16 = .ok (.iaload, 1) := by decide +kernel
theorem d_S_difference_17 : decode b_S_difference 17 = .ok (.iconst 1, 1) := by decide +kernel
theorem d_S_difference_18 : decode b_S_difference 18 = .ok (.if_icmp .ne 7, 3) := by decide +kernel
theorem d_S_difference_21 : decode b_S_difference 21 = .ok (.lconst 0, 1) := by decide +kernel
theorem d_S_difference_22 : decode b_S_difference 22 = .ok (.goto 12, 3) := by decide +kernel
theorem d_S_difference_25 : decode b_S_difference 25 = .ok (.aload_n 3, 1) := by decide +kernel
theorem d_S_difference_26 : decode b_S_difference 26 = .ok (.invokevirtual 179, 3) := by decide +kernel
theorem d_S_difference_29 : decode b_S_difference 29 = .ok (.aload_n 3, 1) := by decide +kernel
theorem d_S_difference_30 : decode b_S_difference 30 = .ok (.getfield 190, 3) := by decide +kernel
theorem d_S_difference_33 : decode b_S_difference 33 = .ok (.lsub, 1) := by decide +kernel
theorem d_S_difference_34 : decode b_S_difference 34 = .ok (.lreturn, 1) := by decide +kernel
theorem cal_S_difference : am_cal y_S_difference b_S_difference 4 ((Option.some FieldType.long)) 2 := ⟨Or.inl wx_647, wx_1, by decide, by decide +kernel⟩
abbrev y_S_edition : MethodName := ⟨"BillShares", "edition", "(I)I"⟩
abbrev b_S_edition : ByteArray := prog_1_method_20_code
theorem d_S_edition_0 : decode b_S_edition 0 = .ok (.iload_n 1, 1) := by decide +kernel
theorem d_S_edition_1 : decode b_S_edition 1 = .ok (.invokestatic 117, 3) := by decide +kernel
theorem d_S_edition_4 : decode b_S_edition 4 = .ok (.aload_n 0, 1) := by decide +kernel
theorem d_S_edition_5 : decode b_S_edition 5 = .ok (.getfield 29, 3) := by decide +kernel
theorem d_S_edition_8 : decode b_S_edition 8 = .ok (.iload_n 1, 1) := by decide +kernel
theorem d_S_edition_9 : decode b_S_edition 9 = .ok (.iaload, 1) := by decide +kernel
theorem d_S_edition_10 : decode b_S_edition 10 = .ok (.ireturn, 1) := by decide +kernel
theorem cal_S_edition : am_cal y_S_edition b_S_edition 2 ((Option.some FieldType.int)) 1 := ⟨Or.inl wx_654, wx_1, by decide, by decide +kernel⟩
end
section
/-! code rows (written by wip/whole/mkcode.py) -/
abbrev y_O_init : MethodName := ⟨"java/lang/Object", "<init>", "()V"⟩
abbrev b_O_init : ByteArray := object_method_1_code
theorem d_O_init_0 : decode b_O_init 0 = .ok (.return_, 1) := by decide +kernel
abbrev y_A_init : MethodName := ⟨"java/util/ArrayList", "<init>", "()V"⟩
abbrev b_A_init : ByteArray := prog_20_method_2_code
theorem d_A_init_0 : decode b_A_init 0 = .ok (.aload_n 0, 1) := by decide +kernel
theorem d_A_init_1 : decode b_A_init 1 = .ok (.invokespecial 1, 3) := by decide +kernel
theorem d_A_init_4 : decode b_A_init 4 = .ok (.aload_n 0, 1) := by decide +kernel
theorem d_A_init_5 : decode b_A_init 5 = .ok (.getstatic 39, 3) := by decide +kernel
theorem d_A_init_8 : decode b_A_init 8 = .ok (.putfield 9, 3) := by decide +kernel
theorem d_A_init_11 : decode b_A_init 11 = .ok (.return_, 1) := by decide +kernel
theorem cal_A_init : am_cal y_A_init b_A_init 1 ((Option.none : Option FieldType)) 0 := ⟨Or.inl wx_32, wx_4, by decide, by decide +kernel⟩
abbrev y_AL_init : MethodName := ⟨"java/util/AbstractList", "<init>", "()V"⟩
abbrev b_AL_init : ByteArray := prog_19_method_1_code
theorem d_AL_init_0 : decode b_AL_init 0 = .ok (.aload_n 0, 1) := by decide +kernel
theorem d_AL_init_1 : decode b_AL_init 1 = .ok (.invokespecial 1, 3) := by decide +kernel
theorem d_AL_init_4 : decode b_AL_init 4 = .ok (.aload_n 0, 1) := by decide +kernel
theorem d_AL_init_5 : decode b_AL_init 5 = .ok (.iconst 0, 1) := by decide +kernel
theorem d_AL_init_6 : decode b_AL_init 6 = .ok (.putfield 7, 3) := by decide +kernel
theorem d_AL_init_9 : decode b_AL_init 9 = .ok (.return_, 1) := by decide +kernel
theorem cal_AL_init : am_cal y_AL_init b_AL_init 1 ((Option.none : Option FieldType)) 0 := ⟨Or.inl wx_35, wx_3, by decide, by decide +kernel⟩
abbrev y_AC_init : MethodName := ⟨"java/util/AbstractCollection", "<init>", "()V"⟩
abbrev b_AC_init : ByteArray := prog_18_method_1_code
theorem d_AC_init_0 : decode b_AC_init 0 = .ok (.aload_n 0, 1) := by decide +kernel
theorem d_AC_init_1 : decode b_AC_init 1 = .ok (.invokespecial 1, 3) := by decide +kernel
theorem d_AC_init_4 : decode b_AC_init 4 = .ok (.return_, 1) := by decide +kernel
theorem cal_AC_init : am_cal y_AC_init b_AC_init 1 ((Option.none : Option FieldType)) 0 := ⟨Or.inl wx_38, wx_2, by decide, by decide +kernel⟩
abbrev y_AS_fill : MethodName := ⟨"java/util/Arrays", "fill", "([II)V"⟩
abbrev b_AS_fill : ByteArray := prog_21_method_103_code
theorem d_AS_fill_0 : decode b_AS_fill 0 = .ok (.iconst 0, 1) := by decide +kernel
theorem d_AS_fill_1 : decode b_AS_fill 1 = .ok (.istore_n 2, 1) := by decide +kernel
theorem d_AS_fill_2 : decode b_AS_fill 2 = .ok (.aload_n 0, 1) := by decide +kernel
theorem d_AS_fill_3 : decode b_AS_fill 3 = .ok (.arraylength, 1) := by decide +kernel
theorem d_AS_fill_4 : decode b_AS_fill 4 = .ok (.istore_n 3, 1) := by decide +kernel
theorem d_AS_fill_5 : decode b_AS_fill 5 = .ok (.iload_n 2, 1) := by decide +kernel
theorem d_AS_fill_6 : decode b_AS_fill 6 = .ok (.iload_n 3, 1) := by decide +kernel
theorem d_AS_fill_7 : decode b_AS_fill 7 = .ok (.if_icmp .ge 13, 3) := by decide +kernel
theorem d_AS_fill_10 : decode b_AS_fill 10 = .ok (.aload_n 0, 1) := by decide +kernel
theorem d_AS_fill_11 : decode b_AS_fill 11 = .ok (.iload_n 2, 1) := by decide +kernel
theorem d_AS_fill_12 : decode b_AS_fill 12 = .ok (.iload_n 1, 1) := by decide +kernel
theorem d_AS_fill_13 : decode b_AS_fill 13 = .ok (.iastore, 1) := by decide +kernel
theorem d_AS_fill_14 : decode b_AS_fill 14 = .ok (.iinc 2 1, 3) := by decide +kernel
theorem d_AS_fill_17 : decode b_AS_fill 17 = .ok (.goto (-12), 3) := by decide +kernel
theorem d_AS_fill_20 : decode b_AS_fill 20 = .ok (.return_, 1) := by decide +kernel
theorem cal_AS_fill : am_cal y_AS_fill b_AS_fill 4 ((Option.none : Option FieldType)) 2 := ⟨Or.inl wx_56, wx_5, by decide, by decide +kernel⟩
abbrev y_L_flat : MethodName := ⟨"BillSharesLaw", "flat", "(LBillShares;II[J)I"⟩
abbrev b_L_flat : ByteArray := method_3_code
theorem d_L_flat_0 : decode b_L_flat 0 = .ok (.aload_n 3, 1) := by decide +kernel
theorem d_L_flat_1 : decode b_L_flat 1 = .ok (.iconst 0, 1) := by decide +kernel
theorem d_L_flat_2 : decode b_L_flat 2 = .ok (.aload_n 0, 1) := by decide +kernel
theorem d_L_flat_3 : decode b_L_flat 3 = .ok (.iload_n 1, 1) := by decide +kernel
theorem d_L_flat_4 : decode b_L_flat 4 = .ok (.iload_n 2, 1) := by decide +kernel
theorem d_L_flat_5 : decode b_L_flat 5 = .ok (.invokevirtual 7, 3) := by decide +kernel
theorem d_L_flat_8 : decode b_L_flat 8 = .ok (.i2l, 1) := by decide +kernel
theorem d_L_flat_9 : decode b_L_flat 9 = .ok (.lastore, 1) := by decide +kernel
theorem d_L_flat_10 : decode b_L_flat 10 = .ok (.goto 11, 3) := by decide +kernel
theorem d_L_flat_13 : decode b_L_flat 13 = .ok (.astore 4, 2) := by decide +kernel
theorem d_L_flat_15 : decode b_L_flat 15 = .ok (.iconst 1, 1) := by decide +kernel
theorem d_L_flat_16 : decode b_L_flat 16 = .ok (.ireturn, 1) := by decide +kernel
theorem d_L_flat_17 : decode b_L_flat 17 = .ok (.astore 4, 2) := by decide +kernel
theorem d_L_flat_19 : decode b_L_flat 19 = .ok (.iconst 2, 1) := by decide +kernel
theorem d_L_flat_20 : decode b_L_flat 20 = .ok (.ireturn, 1) := by decide +kernel
theorem d_L_flat_21 : decode b_L_flat 21 = .ok (.iconst 0, 1) := by decide +kernel
theorem d_L_flat_22 : decode b_L_flat 22 = .ok (.ireturn, 1) := by decide +kernel
theorem cal_L_flat : am_cal y_L_flat b_L_flat 5 ((Option.some FieldType.int)) 4 := ⟨Or.inr ⟨_, wx_79⟩, wx_0, by decide, by decide +kernel⟩
abbrev y_TH_init : MethodName := ⟨"java/lang/Throwable", "<init>", "()V"⟩
abbrev b_TH_init : ByteArray := prog_17_method_1_code
theorem d_TH_init_0 : decode b_TH_init 0 = .ok (.aload_n 0, 1) := by decide +kernel
theorem d_TH_init_1 : decode b_TH_init 1 = .ok (.invokespecial 1, 3) := by decide +kernel
theorem d_TH_init_4 : decode b_TH_init 4 = .ok (.aload_n 0, 1) := by decide +kernel
theorem d_TH_init_5 : decode b_TH_init 5 = .ok (.aload_n 0, 1) := by decide +kernel
theorem d_TH_init_6 : decode b_TH_init 6 = .ok (.putfield 7, 3) := by decide +kernel
theorem d_TH_init_9 : decode b_TH_init 9 = .ok (.aload_n 0, 1) := by decide +kernel
theorem d_TH_init_10 : decode b_TH_init 10 = .ok (.getstatic 13, 3) := by decide +kernel
theorem d_TH_init_13 : decode b_TH_init 13 = .ok (.putfield 17, 3) := by decide +kernel
theorem d_TH_init_16 : decode b_TH_init 16 = .ok (.aload_n 0, 1) := by decide +kernel
theorem d_TH_init_17 : decode b_TH_init 17 = .ok (.getstatic 20, 3) := by decide +kernel
theorem d_TH_init_20 : decode b_TH_init 20 = .ok (.putfield 24, 3) := by decide +kernel
theorem d_TH_init_23 : decode b_TH_init 23 = .ok (.aload_n 0, 1) := by decide +kernel
theorem d_TH_init_24 : decode b_TH_init 24 = .ok (.invokevirtual 27, 3) := by decide +kernel
theorem d_TH_init_27 : decode b_TH_init 27 = .ok (.pop, 1) := by decide +kernel
theorem d_TH_init_28 : decode b_TH_init 28 = .ok (.return_, 1) := by decide +kernel
theorem cal_TH_init : am_cal y_TH_init b_TH_init 1 ((Option.none : Option FieldType)) 0 := ⟨Or.inl wx_113, wx_7, by decide, by decide +kernel⟩
abbrev y_TH_fillInStackTrace : MethodName := ⟨"java/lang/Throwable", "fillInStackTrace", "()Ljava/lang/Throwable;"⟩
abbrev b_TH_fillInStackTrace : ByteArray := prog_17_method_18_code
theorem d_TH_fillInStackTrace_0 : decode b_TH_fillInStackTrace 0 = .ok (.aload_n 0, 1) := by decide +kernel
theorem d_TH_fillInStackTrace_1 : decode b_TH_fillInStackTrace 1 = .ok (.getfield 17, 3) := by decide +kernel
theorem d_TH_fillInStackTrace_4 : decode b_TH_fillInStackTrace 4 = .ok (.ifnonnull 10, 3) := by decide +kernel
theorem d_TH_fillInStackTrace_7 : decode b_TH_fillInStackTrace 7 = .ok (.aload_n 0, 1) := by decide +kernel
theorem d_TH_fillInStackTrace_8 : decode b_TH_fillInStackTrace 8 = .ok (.getfield 198, 3) := by decide +kernel
theorem d_TH_fillInStackTrace_11 : decode b_TH_fillInStackTrace 11 = .ok (.ifnull 16, 3) := by decide +kernel
theorem d_TH_fillInStackTrace_14 : decode b_TH_fillInStackTrace 14 = .ok (.aload_n 0, 1) := by decide +kernel
theorem d_TH_fillInStackTrace_15 : decode b_TH_fillInStackTrace 15 = .ok (.iconst 0, 1) := by decide +kernel
theorem d_TH_fillInStackTrace_16 : decode b_TH_fillInStackTrace 16 = .ok (.invokevirtual 202, 3) := by decide +kernel
theorem d_TH_fillInStackTrace_19 : decode b_TH_fillInStackTrace 19 = .ok (.pop, 1) := by decide +kernel
theorem d_TH_fillInStackTrace_20 : decode b_TH_fillInStackTrace 20 = .ok (.aload_n 0, 1) := by decide +kernel
theorem d_TH_fillInStackTrace_21 : decode b_TH_fillInStackTrace 21 = .ok (.getstatic 13, 3) := by decide +kernel
theorem d_TH_fillInStackTrace_24 : decode b_TH_fillInStackTrace 24 = .ok (.putfield 17, 3) := by decide +kernel
theorem d_TH_fillInStackTrace_27 : decode b_TH_fillInStackTrace 27 = .ok (.aload_n 0, 1) := by decide +kernel
theorem d_TH_fillInStackTrace_28 : decode b_TH_fillInStackTrace 28 = .ok (.areturn, 1) := by decide +kernel
abbrev y_IA_init : MethodName := ⟨"java/lang/IllegalArgumentException", "<init>", "(Ljava/lang/String;)V"⟩
abbrev b_IA_init : ByteArray := prog_10_method_2_code
theorem d_IA_init_0 : decode b_IA_init 0 = .ok (.aload_n 0, 1) := by decide +kernel
theorem d_IA_init_1 : decode b_IA_init 1 = .ok (.aload_n 1, 1) := by decide +kernel
theorem d_IA_init_2 : decode b_IA_init 2 = .ok (.invokespecial 7, 3) := by decide +kernel
theorem d_IA_init_5 : decode b_IA_init 5 = .ok (.return_, 1) := by decide +kernel
theorem cal_IA_init : am_cal y_IA_init b_IA_init 2 ((Option.none : Option FieldType)) 1 := ⟨Or.inl wx_132, wx_10, by decide, by decide +kernel⟩
abbrev y_RE_init : MethodName := ⟨"java/lang/RuntimeException", "<init>", "(Ljava/lang/String;)V"⟩
abbrev b_RE_init : ByteArray := prog_14_method_2_code
theorem d_RE_init_0 : decode b_RE_init 0 = .ok (.aload_n 0, 1) := by decide +kernel
theorem d_RE_init_1 : decode b_RE_init 1 = .ok (.aload_n 1, 1) := by decide +kernel
theorem d_RE_init_2 : decode b_RE_init 2 = .ok (.invokespecial 7, 3) := by decide +kernel
theorem d_RE_init_5 : decode b_RE_init 5 = .ok (.return_, 1) := by decide +kernel
theorem cal_RE_init : am_cal y_RE_init b_RE_init 2 ((Option.none : Option FieldType)) 1 := ⟨Or.inl wx_135, wx_9, by decide, by decide +kernel⟩
abbrev y_EX_init : MethodName := ⟨"java/lang/Exception", "<init>", "(Ljava/lang/String;)V"⟩
abbrev b_EX_init : ByteArray := prog_9_method_2_code
theorem d_EX_init_0 : decode b_EX_init 0 = .ok (.aload_n 0, 1) := by decide +kernel
theorem d_EX_init_1 : decode b_EX_init 1 = .ok (.aload_n 1, 1) := by decide +kernel
theorem d_EX_init_2 : decode b_EX_init 2 = .ok (.invokespecial 7, 3) := by decide +kernel
theorem d_EX_init_5 : decode b_EX_init 5 = .ok (.return_, 1) := by decide +kernel
theorem cal_EX_init : am_cal y_EX_init b_EX_init 2 ((Option.none : Option FieldType)) 1 := ⟨Or.inl wx_138, wx_8, by decide, by decide +kernel⟩
abbrev y_TH_init2 : MethodName := ⟨"java/lang/Throwable", "<init>", "(Ljava/lang/String;)V"⟩
abbrev b_TH_init2 : ByteArray := prog_17_method_2_code
theorem d_TH_init2_0 : decode b_TH_init2 0 = .ok (.aload_n 0, 1) := by decide +kernel
theorem d_TH_init2_1 : decode b_TH_init2 1 = .ok (.invokespecial 1, 3) := by decide +kernel
theorem d_TH_init2_4 : decode b_TH_init2 4 = .ok (.aload_n 0, 1) := by decide +kernel
theorem d_TH_init2_5 : decode b_TH_init2 5 = .ok (.aload_n 0, 1) := by decide +kernel
theorem d_TH_init2_6 : decode b_TH_init2 6 = .ok (.putfield 7, 3) := by decide +kernel
theorem d_TH_init2_9 : decode b_TH_init2 9 = .ok (.aload_n 0, 1) := by decide +kernel
theorem d_TH_init2_10 : decode b_TH_init2 10 = .ok (.getstatic 13, 3) := by decide +kernel
theorem d_TH_init2_13 : decode b_TH_init2 13 = .ok (.putfield 17, 3) := by decide +kernel
theorem d_TH_init2_16 : decode b_TH_init2 16 = .ok (.aload_n 0, 1) := by decide +kernel
theorem d_TH_init2_17 : decode b_TH_init2 17 = .ok (.getstatic 20, 3) := by decide +kernel
theorem d_TH_init2_20 : decode b_TH_init2 20 = .ok (.putfield 24, 3) := by decide +kernel
theorem d_TH_init2_23 : decode b_TH_init2 23 = .ok (.aload_n 0, 1) := by decide +kernel
theorem d_TH_init2_24 : decode b_TH_init2 24 = .ok (.invokevirtual 27, 3) := by decide +kernel
theorem d_TH_init2_27 : decode b_TH_init2 27 = .ok (.pop, 1) := by decide +kernel
theorem d_TH_init2_28 : decode b_TH_init2 28 = .ok (.aload_n 0, 1) := by decide +kernel
theorem d_TH_init2_29 : decode b_TH_init2 29 = .ok (.aload_n 1, 1) := by decide +kernel
theorem d_TH_init2_30 : decode b_TH_init2 30 = .ok (.putfield 31, 3) := by decide +kernel
theorem d_TH_init2_33 : decode b_TH_init2 33 = .ok (.return_, 1) := by decide +kernel
theorem cal_TH_init2 : am_cal y_TH_init2 b_TH_init2 2 ((Option.none : Option FieldType)) 1 := ⟨Or.inl wx_141, wx_7, by decide, by decide +kernel⟩
abbrev y_A_size : MethodName := ⟨"java/util/ArrayList", "size", "()I"⟩
abbrev b_A_size : ByteArray := prog_20_method_8_code
theorem d_A_size_0 : decode b_A_size 0 = .ok (.aload_n 0, 1) := by decide +kernel
theorem d_A_size_1 : decode b_A_size 1 = .ok (.getfield 48, 3) := by decide +kernel
theorem d_A_size_4 : decode b_A_size 4 = .ok (.ireturn, 1) := by decide +kernel
theorem cal_A_size : am_cal y_A_size b_A_size 1 ((Option.some FieldType.int)) 0 := ⟨Or.inl wx_159, wx_4, by decide, by decide +kernel⟩
abbrev y_IS_init : MethodName := ⟨"java/lang/IllegalStateException", "<init>", "(Ljava/lang/String;)V"⟩
abbrev b_IS_init : ByteArray := prog_11_method_2_code
theorem d_IS_init_0 : decode b_IS_init 0 = .ok (.aload_n 0, 1) := by decide +kernel
theorem d_IS_init_1 : decode b_IS_init 1 = .ok (.aload_n 1, 1) := by decide +kernel
theorem d_IS_init_2 : decode b_IS_init 2 = .ok (.invokespecial 7, 3) := by decide +kernel
theorem d_IS_init_5 : decode b_IS_init 5 = .ok (.return_, 1) := by decide +kernel
theorem cal_IS_init : am_cal y_IS_init b_IS_init 2 ((Option.none : Option FieldType)) 1 := ⟨Or.inl wx_172, wx_11, by decide, by decide +kernel⟩
abbrev y_A_add : MethodName := ⟨"java/util/ArrayList", "add", "(Ljava/lang/Object;)Z"⟩
abbrev b_A_add : ByteArray := prog_20_method_25_code
theorem d_A_add_0 : decode b_A_add 0 = .ok (.aload_n 0, 1) := by decide +kernel
theorem d_A_add_1 : decode b_A_add 1 = .ok (.dup, 1) := by decide +kernel
theorem d_A_add_2 : decode b_A_add 2 = .ok (.getfield 63, 3) := by decide +kernel
theorem d_A_add_5 : decode b_A_add 5 = .ok (.iconst 1, 1) := by decide +kernel
theorem d_A_add_6 : decode b_A_add 6 = .ok (.iadd, 1) := by decide +kernel
theorem d_A_add_7 : decode b_A_add 7 = .ok (.putfield 63, 3) := by decide +kernel
theorem d_A_add_10 : decode b_A_add 10 = .ok (.aload_n 0, 1) := by decide +kernel
theorem d_A_add_11 : decode b_A_add 11 = .ok (.aload_n 1, 1) := by decide +kernel
theorem d_A_add_12 : decode b_A_add 12 = .ok (.aload_n 0, 1) := by decide +kernel
theorem d_A_add_13 : decode b_A_add 13 = .ok (.getfield 9, 3) := by decide +kernel
theorem d_A_add_16 : decode b_A_add 16 = .ok (.aload_n 0, 1) := by decide +kernel
theorem d_A_add_17 : decode b_A_add 17 = .ok (.getfield 48, 3) := by decide +kernel
theorem d_A_add_20 : decode b_A_add 20 = .ok (.invokevirtual 131, 3) := by decide +kernel
theorem d_A_add_23 : decode b_A_add 23 = .ok (.iconst 1, 1) := by decide +kernel
theorem d_A_add_24 : decode b_A_add 24 = .ok (.ireturn, 1) := by decide +kernel
theorem cal_A_add : am_cal y_A_add b_A_add 2 ((Option.some FieldType.boolean)) 1 := ⟨Or.inl wx_227, wx_4, by decide, by decide +kernel⟩
abbrev y_A_add2 : MethodName := ⟨"java/util/ArrayList", "add", "(Ljava/lang/Object;[Ljava/lang/Object;I)V"⟩
abbrev b_A_add2 : ByteArray := prog_20_method_24_code
theorem d_A_add2_0 : decode b_A_add2 0 = .ok (.iload_n 3, 1) := by decide +kernel
theorem d_A_add2_1 : decode b_A_add2 1 = .ok (.aload_n 2, 1) := by decide +kernel
theorem d_A_add2_2 : decode b_A_add2 2 = .ok (.arraylength, 1) := by decide +kernel
theorem d_A_add2_3 : decode b_A_add2 3 = .ok (.if_icmp .ne 8, 3) := by decide +kernel
theorem d_A_add2_6 : decode b_A_add2 6 = .ok (.aload_n 0, 1) := by decide +kernel
theorem d_A_add2_7 : decode b_A_add2 7 = .ok (.invokevirtual 129, 3) := by decide +kernel
theorem d_A_add2_10 : decode b_A_add2 10 = .ok (.astore_n 2, 1) := by decide +kernel
theorem d_A_add2_11 : decode b_A_add2 11 = .ok (.aload_n 2, 1) := by decide +kernel
theorem d_A_add2_12 : decode b_A_add2 12 = .ok (.iload_n 3, 1) := by decide +kernel
theorem d_A_add2_13 : decode b_A_add2 13 = .ok (.aload_n 1, 1) := by decide +kernel
theorem d_A_add2_14 : decode b_A_add2 14 = .ok (.aastore, 1) := by decide +kernel
theorem d_A_add2_15 : decode b_A_add2 15 = .ok (.aload_n 0, 1) := by decide +kernel
theorem d_A_add2_16 : decode b_A_add2 16 = .ok (.iload_n 3, 1) := by decide +kernel
theorem d_A_add2_17 : decode b_A_add2 17 = .ok (.iconst 1, 1) := by decide +kernel
theorem d_A_add2_18 : decode b_A_add2 18 = .ok (.iadd, 1) := by decide +kernel
theorem d_A_add2_19 : decode b_A_add2 19 = .ok (.putfield 48, 3) := by decide +kernel
theorem d_A_add2_22 : decode b_A_add2 22 = .ok (.return_, 1) := by decide +kernel
theorem cal_A_add2 : am_cal y_A_add2 b_A_add2 4 ((Option.none : Option FieldType)) 3 := ⟨Or.inl wx_231, wx_4, by decide, by decide +kernel⟩
abbrev y_A_grow : MethodName := ⟨"java/util/ArrayList", "grow", "()[Ljava/lang/Object;"⟩
abbrev b_A_grow : ByteArray := prog_20_method_7_code
theorem d_A_grow_0 : decode b_A_grow 0 = .ok (.aload_n 0, 1) := by decide +kernel
theorem d_A_grow_1 : decode b_A_grow 1 = .ok (.aload_n 0, 1) := by decide +kernel
theorem d_A_grow_2 : decode b_A_grow 2 = .ok (.getfield 48, 3) := by decide +kernel
theorem d_A_grow_5 : decode b_A_grow 5 = .ok (.iconst 1, 1) := by decide +kernel
theorem d_A_grow_6 : decode b_A_grow 6 = .ok (.iadd, 1) := by decide +kernel
theorem d_A_grow_7 : decode b_A_grow 7 = .ok (.invokevirtual 69, 3) := by decide +kernel
theorem d_A_grow_10 : decode b_A_grow 10 = .ok (.areturn, 1) := by decide +kernel
theorem cal_A_grow : am_cal y_A_grow b_A_grow 1 ((Option.some (FieldType.array (FieldType.object "java/lang/Object")))) 0 := ⟨Or.inl wx_235, wx_4, by decide, by decide +kernel⟩
abbrev y_A_grow2 : MethodName := ⟨"java/util/ArrayList", "grow", "(I)[Ljava/lang/Object;"⟩
abbrev b_A_grow2 : ByteArray := prog_20_method_6_code
theorem d_A_grow2_0 : decode b_A_grow2 0 = .ok (.aload_n 0, 1) := by decide +kernel
theorem d_A_grow2_1 : decode b_A_grow2 1 = .ok (.getfield 9, 3) := by decide +kernel
theorem d_A_grow2_4 : decode b_A_grow2 4 = .ok (.arraylength, 1) := by decide +kernel
theorem d_A_grow2_5 : decode b_A_grow2 5 = .ok (.istore_n 2, 1) := by decide +kernel
theorem d_A_grow2_6 : decode b_A_grow2 6 = .ok (.iload_n 2, 1) := by decide +kernel
theorem d_A_grow2_7 : decode b_A_grow2 7 = .ok (.ifCond .gt 13, 3) := by decide +kernel
theorem d_A_grow2_10 : decode b_A_grow2 10 = .ok (.aload_n 0, 1) := by decide +kernel
theorem d_A_grow2_11 : decode b_A_grow2 11 = .ok (.getfield 9, 3) := by decide +kernel
theorem d_A_grow2_14 : decode b_A_grow2 14 = .ok (.getstatic 39, 3) := by decide +kernel
theorem d_A_grow2_17 : decode b_A_grow2 17 = .ok (.if_acmp .eq 28, 3) := by decide +kernel
theorem d_A_grow2_20 : decode b_A_grow2 20 = .ok (.iload_n 2, 1) := by decide +kernel
theorem d_A_grow2_21 : decode b_A_grow2 21 = .ok (.iload_n 1, 1) := by decide +kernel
theorem d_A_grow2_22 : decode b_A_grow2 22 = .ok (.iload_n 2, 1) := by decide +kernel
theorem d_A_grow2_23 : decode b_A_grow2 23 = .ok (.isub, 1) := by decide +kernel
theorem d_A_grow2_24 : decode b_A_grow2 24 = .ok (.iload_n 2, 1) := by decide +kernel
theorem d_A_grow2_25 : decode b_A_grow2 25 = .ok (.iconst 1, 1) := by decide +kernel
theorem d_A_grow2_26 : decode b_A_grow2 26 = .ok (.ishr, 1) := by decide +kernel
theorem d_A_grow2_27 : decode b_A_grow2 27 = .ok (.invokestatic 73, 3) := by decide +kernel
theorem d_A_grow2_30 : decode b_A_grow2 30 = .ok (.istore_n 3, 1) := by decide +kernel
theorem d_A_grow2_31 : decode b_A_grow2 31 = .ok (.aload_n 0, 1) := by decide +kernel
theorem d_A_grow2_32 : decode b_A_grow2 32 = .ok (.aload_n 0, 1) := by decide +kernel
theorem d_A_grow2_33 : decode b_A_grow2 33 = .ok (.getfield 9, 3) := by decide +kernel
theorem d_A_grow2_36 : decode b_A_grow2 36 = .ok (.iload_n 3, 1) := by decide +kernel
theorem d_A_grow2_37 : decode b_A_grow2 37 = .ok (.invokestatic 66, 3) := by decide +kernel
theorem d_A_grow2_40 : decode b_A_grow2 40 = .ok (.dup_x1, 1) := by decide +kernel
theorem d_A_grow2_41 : decode b_A_grow2 41 = .ok (.putfield 9, 3) := by decide +kernel
theorem d_A_grow2_44 : decode b_A_grow2 44 = .ok (.areturn, 1) := by decide +kernel
theorem d_A_grow2_45 : decode b_A_grow2 45 = .ok (.aload_n 0, 1) := by decide +kernel
theorem d_A_grow2_46 : decode b_A_grow2 46 = .ok (.bipush 10, 2) := by decide +kernel
theorem d_A_grow2_48 : decode b_A_grow2 48 = .ok (.iload_n 1, 1) := by decide +kernel
theorem d_A_grow2_49 : decode b_A_grow2 49 = .ok (.invokestatic 79, 3) := by decide +kernel
theorem d_A_grow2_52 : decode b_A_grow2 52 = .ok (.anewarray 7, 3) := by decide +kernel
theorem d_A_grow2_55 : decode b_A_grow2 55 = .ok (.dup_x1, 1) := by decide +kernel
theorem d_A_grow2_56 : decode b_A_grow2 56 = .ok (.putfield 9, 3) := by decide +kernel
theorem d_A_grow2_59 : decode b_A_grow2 59 = .ok (.areturn, 1) := by decide +kernel
theorem cal_A_grow2 : am_cal y_A_grow2 b_A_grow2 4 ((Option.some (FieldType.array (FieldType.object "java/lang/Object")))) 1 := ⟨Or.inl wx_239, wx_4, by decide, by decide +kernel⟩
abbrev y_AR_newLength : MethodName := ⟨"jdk/internal/util/ArraysSupport", "newLength", "(III)I"⟩
abbrev b_AR_newLength : ByteArray := prog_27_method_27_code
theorem d_AR_newLength_0 : decode b_AR_newLength 0 = .ok (.iload_n 0, 1) := by decide +kernel
theorem d_AR_newLength_1 : decode b_AR_newLength 1 = .ok (.iload_n 1, 1) := by decide +kernel
theorem d_AR_newLength_2 : decode b_AR_newLength 2 = .ok (.iload_n 2, 1) := by decide +kernel
theorem d_AR_newLength_3 : decode b_AR_newLength 3 = .ok (.invokestatic 194, 3) := by decide +kernel
theorem d_AR_newLength_6 : decode b_AR_newLength 6 = .ok (.iadd, 1) := by decide +kernel
theorem d_AR_newLength_7 : decode b_AR_newLength 7 = .ok (.istore_n 3, 1) := by decide +kernel
theorem d_AR_newLength_8 : decode b_AR_newLength 8 = .ok (.iconst 0, 1) := by decide +kernel
theorem d_AR_newLength_9 : decode b_AR_newLength 9 = .ok (.iload_n 3, 1) := by decide +kernel
theorem d_AR_newLength_10 : decode b_AR_newLength 10 = .ok (.if_icmp .ge 11, 3) := by decide +kernel
theorem d_AR_newLength_13 : decode b_AR_newLength 13 = .ok (.iload_n 3, 1) := by decide +kernel
theorem d_AR_newLength_14 : decode b_AR_newLength 14 = .ok (.ldc 200, 2) := by decide +kernel
theorem d_AR_newLength_16 : decode b_AR_newLength 16 = .ok (.if_icmp .gt 5, 3) := by decide +kernel
theorem d_AR_newLength_19 : decode b_AR_newLength 19 = .ok (.iload_n 3, 1) := by decide +kernel
theorem d_AR_newLength_20 : decode b_AR_newLength 20 = .ok (.ireturn, 1) := by decide +kernel
theorem d_AR_newLength_21 : decode b_AR_newLength 21 = .ok (.iload_n 0, 1) := by decide +kernel
theorem d_AR_newLength_22 : decode b_AR_newLength 22 = .ok (.iload_n 1, 1) := by decide +kernel
theorem d_AR_newLength_23 : decode b_AR_newLength 23 = .ok (.invokestatic 201, 3) := by decide +kernel
theorem d_AR_newLength_26 : decode b_AR_newLength 26 = .ok (.ireturn, 1) := by decide +kernel
theorem cal_AR_newLength : am_cal y_AR_newLength b_AR_newLength 4 ((Option.some FieldType.int)) 3 := ⟨Or.inl wx_242, wx_13, by decide, by decide +kernel⟩
abbrev y_MA_max : MethodName := ⟨"java/lang/Math", "max", "(II)I"⟩
abbrev b_MA_max : ByteArray := prog_13_method_65_code
theorem d_MA_max_0 : decode b_MA_max 0 = .ok (.iload_n 0, 1) := by decide +kernel
theorem d_MA_max_1 : decode b_MA_max 1 = .ok (.iload_n 1, 1) := by decide +kernel
theorem d_MA_max_2 : decode b_MA_max 2 = .ok (.if_icmp .lt 7, 3) := by decide +kernel
theorem d_MA_max_5 : decode b_MA_max 5 = .ok (.iload_n 0, 1) := by decide +kernel
theorem d_MA_max_6 : decode b_MA_max 6 = .ok (.goto 4, 3) := by decide +kernel
theorem d_MA_max_9 : decode b_MA_max 9 = .ok (.iload_n 1, 1) := by decide +kernel
theorem d_MA_max_10 : decode b_MA_max 10 = .ok (.ireturn, 1) := by decide +kernel
theorem cal_MA_max : am_cal y_MA_max b_MA_max 2 ((Option.some FieldType.int)) 2 := ⟨Or.inl wx_245, wx_14, by decide, by decide +kernel⟩
abbrev y_AR_hugeLength : MethodName := ⟨"jdk/internal/util/ArraysSupport", "hugeLength", "(II)I"⟩
abbrev b_AR_hugeLength : ByteArray := prog_27_method_28_code
theorem d_AR_hugeLength_0 : decode b_AR_hugeLength 0 = .ok (.iload_n 0, 1) := by decide +kernel
theorem d_AR_hugeLength_1 : decode b_AR_hugeLength 1 = .ok (.iload_n 1, 1) := by decide +kernel
theorem d_AR_hugeLength_2 : decode b_AR_hugeLength 2 = .ok (.iadd, 1) := by decide +kernel
theorem d_AR_hugeLength_3 : decode b_AR_hugeLength 3 = .ok (.istore_n 2, 1) := by decide +kernel
theorem d_AR_hugeLength_4 : decode b_AR_hugeLength 4 = .ok (.iload_n 2, 1) := by decide +kernel
theorem d_AR_hugeLength_5 : decode b_AR_hugeLength 5 = .ok (.ifCond .ge 44, 3) := by decide +kernel
theorem d_AR_hugeLength_8 : decode b_AR_hugeLength 8 = .ok (.new 204, 3) := by decide +kernel
theorem d_AR_hugeLength_11 : decode b_AR_hugeLength 11 = .ok (.dup, 1) := by decide +kernel
theorem d_AR_hugeLength_12 : decode b_AR_hugeLength 12 = .ok (.new 89, 3) := by decide +kernel
theorem d_AR_hugeLength_15 : decode b_AR_hugeLength 15 = .ok (.dup, 1) := by decide +kernel
theorem d_AR_hugeLength_16 : decode b_AR_hugeLength 16 = .ok (.invokespecial 91, 3) := by decide +kernel
theorem d_AR_hugeLength_19 : decode b_AR_hugeLength 19 = .ok (.ldc 206, 2) := by decide +kernel
theorem d_AR_hugeLength_21 : decode b_AR_hugeLength 21 = .ok (.invokevirtual 94, 3) := by decide +kernel
theorem d_AR_hugeLength_24 : decode b_AR_hugeLength 24 = .ok (.iload_n 0, 1) := by decide +kernel
theorem d_AR_hugeLength_25 : decode b_AR_hugeLength 25 = .ok (.invokevirtual 98, 3) := by decide +kernel
theorem d_AR_hugeLength_28 : decode b_AR_hugeLength 28 = .ok (.ldc 208, 2) := by decide +kernel
theorem d_AR_hugeLength_30 : decode b_AR_hugeLength 30 = .ok (.invokevirtual 94, 3) := by decide +kernel
theorem d_AR_hugeLength_33 : decode b_AR_hugeLength 33 = .ok (.iload_n 1, 1) := by decide +kernel
theorem d_AR_hugeLength_34 : decode b_AR_hugeLength 34 = .ok (.invokevirtual 98, 3) := by decide +kernel
theorem d_AR_hugeLength_37 : decode b_AR_hugeLength 37 = .ok (.ldc 210, 2) := by decide +kernel
theorem d_AR_hugeLength_39 : decode b_AR_hugeLength 39 = .ok (.invokevirtual 94, 3) := by decide +kernel
theorem d_AR_hugeLength_42 : decode b_AR_hugeLength 42 = .ok (.invokevirtual 101, 3) := by decide +kernel
theorem d_AR_hugeLength_45 : decode b_AR_hugeLength 45 = .ok (.invokespecial 212, 3) := by decide +kernel
theorem d_AR_hugeLength_48 : decode b_AR_hugeLength 48 = .ok (.athrow, 1) := by decide +kernel
theorem d_AR_hugeLength_49 : decode b_AR_hugeLength 49 = .ok (.iload_n 2, 1) := by decide +kernel
theorem d_AR_hugeLength_50 : decode b_AR_hugeLength 50 = .ok (.ldc 200, 2) := by decide +kernel
theorem d_AR_hugeLength_52 : decode b_AR_hugeLength 52 = .ok (.if_icmp .gt 6, 3) := by decide +kernel
theorem d_AR_hugeLength_55 : decode b_AR_hugeLength 55 = .ok (.ldc 200, 2) := by decide +kernel
theorem d_AR_hugeLength_57 : decode b_AR_hugeLength 57 = .ok (.ireturn, 1) := by decide +kernel
theorem d_AR_hugeLength_58 : decode b_AR_hugeLength 58 = .ok (.iload_n 2, 1) := by decide +kernel
theorem d_AR_hugeLength_59 : decode b_AR_hugeLength 59 = .ok (.ireturn, 1) := by decide +kernel
theorem cal_AR_hugeLength : am_cal y_AR_hugeLength b_AR_hugeLength 3 ((Option.some FieldType.int)) 2 := ⟨Or.inl wx_249, wx_13, by decide, by decide +kernel⟩
abbrev y_AS_copyOf : MethodName := ⟨"java/util/Arrays", "copyOf", "([Ljava/lang/Object;I)[Ljava/lang/Object;"⟩
abbrev b_AS_copyOf : ByteArray := prog_21_method_119_code
theorem d_AS_copyOf_0 : decode b_AS_copyOf 0 = .ok (.aload_n 0, 1) := by decide +kernel
theorem d_AS_copyOf_1 : decode b_AS_copyOf 1 = .ok (.iload_n 1, 1) := by decide +kernel
theorem d_AS_copyOf_2 : decode b_AS_copyOf 2 = .ok (.aload_n 0, 1) := by decide +kernel
theorem d_AS_copyOf_3 : decode b_AS_copyOf 3 = .ok (.invokevirtual 86, 3) := by decide +kernel
theorem d_AS_copyOf_6 : decode b_AS_copyOf 6 = .ok (.invokestatic 300, 3) := by decide +kernel
theorem d_AS_copyOf_9 : decode b_AS_copyOf 9 = .ok (.areturn, 1) := by decide +kernel
theorem cal_AS_copyOf : am_cal y_AS_copyOf b_AS_copyOf 2 ((Option.some (FieldType.array (FieldType.object "java/lang/Object")))) 2 := ⟨Or.inl wx_252, wx_5, by decide, by decide +kernel⟩
abbrev y_AS_copyOf2 : MethodName := ⟨"java/util/Arrays", "copyOf", "([Ljava/lang/Object;ILjava/lang/Class;)[Ljava/lang/Object;"⟩
abbrev b_AS_copyOf2 : ByteArray := prog_21_method_120_code
theorem d_AS_copyOf2_0 : decode b_AS_copyOf2 0 = .ok (.aload_n 2, 1) := by decide +kernel
theorem d_AS_copyOf2_1 : decode b_AS_copyOf2 1 = .ok (.ldc 110, 2) := by decide +kernel
theorem d_AS_copyOf2_3 : decode b_AS_copyOf2 3 = .ok (.if_acmp .ne 10, 3) := by decide +kernel
theorem d_AS_copyOf2_6 : decode b_AS_copyOf2 6 = .ok (.iload_n 1, 1) := by decide +kernel
theorem d_AS_copyOf2_7 : decode b_AS_copyOf2 7 = .ok (.anewarray 2, 3) := by decide +kernel
theorem d_AS_copyOf2_10 : decode b_AS_copyOf2 10 = .ok (.goto 14, 3) := by decide +kernel
theorem d_AS_copyOf2_13 : decode b_AS_copyOf2 13 = .ok (.aload_n 2, 1) := by decide +kernel
theorem d_AS_copyOf2_14 : decode b_AS_copyOf2 14 = .ok (.invokevirtual 90, 3) := by decide +kernel
theorem d_AS_copyOf2_17 : decode b_AS_copyOf2 17 = .ok (.iload_n 1, 1) := by decide +kernel
theorem d_AS_copyOf2_18 : decode b_AS_copyOf2 18 = .ok (.invokestatic 95, 3) := by decide +kernel
theorem d_AS_copyOf2_21 : decode b_AS_copyOf2 21 = .ok (.checkcast 110, 3) := by decide +kernel
theorem d_AS_copyOf2_24 : decode b_AS_copyOf2 24 = .ok (.astore_n 3, 1) := by decide +kernel
theorem d_AS_copyOf2_25 : decode b_AS_copyOf2 25 = .ok (.aload_n 0, 1) := by decide +kernel
theorem d_AS_copyOf2_26 : decode b_AS_copyOf2 26 = .ok (.iconst 0, 1) := by decide +kernel
theorem d_AS_copyOf2_27 : decode b_AS_copyOf2 27 = .ok (.aload_n 3, 1) := by decide +kernel
theorem d_AS_copyOf2_28 : decode b_AS_copyOf2 28 = .ok (.iconst 0, 1) := by decide +kernel
theorem d_AS_copyOf2_29 : decode b_AS_copyOf2 29 = .ok (.aload_n 0, 1) := by decide +kernel
theorem d_AS_copyOf2_30 : decode b_AS_copyOf2 30 = .ok (.arraylength, 1) := by decide +kernel
theorem d_AS_copyOf2_31 : decode b_AS_copyOf2 31 = .ok (.iload_n 1, 1) := by decide +kernel
theorem d_AS_copyOf2_32 : decode b_AS_copyOf2 32 = .ok (.invokestatic 304, 3) := by decide +kernel
theorem d_AS_copyOf2_35 : decode b_AS_copyOf2 35 = .ok (.invokestatic 150, 3) := by decide +kernel
theorem d_AS_copyOf2_38 : decode b_AS_copyOf2 38 = .ok (.aload_n 3, 1) := by decide +kernel
theorem d_AS_copyOf2_39 : decode b_AS_copyOf2 39 = .ok (.areturn, 1) := by decide +kernel
theorem cal_AS_copyOf2 : am_cal y_AS_copyOf2 b_AS_copyOf2 4 ((Option.some (FieldType.array (FieldType.object "java/lang/Object")))) 3 := ⟨Or.inl wx_267, wx_5, by decide, by decide +kernel⟩
abbrev y_MA_min : MethodName := ⟨"java/lang/Math", "min", "(II)I"⟩
abbrev b_MA_min : ByteArray := prog_13_method_69_code
theorem d_MA_min_0 : decode b_MA_min 0 = .ok (.iload_n 0, 1) := by decide +kernel
theorem d_MA_min_1 : decode b_MA_min 1 = .ok (.iload_n 1, 1) := by decide +kernel
theorem d_MA_min_2 : decode b_MA_min 2 = .ok (.if_icmp .gt 7, 3) := by decide +kernel
theorem d_MA_min_5 : decode b_MA_min 5 = .ok (.iload_n 0, 1) := by decide +kernel
theorem d_MA_min_6 : decode b_MA_min 6 = .ok (.goto 4, 3) := by decide +kernel
theorem d_MA_min_9 : decode b_MA_min 9 = .ok (.iload_n 1, 1) := by decide +kernel
theorem d_MA_min_10 : decode b_MA_min 10 = .ok (.ireturn, 1) := by decide +kernel
theorem cal_MA_min : am_cal y_MA_min b_MA_min 2 ((Option.some FieldType.int)) 2 := ⟨Or.inl wx_273, wx_14, by decide, by decide +kernel⟩
abbrev y_A_get : MethodName := ⟨"java/util/ArrayList", "get", "(I)Ljava/lang/Object;"⟩
abbrev b_A_get : ByteArray := prog_20_method_20_code
theorem d_A_get_0 : decode b_A_get 0 = .ok (.iload_n 1, 1) := by decide +kernel
theorem d_A_get_1 : decode b_A_get 1 = .ok (.aload_n 0, 1) := by decide +kernel
theorem d_A_get_2 : decode b_A_get 2 = .ok (.getfield 48, 3) := by decide +kernel
theorem d_A_get_5 : decode b_A_get 5 = .ok (.invokestatic 118, 3) := by decide +kernel
theorem d_A_get_8 : decode b_A_get 8 = .ok (.pop, 1) := by decide +kernel
theorem d_A_get_9 : decode b_A_get 9 = .ok (.aload_n 0, 1) := by decide +kernel
theorem d_A_get_10 : decode b_A_get 10 = .ok (.iload_n 1, 1) := by decide +kernel
theorem d_A_get_11 : decode b_A_get 11 = .ok (.invokevirtual 123, 3) := by decide +kernel
theorem d_A_get_14 : decode b_A_get 14 = .ok (.areturn, 1) := by decide +kernel
theorem cal_A_get : am_cal y_A_get b_A_get 2 ((Option.some (FieldType.object "java/lang/Object"))) 1 := ⟨Or.inl wx_286, wx_4, by decide, by decide +kernel⟩
abbrev y_OB_checkIndex : MethodName := ⟨"java/util/Objects", "checkIndex", "(II)I"⟩
abbrev b_OB_checkIndex : ByteArray := prog_24_method_17_code
theorem d_OB_checkIndex_0 : decode b_OB_checkIndex 0 = .ok (.iload_n 0, 1) := by decide +kernel
theorem d_OB_checkIndex_1 : decode b_OB_checkIndex 1 = .ok (.iload_n 1, 1) := by decide +kernel
theorem d_OB_checkIndex_2 : decode b_OB_checkIndex 2 = .ok (.aconst_null, 1) := by decide +kernel
theorem d_OB_checkIndex_3 : decode b_OB_checkIndex 3 = .ok (.invokestatic 105, 3) := by decide +kernel
theorem d_OB_checkIndex_6 : decode b_OB_checkIndex 6 = .ok (.ireturn, 1) := by decide +kernel
theorem cal_OB_checkIndex : am_cal y_OB_checkIndex b_OB_checkIndex 2 ((Option.some FieldType.int)) 2 := ⟨Or.inl wx_289, wx_16, by decide, by decide +kernel⟩
abbrev y_PR_checkIndex : MethodName := ⟨"jdk/internal/util/Preconditions", "checkIndex", "(IILjava/util/function/BiFunction;)I"⟩
abbrev b_PR_checkIndex : ByteArray := prog_28_method_11_code
theorem d_PR_checkIndex_0 : decode b_PR_checkIndex 0 = .ok (.iload_n 0, 1) := by decide +kernel
theorem d_PR_checkIndex_1 : decode b_PR_checkIndex 1 = .ok (.ifCond .lt 8, 3) := by decide +kernel
theorem d_PR_checkIndex_4 : decode b_PR_checkIndex 4 = .ok (.iload_n 0, 1) := by decide +kernel
theorem d_PR_checkIndex_5 : decode b_PR_checkIndex 5 = .ok (.iload_n 1, 1) := by decide +kernel
theorem d_PR_checkIndex_6 : decode b_PR_checkIndex 6 = .ok (.if_icmp .lt 10, 3) := by decide +kernel
theorem d_PR_checkIndex_9 : decode b_PR_checkIndex 9 = .ok (.aload_n 2, 1) := by decide +kernel
theorem d_PR_checkIndex_10 : decode b_PR_checkIndex 10 = .ok (.iload_n 0, 1) := by decide +kernel
theorem d_PR_checkIndex_11 : decode b_PR_checkIndex 11 = .ok (.iload_n 1, 1) := by decide +kernel
theorem d_PR_checkIndex_12 : decode b_PR_checkIndex 12 = .ok (.invokestatic 95, 3) := by decide +kernel
theorem d_PR_checkIndex_15 : decode b_PR_checkIndex 15 = .ok (.athrow, 1) := by decide +kernel
theorem d_PR_checkIndex_16 : decode b_PR_checkIndex 16 = .ok (.iload_n 0, 1) := by decide +kernel
theorem d_PR_checkIndex_17 : decode b_PR_checkIndex 17 = .ok (.ireturn, 1) := by decide +kernel
theorem cal_PR_checkIndex : am_cal y_PR_checkIndex b_PR_checkIndex 3 ((Option.some FieldType.int)) 3 := ⟨Or.inl wx_292, wx_17, by decide, by decide +kernel⟩
abbrev y_A_elementData : MethodName := ⟨"java/util/ArrayList", "elementData", "(I)Ljava/lang/Object;"⟩
abbrev b_A_elementData : ByteArray := prog_20_method_18_code
theorem d_A_elementData_0 : decode b_A_elementData 0 = .ok (.aload_n 0, 1) := by decide +kernel
theorem d_A_elementData_1 : decode b_A_elementData 1 = .ok (.getfield 9, 3) := by decide +kernel
theorem d_A_elementData_4 : decode b_A_elementData 4 = .ok (.iload_n 1, 1) := by decide +kernel
theorem d_A_elementData_5 : decode b_A_elementData 5 = .ok (.aaload, 1) := by decide +kernel
theorem d_A_elementData_6 : decode b_A_elementData 6 = .ok (.areturn, 1) := by decide +kernel
theorem cal_A_elementData : am_cal y_A_elementData b_A_elementData 2 ((Option.some (FieldType.object "java/lang/Object"))) 1 := ⟨Or.inl wx_296, wx_4, by decide, by decide +kernel⟩
abbrev y_A_add3 : MethodName := ⟨"java/util/ArrayList", "add", "(ILjava/lang/Object;)V"⟩
abbrev b_A_add3 : ByteArray := prog_20_method_26_code
theorem d_A_add3_0 : decode b_A_add3 0 = .ok (.aload_n 0, 1) := by decide +kernel
theorem d_A_add3_1 : decode b_A_add3 1 = .ok (.iload_n 1, 1) := by decide +kernel
theorem d_A_add3_2 : decode b_A_add3 2 = .ok (.invokevirtual 135, 3) := by decide +kernel
theorem d_A_add3_5 : decode b_A_add3 5 = .ok (.aload_n 0, 1) := by decide +kernel
theorem d_A_add3_6 : decode b_A_add3 6 = .ok (.dup, 1) := by decide +kernel
theorem d_A_add3_7 : decode b_A_add3 7 = .ok (.getfield 63, 3) := by decide +kernel
theorem d_A_add3_10 : decode b_A_add3 10 = .ok (.iconst 1, 1) := by decide +kernel
theorem d_A_add3_11 : decode b_A_add3 11 = .ok (.iadd, 1) := by decide +kernel
theorem d_A_add3_12 : decode b_A_add3 12 = .ok (.putfield 63, 3) := by decide +kernel
theorem d_A_add3_15 : decode b_A_add3 15 = .ok (.aload_n 0, 1) := by decide +kernel
theorem d_A_add3_16 : decode b_A_add3 16 = .ok (.getfield 48, 3) := by decide +kernel
theorem d_A_add3_19 : decode b_A_add3 19 = .ok (.dup, 1) := by decide +kernel
theorem d_A_add3_20 : decode b_A_add3 20 = .ok (.istore_n 3, 1) := by decide +kernel
theorem d_A_add3_21 : decode b_A_add3 21 = .ok (.aload_n 0, 1) := by decide +kernel
theorem d_A_add3_22 : decode b_A_add3 22 = .ok (.getfield 9, 3) := by decide +kernel
theorem d_A_add3_25 : decode b_A_add3 25 = .ok (.dup, 1) := by decide +kernel
theorem d_A_add3_26 : decode b_A_add3 26 = .ok (.astore 4, 2) := by decide +kernel
theorem d_A_add3_28 : decode b_A_add3 28 = .ok (.arraylength, 1) := by decide +kernel
theorem d_A_add3_29 : decode b_A_add3 29 = .ok (.if_icmp .ne 9, 3) := by decide +kernel
theorem d_A_add3_32 : decode b_A_add3 32 = .ok (.aload_n 0, 1) := by decide +kernel
theorem d_A_add3_33 : decode b_A_add3 33 = .ok (.invokevirtual 129, 3) := by decide +kernel
theorem d_A_add3_36 : decode b_A_add3 36 = .ok (.astore 4, 2) := by decide +kernel
theorem d_A_add3_38 : decode b_A_add3 38 = .ok (.aload 4, 2) := by decide +kernel
theorem d_A_add3_40 : decode b_A_add3 40 = .ok (.iload_n 1, 1) := by decide +kernel
theorem d_A_add3_41 : decode b_A_add3 41 = .ok (.aload 4, 2) := by decide +kernel
theorem d_A_add3_43 : decode b_A_add3 43 = .ok (.iload_n 1, 1) := by decide +kernel
theorem d_A_add3_44 : decode b_A_add3 44 = .ok (.iconst 1, 1) := by decide +kernel
theorem d_A_add3_45 : decode b_A_add3 45 = .ok (.iadd, 1) := by decide +kernel
theorem d_A_add3_46 : decode b_A_add3 46 = .ok (.iload_n 3, 1) := by decide +kernel
theorem d_A_add3_47 : decode b_A_add3 47 = .ok (.iload_n 1, 1) := by decide +kernel
theorem d_A_add3_48 : decode b_A_add3 48 = .ok (.isub, 1) := by decide +kernel
theorem d_A_add3_49 : decode b_A_add3 49 = .ok (.invokestatic 112, 3) := by decide +kernel
theorem d_A_add3_52 : decode b_A_add3 52 = .ok (.aload 4, 2) := by decide +kernel
theorem d_A_add3_54 : decode b_A_add3 54 = .ok (.iload_n 1, 1) := by decide +kernel
theorem d_A_add3_55 : decode b_A_add3 55 = .ok (.aload_n 2, 1) := by decide +kernel
theorem d_A_add3_56 : decode b_A_add3 56 = .ok (.aastore, 1) := by decide +kernel
theorem d_A_add3_57 : decode b_A_add3 57 = .ok (.aload_n 0, 1) := by decide +kernel
theorem d_A_add3_58 : decode b_A_add3 58 = .ok (.iload_n 3, 1) := by decide +kernel
theorem d_A_add3_59 : decode b_A_add3 59 = .ok (.iconst 1, 1) := by decide +kernel
theorem d_A_add3_60 : decode b_A_add3 60 = .ok (.iadd, 1) := by decide +kernel
theorem d_A_add3_61 : decode b_A_add3 61 = .ok (.putfield 48, 3) := by decide +kernel
theorem d_A_add3_64 : decode b_A_add3 64 = .ok (.return_, 1) := by decide +kernel
theorem cal_A_add3 : am_cal y_A_add3 b_A_add3 5 ((Option.none : Option FieldType)) 2 := ⟨Or.inl wx_300, wx_4, by decide, by decide +kernel⟩
abbrev y_A_rangeCheckForAdd : MethodName := ⟨"java/util/ArrayList", "rangeCheckForAdd", "(I)V"⟩
abbrev b_A_rangeCheckForAdd : ByteArray := prog_20_method_45_code
theorem d_A_rangeCheckForAdd_0 : decode b_A_rangeCheckForAdd 0 = .ok (.iload_n 1, 1) := by decide +kernel
theorem d_A_rangeCheckForAdd_1 : decode b_A_rangeCheckForAdd 1 = .ok (.aload_n 0, 1) := by decide +kernel
theorem d_A_rangeCheckForAdd_2 : decode b_A_rangeCheckForAdd 2 = .ok (.getfield 48, 3) := by decide +kernel
theorem d_A_rangeCheckForAdd_5 : decode b_A_rangeCheckForAdd 5 = .ok (.if_icmp .gt 7, 3) := by decide +kernel
theorem d_A_rangeCheckForAdd_8 : decode b_A_rangeCheckForAdd 8 = .ok (.iload_n 1, 1) := by decide +kernel
theorem d_A_rangeCheckForAdd_9 : decode b_A_rangeCheckForAdd 9 = .ok (.ifCond .ge 16, 3) := by decide +kernel
theorem d_A_rangeCheckForAdd_12 : decode b_A_rangeCheckForAdd 12 = .ok (.new 187, 3) := by decide +kernel
theorem d_A_rangeCheckForAdd_15 : decode b_A_rangeCheckForAdd 15 = .ok (.dup, 1) := by decide +kernel
theorem d_A_rangeCheckForAdd_16 : decode b_A_rangeCheckForAdd 16 = .ok (.aload_n 0, 1) := by decide +kernel
theorem d_A_rangeCheckForAdd_17 : decode b_A_rangeCheckForAdd 17 = .ok (.iload_n 1, 1) := by decide +kernel
theorem d_A_rangeCheckForAdd_18 : decode b_A_rangeCheckForAdd 18 = .ok (.invokevirtual 198, 3) := by decide +kernel
theorem d_A_rangeCheckForAdd_21 : decode b_A_rangeCheckForAdd 21 = .ok (.invokespecial 193, 3) := by decide +kernel
theorem d_A_rangeCheckForAdd_24 : decode b_A_rangeCheckForAdd 24 = .ok (.athrow, 1) := by decide +kernel
theorem d_A_rangeCheckForAdd_25 : decode b_A_rangeCheckForAdd 25 = .ok (.return_, 1) := by decide +kernel
theorem cal_A_rangeCheckForAdd : am_cal y_A_rangeCheckForAdd b_A_rangeCheckForAdd 2 ((Option.none : Option FieldType)) 1 := ⟨Or.inl wx_304, wx_4, by decide, by decide +kernel⟩
abbrev y_L_meter : MethodName := ⟨"BillSharesLaw", "meter", "(LBillShares;IIIII[J)I"⟩
abbrev b_L_meter : ByteArray := method_4_code
theorem d_L_meter_0 : decode b_L_meter 0 = .ok (.aload 6, 2) := by decide +kernel
theorem d_L_meter_2 : decode b_L_meter 2 = .ok (.iconst 0, 1) := by decide +kernel
theorem d_L_meter_3 : decode b_L_meter 3 = .ok (.aload_n 0, 1) := by decide +kernel
theorem d_L_meter_4 : decode b_L_meter 4 = .ok (.iload_n 1, 1) := by decide +kernel
theorem d_L_meter_5 : decode b_L_meter 5 = .ok (.iload_n 2, 1) := by decide +kernel
theorem d_L_meter_6 : decode b_L_meter 6 = .ok (.iload_n 3, 1) := by decide +kernel
theorem d_L_meter_7 : decode b_L_meter 7 = .ok (.iload 4, 2) := by decide +kernel
theorem d_L_meter_9 : decode b_L_meter 9 = .ok (.iload 5, 2) := by decide +kernel
theorem d_L_meter_11 : decode b_L_meter 11 = .ok (.invokevirtual 17, 3) := by decide +kernel
theorem d_L_meter_14 : decode b_L_meter 14 = .ok (.i2l, 1) := by decide +kernel
theorem d_L_meter_15 : decode b_L_meter 15 = .ok (.lastore, 1) := by decide +kernel
theorem d_L_meter_16 : decode b_L_meter 16 = .ok (.goto 11, 3) := by decide +kernel
theorem d_L_meter_19 : decode b_L_meter 19 = .ok (.astore 7, 2) := by decide +kernel
theorem d_L_meter_21 : decode b_L_meter 21 = .ok (.iconst 1, 1) := by decide +kernel
theorem d_L_meter_22 : decode b_L_meter 22 = .ok (.ireturn, 1) := by decide +kernel
theorem d_L_meter_23 : decode b_L_meter 23 = .ok (.astore 7, 2) := by decide +kernel
theorem d_L_meter_25 : decode b_L_meter 25 = .ok (.iconst 2, 1) := by decide +kernel
theorem d_L_meter_26 : decode b_L_meter 26 = .ok (.ireturn, 1) := by decide +kernel
theorem d_L_meter_27 : decode b_L_meter 27 = .ok (.iconst 0, 1) := by decide +kernel
theorem d_L_meter_28 : decode b_L_meter 28 = .ok (.ireturn, 1) := by decide +kernel
theorem cal_L_meter : am_cal y_L_meter b_L_meter 8 ((Option.some FieldType.int)) 7 := ⟨Or.inr ⟨_, wx_308⟩, wx_0, by decide, by decide +kernel⟩
abbrev y_L_reading : MethodName := ⟨"BillSharesLaw", "reading", "(LBillShares;III[J)I"⟩
abbrev b_L_reading : ByteArray := method_5_code
theorem d_L_reading_0 : decode b_L_reading 0 = .ok (.aload 4, 2) := by decide +kernel
theorem d_L_reading_2 : decode b_L_reading 2 = .ok (.iconst 0, 1) := by decide +kernel
theorem d_L_reading_3 : decode b_L_reading 3 = .ok (.aload_n 0, 1) := by decide +kernel
theorem d_L_reading_4 : decode b_L_reading 4 = .ok (.iload_n 1, 1) := by decide +kernel
theorem d_L_reading_5 : decode b_L_reading 5 = .ok (.iload_n 2, 1) := by decide +kernel
theorem d_L_reading_6 : decode b_L_reading 6 = .ok (.iload_n 3, 1) := by decide +kernel
theorem d_L_reading_7 : decode b_L_reading 7 = .ok (.invokevirtual 21, 3) := by decide +kernel
theorem d_L_reading_10 : decode b_L_reading 10 = .ok (.i2l, 1) := by decide +kernel
theorem d_L_reading_11 : decode b_L_reading 11 = .ok (.lastore, 1) := by decide +kernel
theorem d_L_reading_12 : decode b_L_reading 12 = .ok (.goto 11, 3) := by decide +kernel
theorem d_L_reading_15 : decode b_L_reading 15 = .ok (.astore 5, 2) := by decide +kernel
theorem d_L_reading_17 : decode b_L_reading 17 = .ok (.iconst 1, 1) := by decide +kernel
theorem d_L_reading_18 : decode b_L_reading 18 = .ok (.ireturn, 1) := by decide +kernel
theorem d_L_reading_19 : decode b_L_reading 19 = .ok (.astore 5, 2) := by decide +kernel
theorem d_L_reading_21 : decode b_L_reading 21 = .ok (.iconst 2, 1) := by decide +kernel
theorem d_L_reading_22 : decode b_L_reading 22 = .ok (.ireturn, 1) := by decide +kernel
theorem d_L_reading_23 : decode b_L_reading 23 = .ok (.iconst 0, 1) := by decide +kernel
theorem d_L_reading_24 : decode b_L_reading 24 = .ok (.ireturn, 1) := by decide +kernel
theorem cal_L_reading : am_cal y_L_reading b_L_reading 6 ((Option.some FieldType.int)) 5 := ⟨Or.inr ⟨_, wx_361⟩, wx_0, by decide, by decide +kernel⟩
abbrev y_L_changed : MethodName := ⟨"BillSharesLaw", "changed", "(LBillShares;IIII[J)I"⟩
abbrev b_L_changed : ByteArray := method_6_code
theorem d_L_changed_0 : decode b_L_changed 0 = .ok (.aload 5, 2) := by decide +kernel
theorem d_L_changed_2 : decode b_L_changed 2 = .ok (.iconst 0, 1) := by decide +kernel
theorem d_L_changed_3 : decode b_L_changed 3 = .ok (.aload_n 0, 1) := by decide +kernel
theorem d_L_changed_4 : decode b_L_changed 4 = .ok (.iload_n 1, 1) := by decide +kernel
theorem d_L_changed_5 : decode b_L_changed 5 = .ok (.iload_n 2, 1) := by decide +kernel
theorem d_L_changed_6 : decode b_L_changed 6 = .ok (.iload_n 3, 1) := by decide +kernel
theorem d_L_changed_7 : decode b_L_changed 7 = .ok (.iload 4, 2) := by decide +kernel
theorem d_L_changed_9 : decode b_L_changed 9 = .ok (.invokevirtual 25, 3) := by decide +kernel
theorem d_L_changed_12 : decode b_L_changed 12 = .ok (.i2l, 1) := by decide +kernel
theorem d_L_changed_13 : decode b_L_changed 13 = .ok (.lastore, 1) := by decide +kernel
theorem d_L_changed_14 : decode b_L_changed 14 = .ok (.goto 11, 3) := by decide +kernel
theorem d_L_changed_17 : decode b_L_changed 17 = .ok (.astore 6, 2) := by decide +kernel
theorem d_L_changed_19 : decode b_L_changed 19 = .ok (.iconst 1, 1) := by decide +kernel
theorem d_L_changed_20 : decode b_L_changed 20 = .ok (.ireturn, 1) := by decide +kernel
theorem d_L_changed_21 : decode b_L_changed 21 = .ok (.astore 6, 2) := by decide +kernel
theorem d_L_changed_23 : decode b_L_changed 23 = .ok (.iconst 2, 1) := by decide +kernel
theorem d_L_changed_24 : decode b_L_changed 24 = .ok (.ireturn, 1) := by decide +kernel
theorem d_L_changed_25 : decode b_L_changed 25 = .ok (.iconst 0, 1) := by decide +kernel
theorem d_L_changed_26 : decode b_L_changed 26 = .ok (.ireturn, 1) := by decide +kernel
theorem cal_L_changed : am_cal y_L_changed b_L_changed 7 ((Option.some FieldType.int)) 6 := ⟨Or.inr ⟨_, wx_392⟩, wx_0, by decide, by decide +kernel⟩
abbrev y_L_correct : MethodName := ⟨"BillSharesLaw", "correct", "(LBillShares;III[J)I"⟩
abbrev b_L_correct : ByteArray := method_7_code
theorem d_L_correct_0 : decode b_L_correct 0 = .ok (.aload 4, 2) := by decide +kernel
theorem d_L_correct_2 : decode b_L_correct 2 = .ok (.iconst 0, 1) := by decide +kernel
theorem d_L_correct_3 : decode b_L_correct 3 = .ok (.aload_n 0, 1) := by decide +kernel
theorem d_L_correct_4 : decode b_L_correct 4 = .ok (.iload_n 1, 1) := by decide +kernel
theorem d_L_correct_5 : decode b_L_correct 5 = .ok (.iload_n 2, 1) := by decide +kernel
theorem d_L_correct_6 : decode b_L_correct 6 = .ok (.iload_n 3, 1) := by decide +kernel
theorem d_L_correct_7 : decode b_L_correct 7 = .ok (.invokevirtual 29, 3) := by decide +kernel
theorem d_L_correct_10 : decode b_L_correct 10 = .ok (.i2l, 1) := by decide +kernel
theorem d_L_correct_11 : decode b_L_correct 11 = .ok (.lastore, 1) := by decide +kernel
theorem d_L_correct_12 : decode b_L_correct 12 = .ok (.goto 7, 3) := by decide +kernel
theorem d_L_correct_15 : decode b_L_correct 15 = .ok (.astore 5, 2) := by decide +kernel
theorem d_L_correct_17 : decode b_L_correct 17 = .ok (.iconst 1, 1) := by decide +kernel
theorem d_L_correct_18 : decode b_L_correct 18 = .ok (.ireturn, 1) := by decide +kernel
theorem d_L_correct_19 : decode b_L_correct 19 = .ok (.iconst 0, 1) := by decide +kernel
theorem d_L_correct_20 : decode b_L_correct 20 = .ok (.ireturn, 1) := by decide +kernel
theorem cal_L_correct : am_cal y_L_correct b_L_correct 6 ((Option.some FieldType.int)) 5 := ⟨Or.inr ⟨_, wx_399⟩, wx_0, by decide, by decide +kernel⟩
abbrev y_L_tested : MethodName := ⟨"BillSharesLaw", "tested", "(LBillShares;II[J)I"⟩
abbrev b_L_tested : ByteArray := method_8_code
theorem d_L_tested_0 : decode b_L_tested 0 = .ok (.aload_n 3, 1) := by decide +kernel
theorem d_L_tested_1 : decode b_L_tested 1 = .ok (.iconst 0, 1) := by decide +kernel
theorem d_L_tested_2 : decode b_L_tested 2 = .ok (.aload_n 0, 1) := by decide +kernel
theorem d_L_tested_3 : decode b_L_tested 3 = .ok (.iload_n 1, 1) := by decide +kernel
theorem d_L_tested_4 : decode b_L_tested 4 = .ok (.iload_n 2, 1) := by decide +kernel
theorem d_L_tested_5 : decode b_L_tested 5 = .ok (.invokevirtual 32, 3) := by decide +kernel
theorem d_L_tested_8 : decode b_L_tested 8 = .ok (.i2l, 1) := by decide +kernel
theorem d_L_tested_9 : decode b_L_tested 9 = .ok (.lastore, 1) := by decide +kernel
theorem d_L_tested_10 : decode b_L_tested 10 = .ok (.goto 7, 3) := by decide +kernel
theorem d_L_tested_13 : decode b_L_tested 13 = .ok (.astore 4, 2) := by decide +kernel
theorem d_L_tested_15 : decode b_L_tested 15 = .ok (.iconst 1, 1) := by decide +kernel
theorem d_L_tested_16 : decode b_L_tested 16 = .ok (.ireturn, 1) := by decide +kernel
theorem d_L_tested_17 : decode b_L_tested 17 = .ok (.iconst 0, 1) := by decide +kernel
theorem d_L_tested_18 : decode b_L_tested 18 = .ok (.ireturn, 1) := by decide +kernel
theorem cal_L_tested : am_cal y_L_tested b_L_tested 5 ((Option.some FieldType.int)) 4 := ⟨Or.inr ⟨_, wx_419⟩, wx_0, by decide, by decide +kernel⟩
abbrev y_L_cost : MethodName := ⟨"BillSharesLaw", "cost", "(LBillShares;III[J)I"⟩
abbrev b_L_cost : ByteArray := method_9_code
theorem d_L_cost_0 : decode b_L_cost 0 = .ok (.aload 4, 2) := by decide +kernel
theorem d_L_cost_2 : decode b_L_cost 2 = .ok (.iconst 0, 1) := by decide +kernel
theorem d_L_cost_3 : decode b_L_cost 3 = .ok (.aload_n 0, 1) := by decide +kernel
theorem d_L_cost_4 : decode b_L_cost 4 = .ok (.iload_n 1, 1) := by decide +kernel
theorem d_L_cost_5 : decode b_L_cost 5 = .ok (.iload_n 2, 1) := by decide +kernel
theorem d_L_cost_6 : decode b_L_cost 6 = .ok (.iload_n 3, 1) := by decide +kernel
theorem d_L_cost_7 : decode b_L_cost 7 = .ok (.invokevirtual 35, 3) := by decide +kernel
theorem d_L_cost_10 : decode b_L_cost 10 = .ok (.i2l, 1) := by decide +kernel
theorem d_L_cost_11 : decode b_L_cost 11 = .ok (.lastore, 1) := by decide +kernel
theorem d_L_cost_12 : decode b_L_cost 12 = .ok (.goto 7, 3) := by decide +kernel
theorem d_L_cost_15 : decode b_L_cost 15 = .ok (.astore 5, 2) := by decide +kernel
theorem d_L_cost_17 : decode b_L_cost 17 = .ok (.iconst 1, 1) := by decide +kernel
theorem d_L_cost_18 : decode b_L_cost 18 = .ok (.ireturn, 1) := by decide +kernel
theorem d_L_cost_19 : decode b_L_cost 19 = .ok (.iconst 0, 1) := by decide +kernel
theorem d_L_cost_20 : decode b_L_cost 20 = .ok (.ireturn, 1) := by decide +kernel
theorem cal_L_cost : am_cal y_L_cost b_L_cost 6 ((Option.some FieldType.int)) 5 := ⟨Or.inr ⟨_, wx_426⟩, wx_0, by decide, by decide +kernel⟩
abbrev y_L_base : MethodName := ⟨"BillSharesLaw", "base", "(LBillShares;II[J)I"⟩
abbrev b_L_base : ByteArray := method_10_code
theorem d_L_base_0 : decode b_L_base 0 = .ok (.aload_n 3, 1) := by decide +kernel
theorem d_L_base_1 : decode b_L_base 1 = .ok (.iconst 0, 1) := by decide +kernel
theorem d_L_base_2 : decode b_L_base 2 = .ok (.aload_n 0, 1) := by decide +kernel
theorem d_L_base_3 : decode b_L_base 3 = .ok (.iload_n 1, 1) := by decide +kernel
theorem d_L_base_4 : decode b_L_base 4 = .ok (.iload_n 2, 1) := by decide +kernel
theorem d_L_base_5 : decode b_L_base 5 = .ok (.invokevirtual 38, 3) := by decide +kernel
theorem d_L_base_8 : decode b_L_base 8 = .ok (.i2l, 1) := by decide +kernel
theorem d_L_base_9 : decode b_L_base 9 = .ok (.lastore, 1) := by decide +kernel
theorem d_L_base_10 : decode b_L_base 10 = .ok (.goto 7, 3) := by decide +kernel
theorem d_L_base_13 : decode b_L_base 13 = .ok (.astore 4, 2) := by decide +kernel
theorem d_L_base_15 : decode b_L_base 15 = .ok (.iconst 1, 1) := by decide +kernel
theorem d_L_base_16 : decode b_L_base 16 = .ok (.ireturn, 1) := by decide +kernel
theorem d_L_base_17 : decode b_L_base 17 = .ok (.iconst 0, 1) := by decide +kernel
theorem d_L_base_18 : decode b_L_base 18 = .ok (.ireturn, 1) := by decide +kernel
theorem cal_L_base : am_cal y_L_base b_L_base 5 ((Option.some FieldType.int)) 4 := ⟨Or.inr ⟨_, wx_437⟩, wx_0, by decide, by decide +kernel⟩
abbrev y_L_moves : MethodName := ⟨"BillSharesLaw", "moves", "(LBillShares;II[J)I"⟩
abbrev b_L_moves : ByteArray := method_11_code
theorem d_L_moves_0 : decode b_L_moves 0 = .ok (.aload_n 3, 1) := by decide +kernel
theorem d_L_moves_1 : decode b_L_moves 1 = .ok (.iconst 0, 1) := by decide +kernel
theorem d_L_moves_2 : decode b_L_moves 2 = .ok (.aload_n 0, 1) := by decide +kernel
theorem d_L_moves_3 : decode b_L_moves 3 = .ok (.iload_n 1, 1) := by decide +kernel
theorem d_L_moves_4 : decode b_L_moves 4 = .ok (.iload_n 2, 1) := by decide +kernel
theorem d_L_moves_5 : decode b_L_moves 5 = .ok (.invokevirtual 41, 3) := by decide +kernel
theorem d_L_moves_8 : decode b_L_moves 8 = .ok (.i2l, 1) := by decide +kernel
theorem d_L_moves_9 : decode b_L_moves 9 = .ok (.lastore, 1) := by decide +kernel
theorem d_L_moves_10 : decode b_L_moves 10 = .ok (.goto 11, 3) := by decide +kernel
theorem d_L_moves_13 : decode b_L_moves 13 = .ok (.astore 4, 2) := by decide +kernel
theorem d_L_moves_15 : decode b_L_moves 15 = .ok (.iconst 1, 1) := by decide +kernel
theorem d_L_moves_16 : decode b_L_moves 16 = .ok (.ireturn, 1) := by decide +kernel
theorem d_L_moves_17 : decode b_L_moves 17 = .ok (.astore 4, 2) := by decide +kernel
theorem d_L_moves_19 : decode b_L_moves 19 = .ok (.iconst 2, 1) := by decide +kernel
theorem d_L_moves_20 : decode b_L_moves 20 = .ok (.ireturn, 1) := by decide +kernel
theorem d_L_moves_21 : decode b_L_moves 21 = .ok (.iconst 0, 1) := by decide +kernel
theorem d_L_moves_22 : decode b_L_moves 22 = .ok (.ireturn, 1) := by decide +kernel
theorem cal_L_moves : am_cal y_L_moves b_L_moves 5 ((Option.some FieldType.int)) 4 := ⟨Or.inr ⟨_, wx_444⟩, wx_0, by decide, by decide +kernel⟩
abbrev y_L_prepaid : MethodName := ⟨"BillSharesLaw", "prepaid", "(LBillShares;III[J)I"⟩
abbrev b_L_prepaid : ByteArray := method_12_code
theorem d_L_prepaid_0 : decode b_L_prepaid 0 = .ok (.aload 4, 2) := by decide +kernel
theorem d_L_prepaid_2 : decode b_L_prepaid 2 = .ok (.iconst 0, 1) := by decide +kernel
theorem d_L_prepaid_3 : decode b_L_prepaid 3 = .ok (.aload_n 0, 1) := by decide +kernel
theorem d_L_prepaid_4 : decode b_L_prepaid 4 = .ok (.iload_n 1, 1) := by decide +kernel
theorem d_L_prepaid_5 : decode b_L_prepaid 5 = .ok (.iload_n 2, 1) := by decide +kernel
theorem d_L_prepaid_6 : decode b_L_prepaid 6 = .ok (.iload_n 3, 1) := by decide +kernel
theorem d_L_prepaid_7 : decode b_L_prepaid 7 = .ok (.invokevirtual 44, 3) := by decide +kernel
theorem d_L_prepaid_10 : decode b_L_prepaid 10 = .ok (.lastore, 1) := by decide +kernel
theorem d_L_prepaid_11 : decode b_L_prepaid 11 = .ok (.goto 7, 3) := by decide +kernel
theorem d_L_prepaid_14 : decode b_L_prepaid 14 = .ok (.astore 5, 2) := by decide +kernel
theorem d_L_prepaid_16 : decode b_L_prepaid 16 = .ok (.iconst 1, 1) := by decide +kernel
theorem d_L_prepaid_17 : decode b_L_prepaid 17 = .ok (.ireturn, 1) := by decide +kernel
theorem d_L_prepaid_18 : decode b_L_prepaid 18 = .ok (.iconst 0, 1) := by decide +kernel
theorem d_L_prepaid_19 : decode b_L_prepaid 19 = .ok (.ireturn, 1) := by decide +kernel
theorem cal_L_prepaid : am_cal y_L_prepaid b_L_prepaid 6 ((Option.some FieldType.int)) 5 := ⟨Or.inr ⟨_, wx_465⟩, wx_0, by decide, by decide +kernel⟩
abbrev y_L_run : MethodName := ⟨"BillSharesLaw", "run", "(LBillShares;I[J)I"⟩
abbrev b_L_run : ByteArray := method_13_code
theorem d_L_run_0 : decode b_L_run 0 = .ok (.aload_n 2, 1) := by decide +kernel
theorem d_L_run_1 : decode b_L_run 1 = .ok (.iconst 0, 1) := by decide +kernel
theorem d_L_run_2 : decode b_L_run 2 = .ok (.aload_n 0, 1) := by decide +kernel
theorem d_L_run_3 : decode b_L_run 3 = .ok (.iload_n 1, 1) := by decide +kernel
theorem d_L_run_4 : decode b_L_run 4 = .ok (.invokevirtual 48, 3) := by decide +kernel
theorem d_L_run_7 : decode b_L_run 7 = .ok (.i2l, 1) := by decide +kernel
theorem d_L_run_8 : decode b_L_run 8 = .ok (.lastore, 1) := by decide +kernel
theorem d_L_run_9 : decode b_L_run 9 = .ok (.goto 9, 3) := by decide +kernel
theorem d_L_run_12 : decode b_L_run 12 = .ok (.astore_n 3, 1) := by decide +kernel
theorem d_L_run_13 : decode b_L_run 13 = .ok (.iconst 1, 1) := by decide +kernel
theorem d_L_run_14 : decode b_L_run 14 = .ok (.ireturn, 1) := by decide +kernel
theorem d_L_run_15 : decode b_L_run 15 = .ok (.astore_n 3, 1) := by decide +kernel
theorem d_L_run_16 : decode b_L_run 16 = .ok (.iconst 2, 1) := by decide +kernel
theorem d_L_run_17 : decode b_L_run 17 = .ok (.ireturn, 1) := by decide +kernel
theorem d_L_run_18 : decode b_L_run 18 = .ok (.iconst 0, 1) := by decide +kernel
theorem d_L_run_19 : decode b_L_run 19 = .ok (.ireturn, 1) := by decide +kernel
theorem cal_L_run : am_cal y_L_run b_L_run 4 ((Option.some FieldType.int)) 3 := ⟨Or.inr ⟨_, wx_472⟩, wx_0, by decide, by decide +kernel⟩
abbrev y_A_isEmpty : MethodName := ⟨"java/util/ArrayList", "isEmpty", "()Z"⟩
abbrev b_A_isEmpty : ByteArray := prog_20_method_9_code
theorem d_A_isEmpty_0 : decode b_A_isEmpty 0 = .ok (.aload_n 0, 1) := by decide +kernel
theorem d_A_isEmpty_1 : decode b_A_isEmpty 1 = .ok (.getfield 48, 3) := by decide +kernel
theorem d_A_isEmpty_4 : decode b_A_isEmpty 4 = .ok (.ifCond .ne 7, 3) := by decide +kernel
theorem d_A_isEmpty_7 : decode b_A_isEmpty 7 = .ok (.iconst 1, 1) := by decide +kernel
theorem d_A_isEmpty_8 : decode b_A_isEmpty 8 = .ok (.goto 4, 3) := by decide +kernel
theorem d_A_isEmpty_11 : decode b_A_isEmpty 11 = .ok (.iconst 0, 1) := by decide +kernel
theorem d_A_isEmpty_12 : decode b_A_isEmpty 12 = .ok (.ireturn, 1) := by decide +kernel
theorem cal_A_isEmpty : am_cal y_A_isEmpty b_A_isEmpty 1 ((Option.some FieldType.boolean)) 0 := ⟨Or.inl wx_480, wx_4, by decide, by decide +kernel⟩
abbrev y_L_use : MethodName := ⟨"BillSharesLaw", "use", "(LBillShares;II[J)I"⟩
abbrev b_L_use : ByteArray := method_14_code
theorem d_L_use_0 : decode b_L_use 0 = .ok (.aload_n 3, 1) := by decide +kernel
theorem d_L_use_1 : decode b_L_use 1 = .ok (.iconst 0, 1) := by decide +kernel
theorem d_L_use_2 : decode b_L_use 2 = .ok (.aload_n 0, 1) := by decide +kernel
theorem d_L_use_3 : decode b_L_use 3 = .ok (.iload_n 1, 1) := by decide +kernel
theorem d_L_use_4 : decode b_L_use 4 = .ok (.iload_n 2, 1) := by decide +kernel
theorem d_L_use_5 : decode b_L_use 5 = .ok (.invokevirtual 52, 3) := by decide +kernel
theorem d_L_use_8 : decode b_L_use 8 = .ok (.lastore, 1) := by decide +kernel
theorem d_L_use_9 : decode b_L_use 9 = .ok (.goto 7, 3) := by decide +kernel
theorem d_L_use_12 : decode b_L_use 12 = .ok (.astore 4, 2) := by decide +kernel
theorem d_L_use_14 : decode b_L_use 14 = .ok (.iconst 1, 1) := by decide +kernel
theorem d_L_use_15 : decode b_L_use 15 = .ok (.ireturn, 1) := by decide +kernel
theorem d_L_use_16 : decode b_L_use 16 = .ok (.iconst 0, 1) := by decide +kernel
theorem d_L_use_17 : decode b_L_use 17 = .ok (.ireturn, 1) := by decide +kernel
theorem cal_L_use : am_cal y_L_use b_L_use 5 ((Option.some FieldType.int)) 4 := ⟨Or.inr ⟨_, wx_573⟩, wx_0, by decide, by decide +kernel⟩
abbrev y_L_barred : MethodName := ⟨"BillSharesLaw", "barred", "(LBillShares;III[J)I"⟩
abbrev b_L_barred : ByteArray := method_15_code
theorem d_L_barred_0 : decode b_L_barred 0 = .ok (.aload 4, 2) := by decide +kernel
theorem d_L_barred_2 : decode b_L_barred 2 = .ok (.iconst 0, 1) := by decide +kernel
theorem d_L_barred_3 : decode b_L_barred 3 = .ok (.aload_n 0, 1) := by decide +kernel
theorem d_L_barred_4 : decode b_L_barred 4 = .ok (.iload_n 1, 1) := by decide +kernel
theorem d_L_barred_5 : decode b_L_barred 5 = .ok (.iload_n 2, 1) := by decide +kernel
theorem d_L_barred_6 : decode b_L_barred 6 = .ok (.iload_n 3, 1) := by decide +kernel
theorem d_L_barred_7 : decode b_L_barred 7 = .ok (.invokevirtual 56, 3) := by decide +kernel
theorem d_L_barred_10 : decode b_L_barred 10 = .ok (.i2l, 1) := by decide +kernel
theorem d_L_barred_11 : decode b_L_barred 11 = .ok (.lastore, 1) := by decide +kernel
theorem d_L_barred_12 : decode b_L_barred 12 = .ok (.goto 7, 3) := by decide +kernel
theorem d_L_barred_15 : decode b_L_barred 15 = .ok (.astore 5, 2) := by decide +kernel
theorem d_L_barred_17 : decode b_L_barred 17 = .ok (.iconst 1, 1) := by decide +kernel
theorem d_L_barred_18 : decode b_L_barred 18 = .ok (.ireturn, 1) := by decide +kernel
theorem d_L_barred_19 : decode b_L_barred 19 = .ok (.iconst 0, 1) := by decide +kernel
theorem d_L_barred_20 : decode b_L_barred 20 = .ok (.ireturn, 1) := by decide +kernel
theorem cal_L_barred : am_cal y_L_barred b_L_barred 6 ((Option.some FieldType.int)) 5 := ⟨Or.inr ⟨_, wx_583⟩, wx_0, by decide, by decide +kernel⟩
abbrev y_L_line : MethodName := ⟨"BillSharesLaw", "line", "(LBillShares;IIII[J)I"⟩
abbrev b_L_line : ByteArray := method_16_code
theorem d_L_line_0 : decode b_L_line 0 = .ok (.aload 5, 2) := by decide +kernel
theorem d_L_line_2 : decode b_L_line 2 = .ok (.iconst 0, 1) := by decide +kernel
theorem d_L_line_3 : decode b_L_line 3 = .ok (.aload_n 0, 1) := by decide +kernel
theorem d_L_line_4 : decode b_L_line 4 = .ok (.iload_n 1, 1) := by decide +kernel
theorem d_L_line_5 : decode b_L_line 5 = .ok (.iload_n 2, 1) := by decide +kernel
theorem d_L_line_6 : decode b_L_line 6 = .ok (.iload_n 3, 1) := by decide +kernel
theorem d_L_line_7 : decode b_L_line 7 = .ok (.iload 4, 2) := by decide +kernel
theorem d_L_line_9 : decode b_L_line 9 = .ok (.invokevirtual 59, 3) := by decide +kernel
theorem d_L_line_12 : decode b_L_line 12 = .ok (.lastore, 1) := by decide +kernel
theorem d_L_line_13 : decode b_L_line 13 = .ok (.goto 11, 3) := by decide +kernel
theorem d_L_line_16 : decode b_L_line 16 = .ok (.astore 6, 2) := by decide +kernel
theorem d_L_line_18 : decode b_L_line 18 = .ok (.iconst 1, 1) := by decide +kernel
theorem d_L_line_19 : decode b_L_line 19 = .ok (.ireturn, 1) := by decide +kernel
theorem d_L_line_20 : decode b_L_line 20 = .ok (.astore 6, 2) := by decide +kernel
theorem d_L_line_22 : decode b_L_line 22 = .ok (.iconst 2, 1) := by decide +kernel
theorem d_L_line_23 : decode b_L_line 23 = .ok (.ireturn, 1) := by decide +kernel
theorem d_L_line_24 : decode b_L_line 24 = .ok (.iconst 0, 1) := by decide +kernel
theorem d_L_line_25 : decode b_L_line 25 = .ok (.ireturn, 1) := by decide +kernel
theorem cal_L_line : am_cal y_L_line b_L_line 7 ((Option.some FieldType.int)) 6 := ⟨Or.inr ⟨_, wx_590⟩, wx_0, by decide, by decide +kernel⟩
abbrev y_L_share : MethodName := ⟨"BillSharesLaw", "share", "(LBillShares;II[J)I"⟩
abbrev b_L_share : ByteArray := method_17_code
theorem d_L_share_0 : decode b_L_share 0 = .ok (.aload_n 3, 1) := by decide +kernel
theorem d_L_share_1 : decode b_L_share 1 = .ok (.iconst 0, 1) := by decide +kernel
theorem d_L_share_2 : decode b_L_share 2 = .ok (.aload_n 0, 1) := by decide +kernel
theorem d_L_share_3 : decode b_L_share 3 = .ok (.iload_n 1, 1) := by decide +kernel
theorem d_L_share_4 : decode b_L_share 4 = .ok (.iload_n 2, 1) := by decide +kernel
theorem d_L_share_5 : decode b_L_share 5 = .ok (.invokevirtual 63, 3) := by decide +kernel
theorem d_L_share_8 : decode b_L_share 8 = .ok (.lastore, 1) := by decide +kernel
theorem d_L_share_9 : decode b_L_share 9 = .ok (.goto 11, 3) := by decide +kernel
theorem d_L_share_12 : decode b_L_share 12 = .ok (.astore 4, 2) := by decide +kernel
theorem d_L_share_14 : decode b_L_share 14 = .ok (.iconst 1, 1) := by decide +kernel
theorem d_L_share_15 : decode b_L_share 15 = .ok (.ireturn, 1) := by decide +kernel
theorem d_L_share_16 : decode b_L_share 16 = .ok (.astore 4, 2) := by decide +kernel
theorem d_L_share_18 : decode b_L_share 18 = .ok (.iconst 2, 1) := by decide +kernel
theorem d_L_share_19 : decode b_L_share 19 = .ok (.ireturn, 1) := by decide +kernel
theorem d_L_share_20 : decode b_L_share 20 = .ok (.iconst 0, 1) := by decide +kernel
theorem d_L_share_21 : decode b_L_share 21 = .ok (.ireturn, 1) := by decide +kernel
theorem cal_L_share : am_cal y_L_share b_L_share 5 ((Option.some FieldType.int)) 4 := ⟨Or.inr ⟨_, wx_603⟩, wx_0, by decide, by decide +kernel⟩
abbrev y_L_part : MethodName := ⟨"BillSharesLaw", "part", "(LBillShares;III[J)I"⟩
abbrev b_L_part : ByteArray := method_18_code
theorem d_L_part_0 : decode b_L_part 0 = .ok (.aload 4, 2) := by decide +kernel
theorem d_L_part_2 : decode b_L_part 2 = .ok (.iconst 0, 1) := by decide +kernel
theorem d_L_part_3 : decode b_L_part 3 = .ok (.aload_n 0, 1) := by decide +kernel
theorem d_L_part_4 : decode b_L_part 4 = .ok (.iload_n 1, 1) := by decide +kernel
theorem d_L_part_5 : decode b_L_part 5 = .ok (.iload_n 2, 1) := by decide +kernel
theorem d_L_part_6 : decode b_L_part 6 = .ok (.iload_n 3, 1) := by decide +kernel
theorem d_L_part_7 : decode b_L_part 7 = .ok (.invokevirtual 66, 3) := by decide +kernel
theorem d_L_part_10 : decode b_L_part 10 = .ok (.lastore, 1) := by decide +kernel
theorem d_L_part_11 : decode b_L_part 11 = .ok (.goto 11, 3) := by decide +kernel
theorem d_L_part_14 : decode b_L_part 14 = .ok (.astore 5, 2) := by decide +kernel
theorem d_L_part_16 : decode b_L_part 16 = .ok (.iconst 1, 1) := by decide +kernel
theorem d_L_part_17 : decode b_L_part 17 = .ok (.ireturn, 1) := by decide +kernel
theorem d_L_part_18 : decode b_L_part 18 = .ok (.astore 5, 2) := by decide +kernel
theorem d_L_part_20 : decode b_L_part 20 = .ok (.iconst 2, 1) := by decide +kernel
theorem d_L_part_21 : decode b_L_part 21 = .ok (.ireturn, 1) := by decide +kernel
theorem d_L_part_22 : decode b_L_part 22 = .ok (.iconst 0, 1) := by decide +kernel
theorem d_L_part_23 : decode b_L_part 23 = .ok (.ireturn, 1) := by decide +kernel
theorem cal_L_part : am_cal y_L_part b_L_part 6 ((Option.some FieldType.int)) 5 := ⟨Or.inr ⟨_, wx_610⟩, wx_0, by decide, by decide +kernel⟩
abbrev y_L_balance : MethodName := ⟨"BillSharesLaw", "balance", "(LBillShares;II[J)I"⟩
abbrev b_L_balance : ByteArray := method_19_code
theorem d_L_balance_0 : decode b_L_balance 0 = .ok (.aload_n 3, 1) := by decide +kernel
theorem d_L_balance_1 : decode b_L_balance 1 = .ok (.iconst 0, 1) := by decide +kernel
theorem d_L_balance_2 : decode b_L_balance 2 = .ok (.aload_n 0, 1) := by decide +kernel
theorem d_L_balance_3 : decode b_L_balance 3 = .ok (.iload_n 1, 1) := by decide +kernel
theorem d_L_balance_4 : decode b_L_balance 4 = .ok (.iload_n 2, 1) := by decide +kernel
theorem d_L_balance_5 : decode b_L_balance 5 = .ok (.invokevirtual 69, 3) := by decide +kernel
theorem d_L_balance_8 : decode b_L_balance 8 = .ok (.lastore, 1) := by decide +kernel
theorem d_L_balance_9 : decode b_L_balance 9 = .ok (.goto 11, 3) := by decide +kernel
theorem d_L_balance_12 : decode b_L_balance 12 = .ok (.astore 4, 2) := by decide +kernel
theorem d_L_balance_14 : decode b_L_balance 14 = .ok (.iconst 1, 1) := by decide +kernel
theorem d_L_balance_15 : decode b_L_balance 15 = .ok (.ireturn, 1) := by decide +kernel
theorem d_L_balance_16 : decode b_L_balance 16 = .ok (.astore 4, 2) := by decide +kernel
theorem d_L_balance_18 : decode b_L_balance 18 = .ok (.iconst 2, 1) := by decide +kernel
theorem d_L_balance_19 : decode b_L_balance 19 = .ok (.ireturn, 1) := by decide +kernel
theorem d_L_balance_20 : decode b_L_balance 20 = .ok (.iconst 0, 1) := by decide +kernel
theorem d_L_balance_21 : decode b_L_balance 21 = .ok (.ireturn, 1) := by decide +kernel
theorem cal_L_balance : am_cal y_L_balance b_L_balance 5 ((Option.some FieldType.int)) 4 := ⟨Or.inr ⟨_, wx_636⟩, wx_0, by decide, by decide +kernel⟩
abbrev y_L_difference : MethodName := ⟨"BillSharesLaw", "difference", "(LBillShares;II[J)I"⟩
abbrev b_L_difference : ByteArray := method_20_code
theorem d_L_difference_0 : decode b_L_difference 0 = .ok (.aload_n 3, 1) := by decide +kernel
theorem d_L_difference_1 : decode b_L_difference 1 = .ok (.iconst 0, 1) := by decide +kernel
theorem d_L_difference_2 : decode b_L_difference 2 = .ok (.aload_n 0, 1) := by decide +kernel
theorem d_L_difference_3 : decode b_L_difference 3 = .ok (.iload_n 1, 1) := by decide +kernel
theorem d_L_difference_4 : decode b_L_difference 4 = .ok (.iload_n 2, 1) := by decide +kernel
theorem d_L_difference_5 : decode b_L_difference 5 = .ok (.invokevirtual 72, 3) := by decide +kernel
theorem d_L_difference_8 : decode b_L_difference 8 = .ok (.lastore, 1) := by decide +kernel
theorem d_L_difference_9 : decode b_L_difference 9 = .ok (.goto 11, 3) := by decide +kernel
theorem d_L_difference_12 : decode b_L_difference 12 = .ok (.astore 4, 2) := by decide +kernel
theorem d_L_difference_14 : decode b_L_difference 14 = .ok (.iconst 1, 1) := by decide +kernel
theorem d_L_difference_15 : decode b_L_difference 15 = .ok (.ireturn, 1) := by decide +kernel
theorem d_L_difference_16 : decode b_L_difference 16 = .ok (.astore 4, 2) := by decide +kernel
theorem d_L_difference_18 : decode b_L_difference 18 = .ok (.iconst 2, 1) := by decide +kernel
theorem d_L_difference_19 : decode b_L_difference 19 = .ok (.ireturn, 1) := by decide +kernel
theorem d_L_difference_20 : decode b_L_difference 20 = .ok (.iconst 0, 1) := by decide +kernel
theorem d_L_difference_21 : decode b_L_difference 21 = .ok (.ireturn, 1) := by decide +kernel
theorem cal_L_difference : am_cal y_L_difference b_L_difference 5 ((Option.some FieldType.int)) 4 := ⟨Or.inr ⟨_, wx_643⟩, wx_0, by decide, by decide +kernel⟩
abbrev y_L_edition : MethodName := ⟨"BillSharesLaw", "edition", "(LBillShares;I[J)I"⟩
abbrev b_L_edition : ByteArray := method_21_code
theorem d_L_edition_0 : decode b_L_edition 0 = .ok (.aload_n 2, 1) := by decide +kernel
theorem d_L_edition_1 : decode b_L_edition 1 = .ok (.iconst 0, 1) := by decide +kernel
theorem d_L_edition_2 : decode b_L_edition 2 = .ok (.aload_n 0, 1) := by decide +kernel
theorem d_L_edition_3 : decode b_L_edition 3 = .ok (.iload_n 1, 1) := by decide +kernel
theorem d_L_edition_4 : decode b_L_edition 4 = .ok (.invokevirtual 75, 3) := by decide +kernel
theorem d_L_edition_7 : decode b_L_edition 7 = .ok (.i2l, 1) := by decide +kernel
theorem d_L_edition_8 : decode b_L_edition 8 = .ok (.lastore, 1) := by decide +kernel
theorem d_L_edition_9 : decode b_L_edition 9 = .ok (.goto 6, 3) := by decide +kernel
theorem d_L_edition_12 : decode b_L_edition 12 = .ok (.astore_n 3, 1) := by decide +kernel
theorem d_L_edition_13 : decode b_L_edition 13 = .ok (.iconst 1, 1) := by decide +kernel
theorem d_L_edition_14 : decode b_L_edition 14 = .ok (.ireturn, 1) := by decide +kernel
theorem d_L_edition_15 : decode b_L_edition 15 = .ok (.iconst 0, 1) := by decide +kernel
theorem d_L_edition_16 : decode b_L_edition 16 = .ok (.ireturn, 1) := by decide +kernel
theorem cal_L_edition : am_cal y_L_edition b_L_edition 4 ((Option.some FieldType.int)) 3 := ⟨Or.inr ⟨_, wx_650⟩, wx_0, by decide, by decide +kernel⟩
end
section
/-! arrays as functions of Ints, lcmp with its branch, calls of callees that change nothing (written by wip/whole/mkarr.py) -/
abbrev am_ia (N : Nat) (g : Int → Int) : am_E := .inl (0, N, fun i => iV (g (i : Int)))
abbrev am_la (N : Nat) (g : Int → Int) : am_E := .inl (1, N, fun i => lV (g (i : Int)))
abbrev am_za (N : Nat) (g : Int → Int) : am_E := .inl (4, N, fun i => iV (g (i : Int)))
def upI (g : Int → Int) (z w : Int) : Int → Int := fun i => if i = z then w else g i
theorem upI_s {g : Int → Int} {z w : Int} : upI g z w z = w := if_pos rfl
theorem upI_n {g : Int → Int} {z w i : Int} (h : i ≠ z) : upI g z w i = g i := if_neg h
theorem am_upi {g : Int → Int} {z w : Int} (h0 : 0 ≤ z) : updV (fun i : Nat => iV (g (i : Int))) z.toNat (iV w) = fun i : Nat => iV (upI g z w (i : Int)) := by
  funext i
  unfold updV upI
  by_cases h : i = z.toNat
  · rw [if_pos h, if_pos (by omega)]
  · rw [if_neg h, if_neg (by omega)]
theorem am_upl {g : Int → Int} {z w : Int} (h0 : 0 ≤ z) : updV (fun i : Nat => lV (g (i : Int))) z.toNat (lV w) = fun i : Nat => lV (upI g z w (i : Int)) := by
  funext i
  unfold updV upI
  by_cases h : i = z.toNat
  · rw [if_pos h, if_pos (by omega)]
  · rw [if_neg h, if_neg (by omega)]
/-- the truth of a proposition as an int -/
noncomputable def bI (q : Prop) : Int := @ite Int q (Classical.propDecidable q) 1 0
theorem bI_t {q : Prop} (h : q) : bI q = 1 := if_pos h
theorem bI_f {q : Prop} (h : ¬ q) : bI q = 0 := if_neg h
theorem bI_r (q : Prop) : bI q = 0 ∨ bI q = 1 := by
  by_cases h : q
  · exact Or.inr (bI_t h)
  · exact Or.inl (bI_f h)
theorem bI_1 {q : Prop} : bI q = 1 ↔ q := ⟨fun h => Classical.byContradiction fun n => (by rw [bI_f n] at h; cases h), bI_t⟩
theorem bI_0 {q : Prop} : bI q = 0 ↔ ¬ q := ⟨fun h n => (by rw [bI_t n] at h; cases h), bI_f⟩
theorem bI_c {q r : Prop} (h : q ↔ r) : bI q = bI r := by rw [propext h]
/-- a callee that changes nothing -/
def CnP (l : Launch) (X : am_X) (y : MethodName) (rm : Room) (av : List Value) (h : am_H) (nx : Nat) (r : Value) : Prop := Cn l X y rm av h nx (fun o h' nx' => o = .returned (some r) ∧ h' = h ∧ nx' = nx)

section AMA
variable {p : Program} {l : Launch} {e : Env} {R : Room} {s : State} {m : MethodId} {args : Array Value} {below : List Frame} {meth : Method} {c : Code} {nL : Nat} {X : am_X} {Q : State → Prop}
variable {cc : ByteArray} {y : MethodName} {ret : Option FieldType} {et : List (Nat × Nat × Nat × Nat)} {h : am_H} {nx cells slots pc pc' : Nat} {L : List (Option Value)} {st : List Value}
variable {y' : MethodName} {rm : Room} {av : List Value} {bytes : ByteArray} {maxL index : Nat} {ret' : Option FieldType}
theorem v_iag (F : am_Fx p s m args meth c y cc nL ret et X) {N a : Nat} {g : Int → Int} {z : Int} (d : decode cc pc = .ok (.iaload, 1)) (hp : pc + 1 = pc') (ha : h a = some (am_ia N g)) (hN : N < 2147483648) (h0 : 0 ≤ z) (h1 : z < N) (k : V p l e R s m args below meth c nL X Q h nx cells slots pc' L (iV (g z) :: st)) : V p l e R s m args below meth c nL X Q h nx cells slots pc L (iV z :: .ref a :: st) :=
  v_iald F d hp (ai := 0) (by decide) ha hN h0 h1 (by show iV (g (z.toNat : Int)) = _; rw [Int.toNat_of_nonneg h0]) k
theorem v_iap (F : am_Fx p s m args meth c y cc nL ret et X) {N a : Nat} {g : Int → Int} {z w : Int} (d : decode cc pc = .ok (.iastore, 1)) (hp : pc + 1 = pc') (ha : h a = some (am_ia N g)) (hN : N < 2147483648) (h0 : 0 ≤ z) (h1 : z < N) (k : V p l e R s m args below meth c nL X Q (am_up h a (am_ia N (upI g z w))) nx cells slots pc' L st) : V p l e R s m args below meth c nL X Q h nx cells slots pc L (iV w :: iV z :: .ref a :: st) :=
  v_iast F d hp (ai := 0) (by decide) ha hN h0 h1 (by rw [am_upi h0]; exact k)
theorem v_lag (F : am_Fx p s m args meth c y cc nL ret et X) {N a : Nat} {g : Int → Int} {z : Int} (d : decode cc pc = .ok (.laload, 1)) (hp : pc + 1 = pc') (ha : h a = some (am_la N g)) (hN : N < 2147483648) (h0 : 0 ≤ z) (h1 : z < N) (k : V p l e R s m args below meth c nL X Q h nx cells slots pc' L (lV (g z) :: st)) : V p l e R s m args below meth c nL X Q h nx cells slots pc L (iV z :: .ref a :: st) :=
  v_lald F d hp (ai := 1) (by decide) ha hN h0 h1 (by show lV (g (z.toNat : Int)) = _; rw [Int.toNat_of_nonneg h0]) k
theorem v_lap (F : am_Fx p s m args meth c y cc nL ret et X) {N a : Nat} {g : Int → Int} {z w : Int} (d : decode cc pc = .ok (.lastore, 1)) (hp : pc + 1 = pc') (ha : h a = some (am_la N g)) (hN : N < 2147483648) (h0 : 0 ≤ z) (h1 : z < N) (k : V p l e R s m args below meth c nL X Q (am_up h a (am_la N (upI g z w))) nx cells slots pc' L st) : V p l e R s m args below meth c nL X Q h nx cells slots pc L (lV w :: iV z :: .ref a :: st) :=
  v_last F d hp (ai := 1) (by decide) ha hN h0 h1 (by rw [am_upl h0]; exact k)
theorem v_zag (F : am_Fx p s m args meth c y cc nL ret et X) {N a : Nat} {g : Int → Int} {z : Int} (d : decode cc pc = .ok (.baload, 1)) (hp : pc + 1 = pc') (ha : h a = some (am_za N g)) (hN : N < 2147483648) (h0 : 0 ≤ z) (h1 : z < N) (k : V p l e R s m args below meth c nL X Q h nx cells slots pc' L (iV (g z) :: st)) : V p l e R s m args below meth c nL X Q h nx cells slots pc L (iV z :: .ref a :: st) := by
  subst hp
  intro H locs ls hR hL hl
  obtain ⟨f1, f2, f3, f4, hts, hK0, f7, f8, f9, f10⟩ := F
  have hK := hK0.1
  obtain ⟨i9, hi9⟩ := List.getElem?_of_mem (List.mem_map.mpr ⟨(4, .boolean), by decide, rfl⟩ : (X.2.1 4, FieldType.boolean) ∈ am_ty.map (fun q => (X.2.1 q.1, q.2)))
  obtain ⟨x1, x2⟩ := am_ix h0 h1 hN
  exact W.zald f1 f2 (am_arr hR ha).2 ((hK.2 i9 _ hi9).1 N _) (fun q => by cases q) (by rw [arrV_size]; exact x2) (by rw [x1, arrV_read _ _ (by omega), Int.toNat_of_nonneg h0]) rfl rfl d (k H locs ls hR hL hl)
theorem v_zap (F : am_Fx p s m args meth c y cc nL ret et X) {N a : Nat} {g : Int → Int} {z w : Int} (d : decode cc pc = .ok (.bastore, 1)) (hp : pc + 1 = pc') (ha : h a = some (am_za N g)) (hN : N < 2147483648) (h0 : 0 ≤ z) (h1 : z < N) (hw : w = 0 ∨ w = 1) (k : V p l e R s m args below meth c nL X Q (am_up h a (am_za N (upI g z w))) nx cells slots pc' L st) : V p l e R s m args below meth c nL X Q h nx cells slots pc L (iV w :: iV z :: .ref a :: st) := by
  subst hp
  intro H locs ls hR hL hl
  obtain ⟨f1, f2, f3, f4, hts, hK0, f7, f8, f9, f10⟩ := F
  have hK := hK0.1
  obtain ⟨i9, hi9⟩ := List.getElem?_of_mem (List.mem_map.mpr ⟨(4, .boolean), by decide, rfl⟩ : (X.2.1 4, FieldType.boolean) ∈ am_ty.map (fun q => (X.2.1 q.1, q.2)))
  obtain ⟨x1, x2⟩ := am_ix h0 h1 hN
  obtain ⟨hge, hat⟩ := am_arr hR ha
  refine W.zast f1 f2 hat ((hK.2 i9 _ hi9).1 N _) (fun q => by cases q) (by rw [arrV_size]; exact x2) rfl rfl d fun H1 e1 e2 e3 => ?_
  refine k H1 _ ls (am_R_put hR ha e2 e3 ?_) (am_locs hL hge) hl
  have en : narrow .boolean (iV w) = iV w := by rcases hw with rfl | rfl <;> rfl
  rw [x1] at e1
  first | rw [en, arrV_store, am_upi h0] at e1 | rw [arrV_store, am_upi h0] at e1
  exact e1
theorem v_lc_eq (F : am_Fx p s m args meth c y cc nL ret et X) {a b off : Int} {tgt : Nat} (d : decode cc pc = .ok (.lcmp, 1)) (d2 : decode cc (pc + 1) = .ok (.ifCond .eq off, 3)) (ht : ((pc + 1 : Nat) : Int) + off = (tgt : Int)) (hp : pc + 1 + 3 = pc') (ra : -9223372036854775808 ≤ a ∧ a < 9223372036854775808) (rb : -9223372036854775808 ≤ b ∧ b < 9223372036854775808) (kt : a = b → V p l e R s m args below meth c nL X Q h nx cells slots tgt L st) (kf : ¬ (a = b) → V p l e R s m args below meth c nL X Q h nx cells slots pc' L st) : V p l e R s m args below meth c nL X Q h nx cells slots pc L (lV b :: lV a :: st) := by
  refine v_lcmp F d rfl ra rb ?_
  refine v_if_eq F d2 ht hp ?_ (fun q => kt ?_) (fun q => kf ?_)
  · by_cases h1 : b < a
    · simp only [if_pos h1]; omega
    · by_cases h2 : a = b
      · simp only [if_neg h1, if_pos h2]; omega
      · simp only [if_neg h1, if_neg h2]; omega
  · by_cases h1 : b < a
    · simp only [if_pos h1] at q; omega
    · by_cases h2 : a = b
      · simp only [if_neg h1, if_pos h2] at q; first | omega | exact absurd trivial q
      · simp only [if_neg h1, if_neg h2] at q; omega
  · by_cases h1 : b < a
    · simp only [if_pos h1] at q; omega
    · by_cases h2 : a = b
      · simp only [if_neg h1, if_pos h2] at q; first | omega | exact absurd trivial q
      · simp only [if_neg h1, if_neg h2] at q; omega
theorem v_lc_ne (F : am_Fx p s m args meth c y cc nL ret et X) {a b off : Int} {tgt : Nat} (d : decode cc pc = .ok (.lcmp, 1)) (d2 : decode cc (pc + 1) = .ok (.ifCond .ne off, 3)) (ht : ((pc + 1 : Nat) : Int) + off = (tgt : Int)) (hp : pc + 1 + 3 = pc') (ra : -9223372036854775808 ≤ a ∧ a < 9223372036854775808) (rb : -9223372036854775808 ≤ b ∧ b < 9223372036854775808) (kt : ¬ a = b → V p l e R s m args below meth c nL X Q h nx cells slots tgt L st) (kf : a = b → V p l e R s m args below meth c nL X Q h nx cells slots pc' L st) : V p l e R s m args below meth c nL X Q h nx cells slots pc L (lV b :: lV a :: st) := by
  refine v_lcmp F d rfl ra rb ?_
  refine v_if_ne F d2 ht hp ?_ (fun q => kt ?_) (fun q => kf ?_)
  · by_cases h1 : b < a
    · simp only [if_pos h1]; omega
    · by_cases h2 : a = b
      · simp only [if_neg h1, if_pos h2]; omega
      · simp only [if_neg h1, if_neg h2]; omega
  · by_cases h1 : b < a
    · simp only [if_pos h1] at q; omega
    · by_cases h2 : a = b
      · simp only [if_neg h1, if_pos h2] at q; first | omega | exact absurd trivial q
      · simp only [if_neg h1, if_neg h2] at q; omega
  · by_cases h1 : b < a
    · simp only [if_pos h1] at q; omega
    · by_cases h2 : a = b
      · simp only [if_neg h1, if_pos h2] at q; first | omega | exact absurd trivial q
      · simp only [if_neg h1, if_neg h2] at q; omega
theorem v_lc_lt (F : am_Fx p s m args meth c y cc nL ret et X) {a b off : Int} {tgt : Nat} (d : decode cc pc = .ok (.lcmp, 1)) (d2 : decode cc (pc + 1) = .ok (.ifCond .lt off, 3)) (ht : ((pc + 1 : Nat) : Int) + off = (tgt : Int)) (hp : pc + 1 + 3 = pc') (ra : -9223372036854775808 ≤ a ∧ a < 9223372036854775808) (rb : -9223372036854775808 ≤ b ∧ b < 9223372036854775808) (kt : a < b → V p l e R s m args below meth c nL X Q h nx cells slots tgt L st) (kf : ¬ (a < b) → V p l e R s m args below meth c nL X Q h nx cells slots pc' L st) : V p l e R s m args below meth c nL X Q h nx cells slots pc L (lV b :: lV a :: st) := by
  refine v_lcmp F d rfl ra rb ?_
  refine v_if_lt F d2 ht hp ?_ (fun q => kt ?_) (fun q => kf ?_)
  · by_cases h1 : b < a
    · simp only [if_pos h1]; omega
    · by_cases h2 : a = b
      · simp only [if_neg h1, if_pos h2]; omega
      · simp only [if_neg h1, if_neg h2]; omega
  · by_cases h1 : b < a
    · simp only [if_pos h1] at q; omega
    · by_cases h2 : a = b
      · simp only [if_neg h1, if_pos h2] at q; first | omega | exact absurd trivial q
      · simp only [if_neg h1, if_neg h2] at q; omega
  · by_cases h1 : b < a
    · simp only [if_pos h1] at q; omega
    · by_cases h2 : a = b
      · simp only [if_neg h1, if_pos h2] at q; first | omega | exact absurd trivial q
      · simp only [if_neg h1, if_neg h2] at q; omega
theorem v_lc_ge (F : am_Fx p s m args meth c y cc nL ret et X) {a b off : Int} {tgt : Nat} (d : decode cc pc = .ok (.lcmp, 1)) (d2 : decode cc (pc + 1) = .ok (.ifCond .ge off, 3)) (ht : ((pc + 1 : Nat) : Int) + off = (tgt : Int)) (hp : pc + 1 + 3 = pc') (ra : -9223372036854775808 ≤ a ∧ a < 9223372036854775808) (rb : -9223372036854775808 ≤ b ∧ b < 9223372036854775808) (kt : b ≤ a → V p l e R s m args below meth c nL X Q h nx cells slots tgt L st) (kf : ¬ (b ≤ a) → V p l e R s m args below meth c nL X Q h nx cells slots pc' L st) : V p l e R s m args below meth c nL X Q h nx cells slots pc L (lV b :: lV a :: st) := by
  refine v_lcmp F d rfl ra rb ?_
  refine v_if_ge F d2 ht hp ?_ (fun q => kt ?_) (fun q => kf ?_)
  · by_cases h1 : b < a
    · simp only [if_pos h1]; omega
    · by_cases h2 : a = b
      · simp only [if_neg h1, if_pos h2]; omega
      · simp only [if_neg h1, if_neg h2]; omega
  · by_cases h1 : b < a
    · simp only [if_pos h1] at q; omega
    · by_cases h2 : a = b
      · simp only [if_neg h1, if_pos h2] at q; first | omega | exact absurd trivial q
      · simp only [if_neg h1, if_neg h2] at q; omega
  · by_cases h1 : b < a
    · simp only [if_pos h1] at q; omega
    · by_cases h2 : a = b
      · simp only [if_neg h1, if_pos h2] at q; first | omega | exact absurd trivial q
      · simp only [if_neg h1, if_neg h2] at q; omega
theorem v_lc_gt (F : am_Fx p s m args meth c y cc nL ret et X) {a b off : Int} {tgt : Nat} (d : decode cc pc = .ok (.lcmp, 1)) (d2 : decode cc (pc + 1) = .ok (.ifCond .gt off, 3)) (ht : ((pc + 1 : Nat) : Int) + off = (tgt : Int)) (hp : pc + 1 + 3 = pc') (ra : -9223372036854775808 ≤ a ∧ a < 9223372036854775808) (rb : -9223372036854775808 ≤ b ∧ b < 9223372036854775808) (kt : b < a → V p l e R s m args below meth c nL X Q h nx cells slots tgt L st) (kf : ¬ (b < a) → V p l e R s m args below meth c nL X Q h nx cells slots pc' L st) : V p l e R s m args below meth c nL X Q h nx cells slots pc L (lV b :: lV a :: st) := by
  refine v_lcmp F d rfl ra rb ?_
  refine v_if_gt F d2 ht hp ?_ (fun q => kt ?_) (fun q => kf ?_)
  · by_cases h1 : b < a
    · simp only [if_pos h1]; omega
    · by_cases h2 : a = b
      · simp only [if_neg h1, if_pos h2]; omega
      · simp only [if_neg h1, if_neg h2]; omega
  · by_cases h1 : b < a
    · simp only [if_pos h1] at q; omega
    · by_cases h2 : a = b
      · simp only [if_neg h1, if_pos h2] at q; first | omega | exact absurd trivial q
      · simp only [if_neg h1, if_neg h2] at q; omega
  · by_cases h1 : b < a
    · simp only [if_pos h1] at q; omega
    · by_cases h2 : a = b
      · simp only [if_neg h1, if_pos h2] at q; first | omega | exact absurd trivial q
      · simp only [if_neg h1, if_neg h2] at q; omega
theorem v_lc_le (F : am_Fx p s m args meth c y cc nL ret et X) {a b off : Int} {tgt : Nat} (d : decode cc pc = .ok (.lcmp, 1)) (d2 : decode cc (pc + 1) = .ok (.ifCond .le off, 3)) (ht : ((pc + 1 : Nat) : Int) + off = (tgt : Int)) (hp : pc + 1 + 3 = pc') (ra : -9223372036854775808 ≤ a ∧ a < 9223372036854775808) (rb : -9223372036854775808 ≤ b ∧ b < 9223372036854775808) (kt : a ≤ b → V p l e R s m args below meth c nL X Q h nx cells slots tgt L st) (kf : ¬ (a ≤ b) → V p l e R s m args below meth c nL X Q h nx cells slots pc' L st) : V p l e R s m args below meth c nL X Q h nx cells slots pc L (lV b :: lV a :: st) := by
  refine v_lcmp F d rfl ra rb ?_
  refine v_if_le F d2 ht hp ?_ (fun q => kt ?_) (fun q => kf ?_)
  · by_cases h1 : b < a
    · simp only [if_pos h1]; omega
    · by_cases h2 : a = b
      · simp only [if_neg h1, if_pos h2]; omega
      · simp only [if_neg h1, if_neg h2]; omega
  · by_cases h1 : b < a
    · simp only [if_pos h1] at q; omega
    · by_cases h2 : a = b
      · simp only [if_neg h1, if_pos h2] at q; first | omega | exact absurd trivial q
      · simp only [if_neg h1, if_neg h2] at q; omega
  · by_cases h1 : b < a
    · simp only [if_pos h1] at q; omega
    · by_cases h2 : a = b
      · simp only [if_neg h1, if_pos h2] at q; first | omega | exact absurd trivial q
      · simp only [if_neg h1, if_neg h2] at q; omega
theorem v_lc_ne0 (F : am_Fx p s m args meth c y cc nL ret et X) {a off : Int} {tgt : Nat} (d : decode cc pc = .ok (.lcmp, 1)) (d2 : decode cc (pc + 1) = .ok (.ifCond .eq off, 3)) (ht : ((pc + 1 : Nat) : Int) + off = (tgt : Int)) (k : V p l e R s m args below meth c nL X Q h nx cells slots tgt L st) : V p l e R s m args below meth c nL X Q h nx cells slots pc L (lV a :: lV a :: st) := by
  intro H locs ls hR hL hl
  refine W.lcmp F.1 F.2.1 d ?_
  have e1 : lg_cmp (Int64.ofInt a) (Int64.ofInt a) = 0 := (lg_cmp_eq _ _).mpr rfl
  rw [e1]
  exact lv_if_eq F.1 F.2.1 d2 ht (fun _ => k H locs ls hR hL hl) (fun q => absurd rfl q)
theorem v_callSP (F : am_Fx p s m args meth c y cc nL ret et X) {st0 : List Value} {r : Value} (d : decode cc pc = .ok (.invokestatic index, 3)) (hp : pc + 3 = pc') (hcal : am_cal y' bytes maxL ret' av.length) (hlink : Cond.methodLink y.cls index y' ∈ lw_tbl) (hstat : Cond.static y' ∈ lw_tbl) (hC : CnP l X y' rm av h nx r) (hst : st0 = av.reverse ++ st) (hfit : am_fit R rm maxL cells slots) (hw : (st.map fun v => v.category).sum ≤ 8) (h1 : rm.cells = 0) (h2 : rm.slots = 0) (k : V p l e R s m args below meth c nL X Q h nx cells slots pc' L (r :: st)) : V p l e R s m args below meth c nL X Q h nx cells slots pc L st0 :=
  v_callS F d hp hcal hlink hstat hC hst hfit hw (fun _ _ _ q => by cases q.1) (fun v h' nx' q => by
    obtain ⟨q1, rfl, rfl⟩ := q
    cases q1
    rw [h1, h2]
    exact k)
theorem v_callSNP (F : am_Fx p s m args meth c y cc nL ret et X) {st0 : List Value} {r : Value} {host : String} (d : decode cc pc = .ok (.invokestatic index, 3)) (hp : pc + 3 = pc') (hcal : am_cal y' bytes maxL ret' av.length) (hlink : Cond.methodLinkNest y.cls index y' host ∈ lw_tbl) (hstat : Cond.static y' ∈ lw_tbl) (hC : CnP l X y' rm av h nx r) (hst : st0 = av.reverse ++ st) (hfit : am_fit R rm maxL cells slots) (hw : (st.map fun v => v.category).sum ≤ 8) (h1 : rm.cells = 0) (h2 : rm.slots = 0) (k : V p l e R s m args below meth c nL X Q h nx cells slots pc' L (r :: st)) : V p l e R s m args below meth c nL X Q h nx cells slots pc L st0 :=
  v_callSN F d hp hcal hlink hstat hC hst hfit hw (fun _ _ _ q => by cases q.1) (fun v h' nx' q => by
    obtain ⟨q1, rfl, rfl⟩ := q
    cases q1
    rw [h1, h2]
    exact k)
theorem v_callVP (F : am_Fx p s m args meth c y cc nL ret et X) {st0 : List Value} {r : Value} {b ci : Nat} {fs : List Value} {C : String} {T9 : u_T} {N : Nat} (d : decode cc pc = .ok (.invokevirtual index, 3)) (hp : pc + 3 = pc') (hcal : am_cal y' bytes maxL ret' av.length) (hlink : Cond.methodLink y.cls index y' ∈ lw_tbl) (hinst : Cond.instanceMethod y' ∈ lw_tbl) (hsel : Cond.selects C y' y' ∈ lw_tbl) (hc : am_cl[ci]? = some (C, T9, N)) (hb : h b = some (.inr (ci, fs))) (hC : CnP l X y' rm (.ref b :: av) h nx r) (hst : st0 = av.reverse ++ .ref b :: st) (hfit : am_fit R rm maxL cells slots) (hw : (st.map fun v => v.category).sum ≤ 8) (h1 : rm.cells = 0) (h2 : rm.slots = 0) (k : V p l e R s m args below meth c nL X Q h nx cells slots pc' L (r :: st)) : V p l e R s m args below meth c nL X Q h nx cells slots pc L st0 :=
  v_callV F d hp hcal hlink hinst hsel hc hb hC hst hfit hw (fun _ _ _ q => by cases q.1) (fun v h' nx' q => by
    obtain ⟨q1, rfl, rfl⟩ := q
    cases q1
    rw [h1, h2]
    exact k)
theorem v_ldc (F : am_Fx p s m args meth c y cc nL ret et X) {z : Int} {w : Int32} (d : decode cc pc = .ok (.ldc index, 2)) (hp : pc + 2 = pc') (hk : Cond.constant y.cls index w ∈ lw_tbl) (hw : w = Int32.ofInt z) (k : V p l e R s m args below meth c nL X Q h nx cells slots pc' L (iV z :: st)) : V p l e R s m args below meth c nL X Q h nx cells slots pc L st := by
  subst hp hw
  intro H locs ls hR hL hl
  exact lv_ldc F.1 F.2.1 F.2.2.2.1 (F.2.2.2.2.1 _ (am_in hk rfl)) d (k H locs ls hR hL hl)
theorem v_ldc2 (F : am_Fx p s m args meth c y cc nL ret et X) {z : Int} {w : Int64} (d : decode cc pc = .ok (.ldc2_w index, 3)) (hp : pc + 3 = pc') (hk : Cond.constantLong y.cls index w ∈ lw_tbl) (hw : w = Int64.ofInt z) (k : V p l e R s m args below meth c nL X Q h nx cells slots pc' L (lV z :: st)) : V p l e R s m args below meth c nL X Q h nx cells slots pc L st := by
  subst hp hw
  intro H locs ls hR hL hl
  exact lv_ldc2 F.1 F.2.1 F.2.2.2.1 (F.2.2.2.2.1 _ (am_in hk rfl)) d (k H locs ls hR hL hl)
/-- another name for a number on top -/
theorem v_topi {a b : Int} (hab : a = b) (k : V p l e R s m args below meth c nL X Q h nx cells slots pc L (iV b :: st)) : V p l e R s m args below meth c nL X Q h nx cells slots pc L (iV a :: st) := by rw [hab]; exact k
theorem v_topl {a b : Int} (hab : a = b) (k : V p l e R s m args below meth c nL X Q h nx cells slots pc L (lV b :: st)) : V p l e R s m args below meth c nL X Q h nx cells slots pc L (lV a :: st) := by rw [hab]; exact k
end AMA
end
section
/-! the reference's cells as a picture of a state (written by wip/whole/mkmodel.py): field k of BillSharesModel is M k; a number stands at M k 0 -/
abbrev MS : Type := Nat → Int → Int
def upM (M : MS) (k : Nat) (i v : Int) : MS := fun a => if a = k then upI (M k) i v else M a
theorem upM_s {M : MS} {k : Nat} {i v : Int} : upM M k i v k = upI (M k) i v := if_pos rfl
theorem upM_n {M : MS} {k a : Nat} {i v : Int} (h : a ≠ k) : upM M k i v a = M a := if_neg h
theorem upM_ss {M : MS} {k : Nat} {i v : Int} : upM M k i v k i = v := by rw [upM_s, upI_s]
theorem upM_sn {M : MS} {k : Nat} {i j v : Int} (h : j ≠ i) : upM M k i v k j = M k j := by rw [upM_s, upI_n h]
def md_fs (y : Nat) (M : MS) : List Value := [iV (M 0 0), iV (M 1 0), .ref (y + 1), .ref (y + 2), .ref (y + 3), .ref (y + 4), .ref (y + 5), iV (M 7 0), .ref (y + 6), .ref (y + 7), .ref (y + 8), .ref (y + 9), .ref (y + 10), .ref (y + 11), .ref (y + 12), .ref (y + 13), .ref (y + 14), .ref (y + 15), .ref (y + 16), .ref (y + 17), .ref (y + 18), .ref (y + 19), .ref (y + 20), .ref (y + 21), .ref (y + 22), .ref (y + 23), .ref (y + 24), .ref (y + 25)]
def md_cell (M : MS) (k : Nat) : am_E := match k with
  | 2 => am_ia 20 (M 2)
  | 3 => am_ia 20 (M 3)
  | 4 => am_ia 20 (M 4)
  | 5 => am_ia 240 (M 5)
  | 6 => am_la 200 (M 6)
  | 8 => am_ia 60 (M 8)
  | 9 => am_ia 60 (M 9)
  | 10 => am_ia 60 (M 10)
  | 11 => am_ia 60 (M 11)
  | 12 => am_ia 60 (M 12)
  | 13 => am_ia 60 (M 13)
  | 14 => am_ia 2400 (M 14)
  | 15 => am_ia 2400 (M 15)
  | 16 => am_ia 2400 (M 16)
  | 17 => am_za 2400 (M 17)
  | 18 => am_ia 40 (M 18)
  | 19 => am_ia 4 (M 19)
  | 20 => am_ia 10 (M 20)
  | 21 => am_ia 10 (M 21)
  | 22 => am_ia 10 (M 22)
  | 23 => am_la 800 (M 23)
  | 24 => am_la 800 (M 24)
  | 25 => am_la 200 (M 25)
  | 26 => am_la 20 (M 26)
  | 27 => am_la 20 (M 27)
  | _ => am_ia 0 (M k)
def md_off (k : Nat) : Nat := if k < 7 then k - 1 else k - 2
theorem md_cell_c {M M' : MS} {k : Nat} (h : M k = M' k) : md_cell M k = md_cell M' k := by
  unfold md_cell
  split <;> rw [h]
/-- the reference at y is in the state M -/
def RepM (y : Nat) (M : MS) (h : am_H) : Prop := h y = some (.inr (4, md_fs y M)) ∧ ∀ k, 2 ≤ k → k < 28 → k ≠ 7 → h (y + md_off k) = some (md_cell M k)
/-- nothing but the reference's own cells has changed -/
def MF (y : Nat) (h h' : am_H) : Prop := ∀ a : Nat, (a < y ∨ y + 26 ≤ a) → h' a = h a
theorem MF.rf {y : Nat} {h : am_H} : MF y h h := fun _ _ => rfl
theorem MF.tr {y : Nat} {h h1 h2 : am_H} (a : MF y h h1) (b : MF y h1 h2) : MF y h h2 := fun q hq => (b q hq).trans (a q hq)
theorem RepM.sub {y : Nat} {M : MS} {h h' : am_H} (hM : RepM y M h) (hs : ∀ a : Nat, y ≤ a → a < y + 26 → h' a = h a) : RepM y M h' := by
  refine ⟨by rw [hs y (by omega) (by omega)]; exact hM.1, fun k h1 h2 h3 => ?_⟩
  rw [hs (y + md_off k) (by omega) (by unfold md_off; split <;> omega)]
  exact hM.2 k h1 h2 h3
theorem md_put {y : Nat} {M : MS} {h : am_H} {k : Nat} {i v : Int} {e : am_E} (hM : RepM y M h) (h1 : 2 ≤ k) (h2 : k < 28) (h3 : k ≠ 7) (he : e = md_cell (upM M k i v) k) : RepM y (upM M k i v) (am_up h (y + md_off k) e) ∧ MF y h (am_up h (y + md_off k) e) := by
  have ho : 1 ≤ md_off k ∧ md_off k < 26 := by unfold md_off; split <;> omega
  refine ⟨⟨?_, fun j j1 j2 j3 => ?_⟩, fun a ha => am_up_n (by omega)⟩
  · rw [am_up_n (by omega), hM.1]
    have e0 : upM M k i v 0 = M 0 := upM_n (by omega)
    have e1 : upM M k i v 1 = M 1 := upM_n (by omega)
    have e7 : upM M k i v 7 = M 7 := upM_n (fun q => h3 q.symm)
    unfold md_fs
    rw [e0, e1, e7]
  · by_cases hj : j = k
    · subst hj
      rw [am_up_s, he]
    · have hne : md_off j ≠ md_off k := by unfold md_off; split <;> split <;> omega
      rw [am_up_n (by omega), hM.2 j j1 j2 j3, md_cell_c (upM_n hj).symm]
theorem rm_2 {y : Nat} {M : MS} {h : am_H} (hM : RepM y M h) : h (y + 1) = some (am_ia 20 (M 2)) := hM.2 2 (by decide) (by decide) (by decide)
theorem rm_3 {y : Nat} {M : MS} {h : am_H} (hM : RepM y M h) : h (y + 2) = some (am_ia 20 (M 3)) := hM.2 3 (by decide) (by decide) (by decide)
theorem rm_4 {y : Nat} {M : MS} {h : am_H} (hM : RepM y M h) : h (y + 3) = some (am_ia 20 (M 4)) := hM.2 4 (by decide) (by decide) (by decide)
theorem rm_5 {y : Nat} {M : MS} {h : am_H} (hM : RepM y M h) : h (y + 4) = some (am_ia 240 (M 5)) := hM.2 5 (by decide) (by decide) (by decide)
theorem rm_6 {y : Nat} {M : MS} {h : am_H} (hM : RepM y M h) : h (y + 5) = some (am_la 200 (M 6)) := hM.2 6 (by decide) (by decide) (by decide)
theorem rm_8 {y : Nat} {M : MS} {h : am_H} (hM : RepM y M h) : h (y + 6) = some (am_ia 60 (M 8)) := hM.2 8 (by decide) (by decide) (by decide)
theorem rm_9 {y : Nat} {M : MS} {h : am_H} (hM : RepM y M h) : h (y + 7) = some (am_ia 60 (M 9)) := hM.2 9 (by decide) (by decide) (by decide)
theorem rm_10 {y : Nat} {M : MS} {h : am_H} (hM : RepM y M h) : h (y + 8) = some (am_ia 60 (M 10)) := hM.2 10 (by decide) (by decide) (by decide)
theorem rm_11 {y : Nat} {M : MS} {h : am_H} (hM : RepM y M h) : h (y + 9) = some (am_ia 60 (M 11)) := hM.2 11 (by decide) (by decide) (by decide)
theorem rm_12 {y : Nat} {M : MS} {h : am_H} (hM : RepM y M h) : h (y + 10) = some (am_ia 60 (M 12)) := hM.2 12 (by decide) (by decide) (by decide)
theorem rm_13 {y : Nat} {M : MS} {h : am_H} (hM : RepM y M h) : h (y + 11) = some (am_ia 60 (M 13)) := hM.2 13 (by decide) (by decide) (by decide)
theorem rm_14 {y : Nat} {M : MS} {h : am_H} (hM : RepM y M h) : h (y + 12) = some (am_ia 2400 (M 14)) := hM.2 14 (by decide) (by decide) (by decide)
theorem rm_15 {y : Nat} {M : MS} {h : am_H} (hM : RepM y M h) : h (y + 13) = some (am_ia 2400 (M 15)) := hM.2 15 (by decide) (by decide) (by decide)
theorem rm_16 {y : Nat} {M : MS} {h : am_H} (hM : RepM y M h) : h (y + 14) = some (am_ia 2400 (M 16)) := hM.2 16 (by decide) (by decide) (by decide)
theorem rm_17 {y : Nat} {M : MS} {h : am_H} (hM : RepM y M h) : h (y + 15) = some (am_za 2400 (M 17)) := hM.2 17 (by decide) (by decide) (by decide)
theorem rm_18 {y : Nat} {M : MS} {h : am_H} (hM : RepM y M h) : h (y + 16) = some (am_ia 40 (M 18)) := hM.2 18 (by decide) (by decide) (by decide)
theorem rm_19 {y : Nat} {M : MS} {h : am_H} (hM : RepM y M h) : h (y + 17) = some (am_ia 4 (M 19)) := hM.2 19 (by decide) (by decide) (by decide)
theorem rm_20 {y : Nat} {M : MS} {h : am_H} (hM : RepM y M h) : h (y + 18) = some (am_ia 10 (M 20)) := hM.2 20 (by decide) (by decide) (by decide)
theorem rm_21 {y : Nat} {M : MS} {h : am_H} (hM : RepM y M h) : h (y + 19) = some (am_ia 10 (M 21)) := hM.2 21 (by decide) (by decide) (by decide)
theorem rm_22 {y : Nat} {M : MS} {h : am_H} (hM : RepM y M h) : h (y + 20) = some (am_ia 10 (M 22)) := hM.2 22 (by decide) (by decide) (by decide)
theorem rm_23 {y : Nat} {M : MS} {h : am_H} (hM : RepM y M h) : h (y + 21) = some (am_la 800 (M 23)) := hM.2 23 (by decide) (by decide) (by decide)
theorem rm_24 {y : Nat} {M : MS} {h : am_H} (hM : RepM y M h) : h (y + 22) = some (am_la 800 (M 24)) := hM.2 24 (by decide) (by decide) (by decide)
theorem rm_25 {y : Nat} {M : MS} {h : am_H} (hM : RepM y M h) : h (y + 23) = some (am_la 200 (M 25)) := hM.2 25 (by decide) (by decide) (by decide)
theorem rm_26 {y : Nat} {M : MS} {h : am_H} (hM : RepM y M h) : h (y + 24) = some (am_la 20 (M 26)) := hM.2 26 (by decide) (by decide) (by decide)
theorem rm_27 {y : Nat} {M : MS} {h : am_H} (hM : RepM y M h) : h (y + 25) = some (am_la 20 (M 27)) := hM.2 27 (by decide) (by decide) (by decide)
theorem md_set {y : Nat} {M : MS} {h : am_H} {k : Nat} {v : Int} {e : am_E} (hM : RepM y M h) (hk : k = 0 ∨ k = 1 ∨ k = 7) (he : e = .inr (4, md_fs y (upM M k 0 v))) : RepM y (upM M k 0 v) (am_up h y e) ∧ MF y h (am_up h y e) := by
  refine ⟨⟨by rw [am_up_s, he], fun j j1 j2 j3 => ?_⟩, fun a ha => am_up_n (by omega)⟩
  have ho : 1 ≤ md_off j := by unfold md_off; split <;> omega
  rw [am_up_n (by omega), hM.2 j j1 j2 j3, md_cell_c (M' := upM M k 0 v) (upM_n (by omega)).symm]
section MST
variable {p : Program} {l : Launch} {e : Env} {R : Room} {s : State} {m : MethodId} {args : Array Value} {below : List Frame} {meth : Method} {c : Code} {nL : Nat} {X : am_X} {Q : State → Prop}
variable {cc : ByteArray} {y0 : MethodName} {ret : Option FieldType} {et : List (Nat × Nat × Nat × Nat)} {h : am_H} {nx cells slots pc pc' : Nat} {L : List (Option Value)} {st : List Value} {y : Nat} {M : MS}
theorem mg_2 (F : am_Fx p s m args meth c y0 cc nL ret et X) (hM : RepM y M h) {z : Int} (d : decode cc pc = .ok (.iaload, 1)) (hp : pc + 1 = pc') (h0 : 0 ≤ z) (h1 : z < 20) (k : V p l e R s m args below meth c nL X Q h nx cells slots pc' L (iV (M 2 z) :: st)) : V p l e R s m args below meth c nL X Q h nx cells slots pc L (iV z :: .ref (y + 1) :: st) := v_iag F d hp (rm_2 hM) (by decide) h0 h1 k
theorem mp_2 (F : am_Fx p s m args meth c y0 cc nL ret et X) (hM : RepM y M h) {z w : Int} (d : decode cc pc = .ok (.iastore, 1)) (hp : pc + 1 = pc') (h0 : 0 ≤ z) (h1 : z < 20) (k : ∀ h' : am_H, RepM y (upM M 2 z w) h' → MF y h h' → V p l e R s m args below meth c nL X Q h' nx cells slots pc' L (st)) : V p l e R s m args below meth c nL X Q h nx cells slots pc L (iV w :: iV z :: .ref (y + 1) :: st) := by
  obtain ⟨a1, a2⟩ := md_put (k := 2) (i := z) (v := w) (e := am_ia 20 (upI (M 2) z w)) hM (by decide) (by decide) (by decide) rfl
  exact v_iap F d hp (rm_2 hM) (by decide) h0 h1 (k _ a1 a2)
theorem mg_3 (F : am_Fx p s m args meth c y0 cc nL ret et X) (hM : RepM y M h) {z : Int} (d : decode cc pc = .ok (.iaload, 1)) (hp : pc + 1 = pc') (h0 : 0 ≤ z) (h1 : z < 20) (k : V p l e R s m args below meth c nL X Q h nx cells slots pc' L (iV (M 3 z) :: st)) : V p l e R s m args below meth c nL X Q h nx cells slots pc L (iV z :: .ref (y + 2) :: st) := v_iag F d hp (rm_3 hM) (by decide) h0 h1 k
theorem mp_3 (F : am_Fx p s m args meth c y0 cc nL ret et X) (hM : RepM y M h) {z w : Int} (d : decode cc pc = .ok (.iastore, 1)) (hp : pc + 1 = pc') (h0 : 0 ≤ z) (h1 : z < 20) (k : ∀ h' : am_H, RepM y (upM M 3 z w) h' → MF y h h' → V p l e R s m args below meth c nL X Q h' nx cells slots pc' L (st)) : V p l e R s m args below meth c nL X Q h nx cells slots pc L (iV w :: iV z :: .ref (y + 2) :: st) := by
  obtain ⟨a1, a2⟩ := md_put (k := 3) (i := z) (v := w) (e := am_ia 20 (upI (M 3) z w)) hM (by decide) (by decide) (by decide) rfl
  exact v_iap F d hp (rm_3 hM) (by decide) h0 h1 (k _ a1 a2)
theorem mg_4 (F : am_Fx p s m args meth c y0 cc nL ret et X) (hM : RepM y M h) {z : Int} (d : decode cc pc = .ok (.iaload, 1)) (hp : pc + 1 = pc') (h0 : 0 ≤ z) (h1 : z < 20) (k : V p l e R s m args below meth c nL X Q h nx cells slots pc' L (iV (M 4 z) :: st)) : V p l e R s m args below meth c nL X Q h nx cells slots pc L (iV z :: .ref (y + 3) :: st) := v_iag F d hp (rm_4 hM) (by decide) h0 h1 k
theorem mp_4 (F : am_Fx p s m args meth c y0 cc nL ret et X) (hM : RepM y M h) {z w : Int} (d : decode cc pc = .ok (.iastore, 1)) (hp : pc + 1 = pc') (h0 : 0 ≤ z) (h1 : z < 20) (k : ∀ h' : am_H, RepM y (upM M 4 z w) h' → MF y h h' → V p l e R s m args below meth c nL X Q h' nx cells slots pc' L (st)) : V p l e R s m args below meth c nL X Q h nx cells slots pc L (iV w :: iV z :: .ref (y + 3) :: st) := by
  obtain ⟨a1, a2⟩ := md_put (k := 4) (i := z) (v := w) (e := am_ia 20 (upI (M 4) z w)) hM (by decide) (by decide) (by decide) rfl
  exact v_iap F d hp (rm_4 hM) (by decide) h0 h1 (k _ a1 a2)
theorem mg_5 (F : am_Fx p s m args meth c y0 cc nL ret et X) (hM : RepM y M h) {z : Int} (d : decode cc pc = .ok (.iaload, 1)) (hp : pc + 1 = pc') (h0 : 0 ≤ z) (h1 : z < 240) (k : V p l e R s m args below meth c nL X Q h nx cells slots pc' L (iV (M 5 z) :: st)) : V p l e R s m args below meth c nL X Q h nx cells slots pc L (iV z :: .ref (y + 4) :: st) := v_iag F d hp (rm_5 hM) (by decide) h0 h1 k
theorem mp_5 (F : am_Fx p s m args meth c y0 cc nL ret et X) (hM : RepM y M h) {z w : Int} (d : decode cc pc = .ok (.iastore, 1)) (hp : pc + 1 = pc') (h0 : 0 ≤ z) (h1 : z < 240) (k : ∀ h' : am_H, RepM y (upM M 5 z w) h' → MF y h h' → V p l e R s m args below meth c nL X Q h' nx cells slots pc' L (st)) : V p l e R s m args below meth c nL X Q h nx cells slots pc L (iV w :: iV z :: .ref (y + 4) :: st) := by
  obtain ⟨a1, a2⟩ := md_put (k := 5) (i := z) (v := w) (e := am_ia 240 (upI (M 5) z w)) hM (by decide) (by decide) (by decide) rfl
  exact v_iap F d hp (rm_5 hM) (by decide) h0 h1 (k _ a1 a2)
theorem mg_6 (F : am_Fx p s m args meth c y0 cc nL ret et X) (hM : RepM y M h) {z : Int} (d : decode cc pc = .ok (.laload, 1)) (hp : pc + 1 = pc') (h0 : 0 ≤ z) (h1 : z < 200) (k : V p l e R s m args below meth c nL X Q h nx cells slots pc' L (lV (M 6 z) :: st)) : V p l e R s m args below meth c nL X Q h nx cells slots pc L (iV z :: .ref (y + 5) :: st) := v_lag F d hp (rm_6 hM) (by decide) h0 h1 k
theorem mp_6 (F : am_Fx p s m args meth c y0 cc nL ret et X) (hM : RepM y M h) {z w : Int} (d : decode cc pc = .ok (.lastore, 1)) (hp : pc + 1 = pc') (h0 : 0 ≤ z) (h1 : z < 200) (k : ∀ h' : am_H, RepM y (upM M 6 z w) h' → MF y h h' → V p l e R s m args below meth c nL X Q h' nx cells slots pc' L (st)) : V p l e R s m args below meth c nL X Q h nx cells slots pc L (lV w :: iV z :: .ref (y + 5) :: st) := by
  obtain ⟨a1, a2⟩ := md_put (k := 6) (i := z) (v := w) (e := am_la 200 (upI (M 6) z w)) hM (by decide) (by decide) (by decide) rfl
  exact v_lap F d hp (rm_6 hM) (by decide) h0 h1 (k _ a1 a2)
theorem mg_8 (F : am_Fx p s m args meth c y0 cc nL ret et X) (hM : RepM y M h) {z : Int} (d : decode cc pc = .ok (.iaload, 1)) (hp : pc + 1 = pc') (h0 : 0 ≤ z) (h1 : z < 60) (k : V p l e R s m args below meth c nL X Q h nx cells slots pc' L (iV (M 8 z) :: st)) : V p l e R s m args below meth c nL X Q h nx cells slots pc L (iV z :: .ref (y + 6) :: st) := v_iag F d hp (rm_8 hM) (by decide) h0 h1 k
theorem mp_8 (F : am_Fx p s m args meth c y0 cc nL ret et X) (hM : RepM y M h) {z w : Int} (d : decode cc pc = .ok (.iastore, 1)) (hp : pc + 1 = pc') (h0 : 0 ≤ z) (h1 : z < 60) (k : ∀ h' : am_H, RepM y (upM M 8 z w) h' → MF y h h' → V p l e R s m args below meth c nL X Q h' nx cells slots pc' L (st)) : V p l e R s m args below meth c nL X Q h nx cells slots pc L (iV w :: iV z :: .ref (y + 6) :: st) := by
  obtain ⟨a1, a2⟩ := md_put (k := 8) (i := z) (v := w) (e := am_ia 60 (upI (M 8) z w)) hM (by decide) (by decide) (by decide) rfl
  exact v_iap F d hp (rm_8 hM) (by decide) h0 h1 (k _ a1 a2)
theorem mg_9 (F : am_Fx p s m args meth c y0 cc nL ret et X) (hM : RepM y M h) {z : Int} (d : decode cc pc = .ok (.iaload, 1)) (hp : pc + 1 = pc') (h0 : 0 ≤ z) (h1 : z < 60) (k : V p l e R s m args below meth c nL X Q h nx cells slots pc' L (iV (M 9 z) :: st)) : V p l e R s m args below meth c nL X Q h nx cells slots pc L (iV z :: .ref (y + 7) :: st) := v_iag F d hp (rm_9 hM) (by decide) h0 h1 k
theorem mp_9 (F : am_Fx p s m args meth c y0 cc nL ret et X) (hM : RepM y M h) {z w : Int} (d : decode cc pc = .ok (.iastore, 1)) (hp : pc + 1 = pc') (h0 : 0 ≤ z) (h1 : z < 60) (k : ∀ h' : am_H, RepM y (upM M 9 z w) h' → MF y h h' → V p l e R s m args below meth c nL X Q h' nx cells slots pc' L (st)) : V p l e R s m args below meth c nL X Q h nx cells slots pc L (iV w :: iV z :: .ref (y + 7) :: st) := by
  obtain ⟨a1, a2⟩ := md_put (k := 9) (i := z) (v := w) (e := am_ia 60 (upI (M 9) z w)) hM (by decide) (by decide) (by decide) rfl
  exact v_iap F d hp (rm_9 hM) (by decide) h0 h1 (k _ a1 a2)
theorem mg_10 (F : am_Fx p s m args meth c y0 cc nL ret et X) (hM : RepM y M h) {z : Int} (d : decode cc pc = .ok (.iaload, 1)) (hp : pc + 1 = pc') (h0 : 0 ≤ z) (h1 : z < 60) (k : V p l e R s m args below meth c nL X Q h nx cells slots pc' L (iV (M 10 z) :: st)) : V p l e R s m args below meth c nL X Q h nx cells slots pc L (iV z :: .ref (y + 8) :: st) := v_iag F d hp (rm_10 hM) (by decide) h0 h1 k
theorem mp_10 (F : am_Fx p s m args meth c y0 cc nL ret et X) (hM : RepM y M h) {z w : Int} (d : decode cc pc = .ok (.iastore, 1)) (hp : pc + 1 = pc') (h0 : 0 ≤ z) (h1 : z < 60) (k : ∀ h' : am_H, RepM y (upM M 10 z w) h' → MF y h h' → V p l e R s m args below meth c nL X Q h' nx cells slots pc' L (st)) : V p l e R s m args below meth c nL X Q h nx cells slots pc L (iV w :: iV z :: .ref (y + 8) :: st) := by
  obtain ⟨a1, a2⟩ := md_put (k := 10) (i := z) (v := w) (e := am_ia 60 (upI (M 10) z w)) hM (by decide) (by decide) (by decide) rfl
  exact v_iap F d hp (rm_10 hM) (by decide) h0 h1 (k _ a1 a2)
theorem mg_11 (F : am_Fx p s m args meth c y0 cc nL ret et X) (hM : RepM y M h) {z : Int} (d : decode cc pc = .ok (.iaload, 1)) (hp : pc + 1 = pc') (h0 : 0 ≤ z) (h1 : z < 60) (k : V p l e R s m args below meth c nL X Q h nx cells slots pc' L (iV (M 11 z) :: st)) : V p l e R s m args below meth c nL X Q h nx cells slots pc L (iV z :: .ref (y + 9) :: st) := v_iag F d hp (rm_11 hM) (by decide) h0 h1 k
theorem mp_11 (F : am_Fx p s m args meth c y0 cc nL ret et X) (hM : RepM y M h) {z w : Int} (d : decode cc pc = .ok (.iastore, 1)) (hp : pc + 1 = pc') (h0 : 0 ≤ z) (h1 : z < 60) (k : ∀ h' : am_H, RepM y (upM M 11 z w) h' → MF y h h' → V p l e R s m args below meth c nL X Q h' nx cells slots pc' L (st)) : V p l e R s m args below meth c nL X Q h nx cells slots pc L (iV w :: iV z :: .ref (y + 9) :: st) := by
  obtain ⟨a1, a2⟩ := md_put (k := 11) (i := z) (v := w) (e := am_ia 60 (upI (M 11) z w)) hM (by decide) (by decide) (by decide) rfl
  exact v_iap F d hp (rm_11 hM) (by decide) h0 h1 (k _ a1 a2)
theorem mg_12 (F : am_Fx p s m args meth c y0 cc nL ret et X) (hM : RepM y M h) {z : Int} (d : decode cc pc = .ok (.iaload, 1)) (hp : pc + 1 = pc') (h0 : 0 ≤ z) (h1 : z < 60) (k : V p l e R s m args below meth c nL X Q h nx cells slots pc' L (iV (M 12 z) :: st)) : V p l e R s m args below meth c nL X Q h nx cells slots pc L (iV z :: .ref (y + 10) :: st) := v_iag F d hp (rm_12 hM) (by decide) h0 h1 k
theorem mp_12 (F : am_Fx p s m args meth c y0 cc nL ret et X) (hM : RepM y M h) {z w : Int} (d : decode cc pc = .ok (.iastore, 1)) (hp : pc + 1 = pc') (h0 : 0 ≤ z) (h1 : z < 60) (k : ∀ h' : am_H, RepM y (upM M 12 z w) h' → MF y h h' → V p l e R s m args below meth c nL X Q h' nx cells slots pc' L (st)) : V p l e R s m args below meth c nL X Q h nx cells slots pc L (iV w :: iV z :: .ref (y + 10) :: st) := by
  obtain ⟨a1, a2⟩ := md_put (k := 12) (i := z) (v := w) (e := am_ia 60 (upI (M 12) z w)) hM (by decide) (by decide) (by decide) rfl
  exact v_iap F d hp (rm_12 hM) (by decide) h0 h1 (k _ a1 a2)
theorem mg_13 (F : am_Fx p s m args meth c y0 cc nL ret et X) (hM : RepM y M h) {z : Int} (d : decode cc pc = .ok (.iaload, 1)) (hp : pc + 1 = pc') (h0 : 0 ≤ z) (h1 : z < 60) (k : V p l e R s m args below meth c nL X Q h nx cells slots pc' L (iV (M 13 z) :: st)) : V p l e R s m args below meth c nL X Q h nx cells slots pc L (iV z :: .ref (y + 11) :: st) := v_iag F d hp (rm_13 hM) (by decide) h0 h1 k
theorem mp_13 (F : am_Fx p s m args meth c y0 cc nL ret et X) (hM : RepM y M h) {z w : Int} (d : decode cc pc = .ok (.iastore, 1)) (hp : pc + 1 = pc') (h0 : 0 ≤ z) (h1 : z < 60) (k : ∀ h' : am_H, RepM y (upM M 13 z w) h' → MF y h h' → V p l e R s m args below meth c nL X Q h' nx cells slots pc' L (st)) : V p l e R s m args below meth c nL X Q h nx cells slots pc L (iV w :: iV z :: .ref (y + 11) :: st) := by
  obtain ⟨a1, a2⟩ := md_put (k := 13) (i := z) (v := w) (e := am_ia 60 (upI (M 13) z w)) hM (by decide) (by decide) (by decide) rfl
  exact v_iap F d hp (rm_13 hM) (by decide) h0 h1 (k _ a1 a2)
theorem mg_14 (F : am_Fx p s m args meth c y0 cc nL ret et X) (hM : RepM y M h) {z : Int} (d : decode cc pc = .ok (.iaload, 1)) (hp : pc + 1 = pc') (h0 : 0 ≤ z) (h1 : z < 2400) (k : V p l e R s m args below meth c nL X Q h nx cells slots pc' L (iV (M 14 z) :: st)) : V p l e R s m args below meth c nL X Q h nx cells slots pc L (iV z :: .ref (y + 12) :: st) := v_iag F d hp (rm_14 hM) (by decide) h0 h1 k
theorem mp_14 (F : am_Fx p s m args meth c y0 cc nL ret et X) (hM : RepM y M h) {z w : Int} (d : decode cc pc = .ok (.iastore, 1)) (hp : pc + 1 = pc') (h0 : 0 ≤ z) (h1 : z < 2400) (k : ∀ h' : am_H, RepM y (upM M 14 z w) h' → MF y h h' → V p l e R s m args below meth c nL X Q h' nx cells slots pc' L (st)) : V p l e R s m args below meth c nL X Q h nx cells slots pc L (iV w :: iV z :: .ref (y + 12) :: st) := by
  obtain ⟨a1, a2⟩ := md_put (k := 14) (i := z) (v := w) (e := am_ia 2400 (upI (M 14) z w)) hM (by decide) (by decide) (by decide) rfl
  exact v_iap F d hp (rm_14 hM) (by decide) h0 h1 (k _ a1 a2)
theorem mg_15 (F : am_Fx p s m args meth c y0 cc nL ret et X) (hM : RepM y M h) {z : Int} (d : decode cc pc = .ok (.iaload, 1)) (hp : pc + 1 = pc') (h0 : 0 ≤ z) (h1 : z < 2400) (k : V p l e R s m args below meth c nL X Q h nx cells slots pc' L (iV (M 15 z) :: st)) : V p l e R s m args below meth c nL X Q h nx cells slots pc L (iV z :: .ref (y + 13) :: st) := v_iag F d hp (rm_15 hM) (by decide) h0 h1 k
theorem mp_15 (F : am_Fx p s m args meth c y0 cc nL ret et X) (hM : RepM y M h) {z w : Int} (d : decode cc pc = .ok (.iastore, 1)) (hp : pc + 1 = pc') (h0 : 0 ≤ z) (h1 : z < 2400) (k : ∀ h' : am_H, RepM y (upM M 15 z w) h' → MF y h h' → V p l e R s m args below meth c nL X Q h' nx cells slots pc' L (st)) : V p l e R s m args below meth c nL X Q h nx cells slots pc L (iV w :: iV z :: .ref (y + 13) :: st) := by
  obtain ⟨a1, a2⟩ := md_put (k := 15) (i := z) (v := w) (e := am_ia 2400 (upI (M 15) z w)) hM (by decide) (by decide) (by decide) rfl
  exact v_iap F d hp (rm_15 hM) (by decide) h0 h1 (k _ a1 a2)
theorem mg_16 (F : am_Fx p s m args meth c y0 cc nL ret et X) (hM : RepM y M h) {z : Int} (d : decode cc pc = .ok (.iaload, 1)) (hp : pc + 1 = pc') (h0 : 0 ≤ z) (h1 : z < 2400) (k : V p l e R s m args below meth c nL X Q h nx cells slots pc' L (iV (M 16 z) :: st)) : V p l e R s m args below meth c nL X Q h nx cells slots pc L (iV z :: .ref (y + 14) :: st) := v_iag F d hp (rm_16 hM) (by decide) h0 h1 k
theorem mp_16 (F : am_Fx p s m args meth c y0 cc nL ret et X) (hM : RepM y M h) {z w : Int} (d : decode cc pc = .ok (.iastore, 1)) (hp : pc + 1 = pc') (h0 : 0 ≤ z) (h1 : z < 2400) (k : ∀ h' : am_H, RepM y (upM M 16 z w) h' → MF y h h' → V p l e R s m args below meth c nL X Q h' nx cells slots pc' L (st)) : V p l e R s m args below meth c nL X Q h nx cells slots pc L (iV w :: iV z :: .ref (y + 14) :: st) := by
  obtain ⟨a1, a2⟩ := md_put (k := 16) (i := z) (v := w) (e := am_ia 2400 (upI (M 16) z w)) hM (by decide) (by decide) (by decide) rfl
  exact v_iap F d hp (rm_16 hM) (by decide) h0 h1 (k _ a1 a2)
theorem mg_17 (F : am_Fx p s m args meth c y0 cc nL ret et X) (hM : RepM y M h) {z : Int} (d : decode cc pc = .ok (.baload, 1)) (hp : pc + 1 = pc') (h0 : 0 ≤ z) (h1 : z < 2400) (k : V p l e R s m args below meth c nL X Q h nx cells slots pc' L (iV (M 17 z) :: st)) : V p l e R s m args below meth c nL X Q h nx cells slots pc L (iV z :: .ref (y + 15) :: st) := v_zag F d hp (rm_17 hM) (by decide) h0 h1 k
theorem mp_17 (F : am_Fx p s m args meth c y0 cc nL ret et X) (hM : RepM y M h) {z w : Int} (d : decode cc pc = .ok (.bastore, 1)) (hp : pc + 1 = pc') (h0 : 0 ≤ z) (h1 : z < 2400) (hw : w = 0 ∨ w = 1) (k : ∀ h' : am_H, RepM y (upM M 17 z w) h' → MF y h h' → V p l e R s m args below meth c nL X Q h' nx cells slots pc' L (st)) : V p l e R s m args below meth c nL X Q h nx cells slots pc L (iV w :: iV z :: .ref (y + 15) :: st) := by
  obtain ⟨a1, a2⟩ := md_put (k := 17) (i := z) (v := w) (e := am_za 2400 (upI (M 17) z w)) hM (by decide) (by decide) (by decide) rfl
  exact v_zap F d hp (rm_17 hM) (by decide) h0 h1 hw (k _ a1 a2)
theorem mg_18 (F : am_Fx p s m args meth c y0 cc nL ret et X) (hM : RepM y M h) {z : Int} (d : decode cc pc = .ok (.iaload, 1)) (hp : pc + 1 = pc') (h0 : 0 ≤ z) (h1 : z < 40) (k : V p l e R s m args below meth c nL X Q h nx cells slots pc' L (iV (M 18 z) :: st)) : V p l e R s m args below meth c nL X Q h nx cells slots pc L (iV z :: .ref (y + 16) :: st) := v_iag F d hp (rm_18 hM) (by decide) h0 h1 k
theorem mp_18 (F : am_Fx p s m args meth c y0 cc nL ret et X) (hM : RepM y M h) {z w : Int} (d : decode cc pc = .ok (.iastore, 1)) (hp : pc + 1 = pc') (h0 : 0 ≤ z) (h1 : z < 40) (k : ∀ h' : am_H, RepM y (upM M 18 z w) h' → MF y h h' → V p l e R s m args below meth c nL X Q h' nx cells slots pc' L (st)) : V p l e R s m args below meth c nL X Q h nx cells slots pc L (iV w :: iV z :: .ref (y + 16) :: st) := by
  obtain ⟨a1, a2⟩ := md_put (k := 18) (i := z) (v := w) (e := am_ia 40 (upI (M 18) z w)) hM (by decide) (by decide) (by decide) rfl
  exact v_iap F d hp (rm_18 hM) (by decide) h0 h1 (k _ a1 a2)
theorem mg_19 (F : am_Fx p s m args meth c y0 cc nL ret et X) (hM : RepM y M h) {z : Int} (d : decode cc pc = .ok (.iaload, 1)) (hp : pc + 1 = pc') (h0 : 0 ≤ z) (h1 : z < 4) (k : V p l e R s m args below meth c nL X Q h nx cells slots pc' L (iV (M 19 z) :: st)) : V p l e R s m args below meth c nL X Q h nx cells slots pc L (iV z :: .ref (y + 17) :: st) := v_iag F d hp (rm_19 hM) (by decide) h0 h1 k
theorem mp_19 (F : am_Fx p s m args meth c y0 cc nL ret et X) (hM : RepM y M h) {z w : Int} (d : decode cc pc = .ok (.iastore, 1)) (hp : pc + 1 = pc') (h0 : 0 ≤ z) (h1 : z < 4) (k : ∀ h' : am_H, RepM y (upM M 19 z w) h' → MF y h h' → V p l e R s m args below meth c nL X Q h' nx cells slots pc' L (st)) : V p l e R s m args below meth c nL X Q h nx cells slots pc L (iV w :: iV z :: .ref (y + 17) :: st) := by
  obtain ⟨a1, a2⟩ := md_put (k := 19) (i := z) (v := w) (e := am_ia 4 (upI (M 19) z w)) hM (by decide) (by decide) (by decide) rfl
  exact v_iap F d hp (rm_19 hM) (by decide) h0 h1 (k _ a1 a2)
theorem mg_20 (F : am_Fx p s m args meth c y0 cc nL ret et X) (hM : RepM y M h) {z : Int} (d : decode cc pc = .ok (.iaload, 1)) (hp : pc + 1 = pc') (h0 : 0 ≤ z) (h1 : z < 10) (k : V p l e R s m args below meth c nL X Q h nx cells slots pc' L (iV (M 20 z) :: st)) : V p l e R s m args below meth c nL X Q h nx cells slots pc L (iV z :: .ref (y + 18) :: st) := v_iag F d hp (rm_20 hM) (by decide) h0 h1 k
theorem mp_20 (F : am_Fx p s m args meth c y0 cc nL ret et X) (hM : RepM y M h) {z w : Int} (d : decode cc pc = .ok (.iastore, 1)) (hp : pc + 1 = pc') (h0 : 0 ≤ z) (h1 : z < 10) (k : ∀ h' : am_H, RepM y (upM M 20 z w) h' → MF y h h' → V p l e R s m args below meth c nL X Q h' nx cells slots pc' L (st)) : V p l e R s m args below meth c nL X Q h nx cells slots pc L (iV w :: iV z :: .ref (y + 18) :: st) := by
  obtain ⟨a1, a2⟩ := md_put (k := 20) (i := z) (v := w) (e := am_ia 10 (upI (M 20) z w)) hM (by decide) (by decide) (by decide) rfl
  exact v_iap F d hp (rm_20 hM) (by decide) h0 h1 (k _ a1 a2)
theorem mg_21 (F : am_Fx p s m args meth c y0 cc nL ret et X) (hM : RepM y M h) {z : Int} (d : decode cc pc = .ok (.iaload, 1)) (hp : pc + 1 = pc') (h0 : 0 ≤ z) (h1 : z < 10) (k : V p l e R s m args below meth c nL X Q h nx cells slots pc' L (iV (M 21 z) :: st)) : V p l e R s m args below meth c nL X Q h nx cells slots pc L (iV z :: .ref (y + 19) :: st) := v_iag F d hp (rm_21 hM) (by decide) h0 h1 k
theorem mp_21 (F : am_Fx p s m args meth c y0 cc nL ret et X) (hM : RepM y M h) {z w : Int} (d : decode cc pc = .ok (.iastore, 1)) (hp : pc + 1 = pc') (h0 : 0 ≤ z) (h1 : z < 10) (k : ∀ h' : am_H, RepM y (upM M 21 z w) h' → MF y h h' → V p l e R s m args below meth c nL X Q h' nx cells slots pc' L (st)) : V p l e R s m args below meth c nL X Q h nx cells slots pc L (iV w :: iV z :: .ref (y + 19) :: st) := by
  obtain ⟨a1, a2⟩ := md_put (k := 21) (i := z) (v := w) (e := am_ia 10 (upI (M 21) z w)) hM (by decide) (by decide) (by decide) rfl
  exact v_iap F d hp (rm_21 hM) (by decide) h0 h1 (k _ a1 a2)
theorem mg_22 (F : am_Fx p s m args meth c y0 cc nL ret et X) (hM : RepM y M h) {z : Int} (d : decode cc pc = .ok (.iaload, 1)) (hp : pc + 1 = pc') (h0 : 0 ≤ z) (h1 : z < 10) (k : V p l e R s m args below meth c nL X Q h nx cells slots pc' L (iV (M 22 z) :: st)) : V p l e R s m args below meth c nL X Q h nx cells slots pc L (iV z :: .ref (y + 20) :: st) := v_iag F d hp (rm_22 hM) (by decide) h0 h1 k
theorem mp_22 (F : am_Fx p s m args meth c y0 cc nL ret et X) (hM : RepM y M h) {z w : Int} (d : decode cc pc = .ok (.iastore, 1)) (hp : pc + 1 = pc') (h0 : 0 ≤ z) (h1 : z < 10) (k : ∀ h' : am_H, RepM y (upM M 22 z w) h' → MF y h h' → V p l e R s m args below meth c nL X Q h' nx cells slots pc' L (st)) : V p l e R s m args below meth c nL X Q h nx cells slots pc L (iV w :: iV z :: .ref (y + 20) :: st) := by
  obtain ⟨a1, a2⟩ := md_put (k := 22) (i := z) (v := w) (e := am_ia 10 (upI (M 22) z w)) hM (by decide) (by decide) (by decide) rfl
  exact v_iap F d hp (rm_22 hM) (by decide) h0 h1 (k _ a1 a2)
theorem mg_23 (F : am_Fx p s m args meth c y0 cc nL ret et X) (hM : RepM y M h) {z : Int} (d : decode cc pc = .ok (.laload, 1)) (hp : pc + 1 = pc') (h0 : 0 ≤ z) (h1 : z < 800) (k : V p l e R s m args below meth c nL X Q h nx cells slots pc' L (lV (M 23 z) :: st)) : V p l e R s m args below meth c nL X Q h nx cells slots pc L (iV z :: .ref (y + 21) :: st) := v_lag F d hp (rm_23 hM) (by decide) h0 h1 k
theorem mp_23 (F : am_Fx p s m args meth c y0 cc nL ret et X) (hM : RepM y M h) {z w : Int} (d : decode cc pc = .ok (.lastore, 1)) (hp : pc + 1 = pc') (h0 : 0 ≤ z) (h1 : z < 800) (k : ∀ h' : am_H, RepM y (upM M 23 z w) h' → MF y h h' → V p l e R s m args below meth c nL X Q h' nx cells slots pc' L (st)) : V p l e R s m args below meth c nL X Q h nx cells slots pc L (lV w :: iV z :: .ref (y + 21) :: st) := by
  obtain ⟨a1, a2⟩ := md_put (k := 23) (i := z) (v := w) (e := am_la 800 (upI (M 23) z w)) hM (by decide) (by decide) (by decide) rfl
  exact v_lap F d hp (rm_23 hM) (by decide) h0 h1 (k _ a1 a2)
theorem mg_24 (F : am_Fx p s m args meth c y0 cc nL ret et X) (hM : RepM y M h) {z : Int} (d : decode cc pc = .ok (.laload, 1)) (hp : pc + 1 = pc') (h0 : 0 ≤ z) (h1 : z < 800) (k : V p l e R s m args below meth c nL X Q h nx cells slots pc' L (lV (M 24 z) :: st)) : V p l e R s m args below meth c nL X Q h nx cells slots pc L (iV z :: .ref (y + 22) :: st) := v_lag F d hp (rm_24 hM) (by decide) h0 h1 k
theorem mp_24 (F : am_Fx p s m args meth c y0 cc nL ret et X) (hM : RepM y M h) {z w : Int} (d : decode cc pc = .ok (.lastore, 1)) (hp : pc + 1 = pc') (h0 : 0 ≤ z) (h1 : z < 800) (k : ∀ h' : am_H, RepM y (upM M 24 z w) h' → MF y h h' → V p l e R s m args below meth c nL X Q h' nx cells slots pc' L (st)) : V p l e R s m args below meth c nL X Q h nx cells slots pc L (lV w :: iV z :: .ref (y + 22) :: st) := by
  obtain ⟨a1, a2⟩ := md_put (k := 24) (i := z) (v := w) (e := am_la 800 (upI (M 24) z w)) hM (by decide) (by decide) (by decide) rfl
  exact v_lap F d hp (rm_24 hM) (by decide) h0 h1 (k _ a1 a2)
theorem mg_25 (F : am_Fx p s m args meth c y0 cc nL ret et X) (hM : RepM y M h) {z : Int} (d : decode cc pc = .ok (.laload, 1)) (hp : pc + 1 = pc') (h0 : 0 ≤ z) (h1 : z < 200) (k : V p l e R s m args below meth c nL X Q h nx cells slots pc' L (lV (M 25 z) :: st)) : V p l e R s m args below meth c nL X Q h nx cells slots pc L (iV z :: .ref (y + 23) :: st) := v_lag F d hp (rm_25 hM) (by decide) h0 h1 k
theorem mp_25 (F : am_Fx p s m args meth c y0 cc nL ret et X) (hM : RepM y M h) {z w : Int} (d : decode cc pc = .ok (.lastore, 1)) (hp : pc + 1 = pc') (h0 : 0 ≤ z) (h1 : z < 200) (k : ∀ h' : am_H, RepM y (upM M 25 z w) h' → MF y h h' → V p l e R s m args below meth c nL X Q h' nx cells slots pc' L (st)) : V p l e R s m args below meth c nL X Q h nx cells slots pc L (lV w :: iV z :: .ref (y + 23) :: st) := by
  obtain ⟨a1, a2⟩ := md_put (k := 25) (i := z) (v := w) (e := am_la 200 (upI (M 25) z w)) hM (by decide) (by decide) (by decide) rfl
  exact v_lap F d hp (rm_25 hM) (by decide) h0 h1 (k _ a1 a2)
theorem mg_26 (F : am_Fx p s m args meth c y0 cc nL ret et X) (hM : RepM y M h) {z : Int} (d : decode cc pc = .ok (.laload, 1)) (hp : pc + 1 = pc') (h0 : 0 ≤ z) (h1 : z < 20) (k : V p l e R s m args below meth c nL X Q h nx cells slots pc' L (lV (M 26 z) :: st)) : V p l e R s m args below meth c nL X Q h nx cells slots pc L (iV z :: .ref (y + 24) :: st) := v_lag F d hp (rm_26 hM) (by decide) h0 h1 k
theorem mp_26 (F : am_Fx p s m args meth c y0 cc nL ret et X) (hM : RepM y M h) {z w : Int} (d : decode cc pc = .ok (.lastore, 1)) (hp : pc + 1 = pc') (h0 : 0 ≤ z) (h1 : z < 20) (k : ∀ h' : am_H, RepM y (upM M 26 z w) h' → MF y h h' → V p l e R s m args below meth c nL X Q h' nx cells slots pc' L (st)) : V p l e R s m args below meth c nL X Q h nx cells slots pc L (lV w :: iV z :: .ref (y + 24) :: st) := by
  obtain ⟨a1, a2⟩ := md_put (k := 26) (i := z) (v := w) (e := am_la 20 (upI (M 26) z w)) hM (by decide) (by decide) (by decide) rfl
  exact v_lap F d hp (rm_26 hM) (by decide) h0 h1 (k _ a1 a2)
theorem mg_27 (F : am_Fx p s m args meth c y0 cc nL ret et X) (hM : RepM y M h) {z : Int} (d : decode cc pc = .ok (.laload, 1)) (hp : pc + 1 = pc') (h0 : 0 ≤ z) (h1 : z < 20) (k : V p l e R s m args below meth c nL X Q h nx cells slots pc' L (lV (M 27 z) :: st)) : V p l e R s m args below meth c nL X Q h nx cells slots pc L (iV z :: .ref (y + 25) :: st) := v_lag F d hp (rm_27 hM) (by decide) h0 h1 k
theorem mp_27 (F : am_Fx p s m args meth c y0 cc nL ret et X) (hM : RepM y M h) {z w : Int} (d : decode cc pc = .ok (.lastore, 1)) (hp : pc + 1 = pc') (h0 : 0 ≤ z) (h1 : z < 20) (k : ∀ h' : am_H, RepM y (upM M 27 z w) h' → MF y h h' → V p l e R s m args below meth c nL X Q h' nx cells slots pc' L (st)) : V p l e R s m args below meth c nL X Q h nx cells slots pc L (lV w :: iV z :: .ref (y + 25) :: st) := by
  obtain ⟨a1, a2⟩ := md_put (k := 27) (i := z) (v := w) (e := am_la 20 (upI (M 27) z w)) hM (by decide) (by decide) (by decide) rfl
  exact v_lap F d hp (rm_27 hM) (by decide) h0 h1 (k _ a1 a2)
theorem mp_0 (F : am_Fx p s m args meth c y0 cc nL ret et X) (hM : RepM y M h) {w : Int} {index : Nat} (d : decode cc pc = .ok (.putfield index, 3)) (hp : pc + 3 = pc') (hlink : Cond.fieldLink y0.cls index "BillSharesModel" "code" "I" ∈ lw_tbl) (k : ∀ h' : am_H, RepM y (upM M 0 0 w) h' → MF y h h' → V p l e R s m args below meth c nL X Q h' nx cells slots pc' L (st)) : V p l e R s m args below meth c nL X Q h nx cells slots pc L (iV w :: .ref y :: st) := by
  obtain ⟨a1, a2⟩ := md_set (k := 0) (v := w) (e := .inr (4, (md_fs y M).set 0 (iV w))) hM (by decide) rfl
  exact v_putf (C := zR_M) (T := zF_M) (N := 28) (ref := "BillSharesModel") (ty := .int) F d hp zi_M zt_M zk_M zn_M rfl 0 (by decide) hlink (Or.inl rfl) (Or.inl rfl) (by decide +kernel) rfl rfl hM.1 (by show 0 < 28; decide) (k _ a1 a2)
theorem mp_1 (F : am_Fx p s m args meth c y0 cc nL ret et X) (hM : RepM y M h) {w : Int} {index : Nat} (d : decode cc pc = .ok (.putfield index, 3)) (hp : pc + 3 = pc') (hlink : Cond.fieldLink y0.cls index "BillSharesModel" "flats" "I" ∈ lw_tbl) (k : ∀ h' : am_H, RepM y (upM M 1 0 w) h' → MF y h h' → V p l e R s m args below meth c nL X Q h' nx cells slots pc' L (st)) : V p l e R s m args below meth c nL X Q h nx cells slots pc L (iV w :: .ref y :: st) := by
  obtain ⟨a1, a2⟩ := md_set (k := 1) (v := w) (e := .inr (4, (md_fs y M).set 1 (iV w))) hM (by decide) rfl
  exact v_putf (C := zR_M) (T := zF_M) (N := 28) (ref := "BillSharesModel") (ty := .int) F d hp zi_M zt_M zk_M zn_M rfl 1 (by decide) hlink (Or.inl rfl) (Or.inl rfl) (by decide +kernel) rfl rfl hM.1 (by show 1 < 28; decide) (k _ a1 a2)
theorem mp_7 (F : am_Fx p s m args meth c y0 cc nL ret et X) (hM : RepM y M h) {w : Int} {index : Nat} (d : decode cc pc = .ok (.putfield index, 3)) (hp : pc + 3 = pc') (hlink : Cond.fieldLink y0.cls index "BillSharesModel" "meters" "I" ∈ lw_tbl) (k : ∀ h' : am_H, RepM y (upM M 7 0 w) h' → MF y h h' → V p l e R s m args below meth c nL X Q h' nx cells slots pc' L (st)) : V p l e R s m args below meth c nL X Q h nx cells slots pc L (iV w :: .ref y :: st) := by
  obtain ⟨a1, a2⟩ := md_set (k := 7) (v := w) (e := .inr (4, (md_fs y M).set 7 (iV w))) hM (by decide) rfl
  exact v_putf (C := zR_M) (T := zF_M) (N := 28) (ref := "BillSharesModel") (ty := .int) F d hp zi_M zt_M zk_M zn_M rfl 7 (by decide) hlink (Or.inl rfl) (Or.inl rfl) (by decide +kernel) rfl rfl hM.1 (by show 7 < 28; decide) (k _ a1 a2)
end MST
end
section
/-! the reference's small methods (written by wip/whole/mm1.py) -/
set_option maxRecDepth 100000 in
set_option maxHeartbeats 4000000 in
theorem c_M_isIn (l : Launch) (X : am_X) (h : am_H) (nx : Nat) (v a b : Int) (rv : -2147483648 ≤ v ∧ v < 2147483648) (ra : -2147483648 ≤ a ∧ a < 2147483648) (rb : -2147483648 ≤ b ∧ b < 2147483648) : CnP l X y_M_isIn ({ frames := 0, cells := 0, slots := 0, locals := 0 }) [iV v, iV a, iV b] h nx (iV (bI (a ≤ v ∧ v ≤ b))) := by
  refine cn_of (k := 0) (L0 := [some (iV v), some (iV a), some (iV b)]) rfl wx_757 (Nat.le_of_ble_eq_true rfl) rfl (fun p e s m args below meth c F => ?_)
  refine v_iload_n (pc' := 1) (j := 0) F d_M_isIn_0 rfl rfl rfl ?_
  refine v_iload_n (pc' := 2) (j := 1) F d_M_isIn_1 rfl rfl rfl ?_
  refine v_icmp_lt (tgt := 14) (pc' := 5) F d_M_isIn_2 (by decide) rfl (by omega) (by omega) (fun c2 => ?_) (fun c2 => ?_)
  · refine v_iconst (pc' := 15) F d_M_isIn_14 rfl ?_
    exact v_ireturn F rfl d_M_isIn_15 rfl rfl (Nat.le_refl _) (Nat.le_refl _) ⟨by first | rw [bI_t (by omega)] | rw [bI_f (by omega)], rfl, rfl⟩
  · refine v_iload_n (pc' := 6) (j := 0) F d_M_isIn_5 rfl rfl rfl ?_
    refine v_iload_n (pc' := 7) (j := 2) F d_M_isIn_6 rfl rfl rfl ?_
    refine v_icmp_gt (tgt := 14) (pc' := 10) F d_M_isIn_7 (by decide) rfl (by omega) (by omega) (fun c7 => ?_) (fun c7 => ?_)
    · refine v_iconst (pc' := 15) F d_M_isIn_14 rfl ?_
      exact v_ireturn F rfl d_M_isIn_15 rfl rfl (Nat.le_refl _) (Nat.le_refl _) ⟨by first | rw [bI_t (by omega)] | rw [bI_f (by omega)], rfl, rfl⟩
    · refine v_iconst (pc' := 11) F d_M_isIn_10 rfl ?_
      refine v_goto (tgt := 15) F d_M_isIn_11 (by decide) ?_
      exact v_ireturn F rfl d_M_isIn_15 rfl rfl (Nat.le_refl _) (Nat.le_refl _) ⟨by first | rw [bI_t (by omega)] | rw [bI_f (by omega)], rfl, rfl⟩
set_option maxRecDepth 100000 in
set_option maxHeartbeats 4000000 in
theorem c_M_isValue (l : Launch) (X : am_X) (h : am_H) (nx : Nat) (v : Int) (rv : -2147483648 ≤ v ∧ v < 2147483648) : CnP l X y_M_isValue ({ frames := 1, cells := 0, slots := 0, locals := 22 }) [iV v] h nx (iV (bI (0 ≤ v ∧ v ≤ 10000000))) := by
  refine cn_of (k := 0) (L0 := [some (iV v)]) rfl wx_784 (Nat.le_of_ble_eq_true rfl) rfl (fun p e s m args below meth c F => ?_)
  refine v_iload_n (pc' := 1) (j := 0) F d_M_isValue_0 rfl rfl rfl ?_
  refine v_iconst (pc' := 2) F d_M_isValue_1 rfl ?_
  refine v_ldc (pc' := 4) (z := 10000000) F d_M_isValue_2 rfl wx_785 (by decide) ?_
  refine v_callSP (pc' := 7) F d_M_isValue_4 rfl cal_M_isIn wx_755 wx_756 (c_M_isIn l X h nx v 0 10000000 rv (by omega) (by omega)) rfl ⟨by decide, by decide, by decide, by decide⟩ (Nat.le_of_ble_eq_true rfl) rfl rfl ?_
  exact v_ireturn F rfl d_M_isValue_7 rfl (by rcases bI_r (0 ≤ v ∧ v ≤ 10000000) with q | q <;> rw [q] <;> rfl) (Nat.le_refl _) (Nat.le_refl _) ⟨rfl, rfl, rfl⟩
set_option maxRecDepth 100000 in
set_option maxHeartbeats 4000000 in
theorem c_M_isFlat (l : Launch) (X : am_X) (h : am_H) (nx : Nat) (y : Nat) (M : MS) (f : Int) (hM : RepM y M h) (hfl : 0 ≤ M 1 0 ∧ M 1 0 ≤ 20) (rf : -2147483648 ≤ f ∧ f < 2147483648) : CnP l X y_M_isFlat ({ frames := 0, cells := 0, slots := 0, locals := 0 }) [.ref y, iV f] h nx (iV (bI (0 ≤ f ∧ f < M 1 0))) := by
  refine cn_of (k := 0) (L0 := [some (.ref y), some (iV f)]) rfl wx_769 (Nat.le_of_ble_eq_true rfl) rfl (fun p e s m args below meth c F => ?_)
  refine v_iload_n (pc' := 1) (j := 1) F d_M_isFlat_0 rfl rfl rfl ?_
  refine v_if_lt (tgt := 16) (pc' := 4) F d_M_isFlat_1 (by decide) rfl (by omega) (fun c1 => ?_) (fun c1 => ?_)
  · refine v_iconst (pc' := 17) F d_M_isFlat_16 rfl ?_
    exact v_ireturn F rfl d_M_isFlat_17 rfl rfl (Nat.le_refl _) (Nat.le_refl _) ⟨by first | rw [bI_t (by omega)] | rw [bI_f (by omega)], rfl, rfl⟩
  · refine v_iload_n (pc' := 5) (j := 1) F d_M_isFlat_4 rfl rfl rfl ?_
    refine v_aload_n (pc' := 6) (j := 0) F d_M_isFlat_5 rfl rfl rfl ?_
    refine v_getf (pc' := 9) (C := zR_M) (T := zF_M) (N := 28) (ref := "BillSharesModel") F d_M_isFlat_6 rfl zi_M rfl 1 (by decide) wx_662 (Or.inl rfl) hM.1 rfl ?_
    refine v_icmp_ge (tgt := 16) (pc' := 12) F d_M_isFlat_9 (by decide) rfl (by omega) (by omega) (fun c9 => ?_) (fun c9 => ?_)
    · refine v_iconst (pc' := 17) F d_M_isFlat_16 rfl ?_
      exact v_ireturn F rfl d_M_isFlat_17 rfl rfl (Nat.le_refl _) (Nat.le_refl _) ⟨by first | rw [bI_t (by omega)] | rw [bI_f (by omega)], rfl, rfl⟩
    · refine v_iconst (pc' := 13) F d_M_isFlat_12 rfl ?_
      refine v_goto (tgt := 17) F d_M_isFlat_13 (by decide) ?_
      exact v_ireturn F rfl d_M_isFlat_17 rfl rfl (Nat.le_refl _) (Nat.le_refl _) ⟨by first | rw [bI_t (by omega)] | rw [bI_f (by omega)], rfl, rfl⟩
set_option maxRecDepth 100000 in
set_option maxHeartbeats 4000000 in
theorem c_M_isMeter (l : Launch) (X : am_X) (h : am_H) (nx : Nat) (y : Nat) (M : MS) (f : Int) (hM : RepM y M h) (hme : 0 ≤ M 7 0 ∧ M 7 0 ≤ 60) (rf : -2147483648 ≤ f ∧ f < 2147483648) : CnP l X y_M_isMeter ({ frames := 0, cells := 0, slots := 0, locals := 0 }) [.ref y, iV f] h nx (iV (bI (0 ≤ f ∧ f < M 7 0))) := by
  refine cn_of (k := 0) (L0 := [some (.ref y), some (iV f)]) rfl wx_781 (Nat.le_of_ble_eq_true rfl) rfl (fun p e s m args below meth c F => ?_)
  refine v_iload_n (pc' := 1) (j := 1) F d_M_isMeter_0 rfl rfl rfl ?_
  refine v_if_lt (tgt := 16) (pc' := 4) F d_M_isMeter_1 (by decide) rfl (by omega) (fun c1 => ?_) (fun c1 => ?_)
  · refine v_iconst (pc' := 17) F d_M_isMeter_16 rfl ?_
    exact v_ireturn F rfl d_M_isMeter_17 rfl rfl (Nat.le_refl _) (Nat.le_refl _) ⟨by first | rw [bI_t (by omega)] | rw [bI_f (by omega)], rfl, rfl⟩
  · refine v_iload_n (pc' := 5) (j := 1) F d_M_isMeter_4 rfl rfl rfl ?_
    refine v_aload_n (pc' := 6) (j := 0) F d_M_isMeter_5 rfl rfl rfl ?_
    refine v_getf (pc' := 9) (C := zR_M) (T := zF_M) (N := 28) (ref := "BillSharesModel") F d_M_isMeter_6 rfl zi_M rfl 7 (by decide) wx_668 (Or.inl rfl) hM.1 rfl ?_
    refine v_icmp_ge (tgt := 16) (pc' := 12) F d_M_isMeter_9 (by decide) rfl (by omega) (by omega) (fun c9 => ?_) (fun c9 => ?_)
    · refine v_iconst (pc' := 17) F d_M_isMeter_16 rfl ?_
      exact v_ireturn F rfl d_M_isMeter_17 rfl rfl (Nat.le_refl _) (Nat.le_refl _) ⟨by first | rw [bI_t (by omega)] | rw [bI_f (by omega)], rfl, rfl⟩
    · refine v_iconst (pc' := 13) F d_M_isMeter_12 rfl ?_
      refine v_goto (tgt := 17) F d_M_isMeter_13 (by decide) ?_
      exact v_ireturn F rfl d_M_isMeter_17 rfl rfl (Nat.le_refl _) (Nat.le_refl _) ⟨by first | rw [bI_t (by omega)] | rw [bI_f (by omega)], rfl, rfl⟩
set_option maxRecDepth 100000 in
set_option maxHeartbeats 4000000 in
theorem c_M_thrown (l : Launch) (X : am_X) (h : am_H) (nx : Nat) (y : Nat) (M : MS) (hM : RepM y M h) : CnP l X y_M_thrown ({ frames := 0, cells := 0, slots := 0, locals := 0 }) [.ref y] h nx (iV (M 0 0)) := by
  refine cn_of (k := 0) (L0 := [some (.ref y)]) rfl wx_750 (Nat.le_of_ble_eq_true rfl) rfl (fun p e s m args below meth c F => ?_)
  refine v_aload_n (pc' := 1) (j := 0) F d_M_thrown_0 rfl rfl rfl ?_
  refine v_getf (pc' := 4) (C := zR_M) (T := zF_M) (N := 28) (ref := "BillSharesModel") F d_M_thrown_1 rfl zi_M rfl 0 (by decide) wx_661 (Or.inl rfl) hM.1 rfl ?_
  exact v_ireturn F rfl d_M_thrown_4 rfl rfl (Nat.le_refl _) (Nat.le_refl _) ⟨rfl, rfl, rfl⟩
/-- what allows() notes -/
noncomputable def sp_code (a b : Int) : Int := if a = 0 then 1 else if b = 0 then 2 else 0
theorem sp_code_1 {a b : Int} (h : a = 0) : sp_code a b = 1 := if_pos h
theorem sp_code_2 {a b : Int} (h : ¬ a = 0) (h2 : b = 0) : sp_code a b = 2 := by unfold sp_code; rw [if_neg h, if_pos h2]
theorem sp_code_0 {a b : Int} (h : ¬ a = 0) (h2 : ¬ b = 0) : sp_code a b = 0 := by unfold sp_code; rw [if_neg h, if_neg h2]
set_option maxRecDepth 100000 in
set_option maxHeartbeats 4000000 in
theorem c_M_allows (l : Launch) (X : am_X) (h : am_H) (nx : Nat) (y : Nat) (M : MS) (a b : Int) (hM : RepM y M h) (ra : -2147483648 ≤ a ∧ a < 2147483648) (rb : -2147483648 ≤ b ∧ b < 2147483648) : Cn l X y_M_allows ({ frames := 0, cells := 0, slots := 0, locals := 0 }) [.ref y, iV a, iV b] h nx (fun o h' nx' => RepM y (upM M 0 0 (sp_code a b)) h' ∧ MF y h h' ∧ nx' = nx ∧ o = .returned (some (iV (bI (sp_code a b = 0))))) := by
  refine cn_of (k := 0) (L0 := [some (.ref y), some (iV a), some (iV b)]) rfl wx_761 (Nat.le_of_ble_eq_true rfl) rfl (fun p e s m args below meth c F => ?_)
  refine v_aload_n (pc' := 1) (j := 0) F d_M_allows_0 rfl rfl rfl ?_
  refine v_iload_n (pc' := 2) (j := 1) F d_M_allows_1 rfl rfl rfl ?_
  refine v_if_ne (tgt := 9) (pc' := 5) F d_M_allows_2 (by decide) rfl (by omega) (fun c2 => ?_) (fun c2 => ?_)
  · refine v_iload_n (pc' := 10) (j := 2) F d_M_allows_9 rfl rfl rfl ?_
    refine v_if_ne (tgt := 17) (pc' := 13) F d_M_allows_10 (by decide) rfl (by omega) (fun c10 => ?_) (fun c10 => ?_)
    · refine v_iconst (pc' := 18) F d_M_allows_17 rfl ?_
      refine mp_0 (pc' := 21) F hM d_M_allows_18 rfl wx_661 (fun h1 hM1 hF1 => ?_)
      refine v_aload_n (pc' := 22) (j := 0) F d_M_allows_21 rfl rfl rfl ?_
      refine v_getf (pc' := 25) (C := zR_M) (T := zF_M) (N := 28) (ref := "BillSharesModel") F d_M_allows_22 rfl zi_M rfl 0 (by decide) wx_661 (Or.inl rfl) hM1.1 rfl ?_
      refine v_topi upM_ss ?_
      refine v_if_ne (tgt := 32) (pc' := 28) F d_M_allows_25 (by decide) rfl (by omega) (fun c25 => ?_) (fun c25 => ?_)
      · refine v_iconst (pc' := 33) F d_M_allows_32 rfl ?_
        refine v_ireturn F rfl d_M_allows_33 rfl rfl (Nat.le_refl _) (Nat.le_refl _) ?_
        first | (exfalso; omega) | (rw [sp_code_1 c2]; exact ⟨hM1, ((MF.rf).tr hF1), rfl, by rw [bI_f (by decide)]⟩) | (rw [sp_code_2 c2 c10]; exact ⟨hM1, ((MF.rf).tr hF1), rfl, by rw [bI_f (by decide)]⟩) | (rw [sp_code_0 c2 c10]; exact ⟨hM1, ((MF.rf).tr hF1), rfl, by rw [bI_t rfl]⟩)
      · refine v_iconst (pc' := 29) F d_M_allows_28 rfl ?_
        refine v_goto (tgt := 33) F d_M_allows_29 (by decide) ?_
        refine v_ireturn F rfl d_M_allows_33 rfl rfl (Nat.le_refl _) (Nat.le_refl _) ?_
        first | (exfalso; omega) | (rw [sp_code_1 c2]; exact ⟨hM1, ((MF.rf).tr hF1), rfl, by rw [bI_f (by decide)]⟩) | (rw [sp_code_2 c2 c10]; exact ⟨hM1, ((MF.rf).tr hF1), rfl, by rw [bI_f (by decide)]⟩) | (rw [sp_code_0 c2 c10]; exact ⟨hM1, ((MF.rf).tr hF1), rfl, by rw [bI_t rfl]⟩)
    · refine v_iconst (pc' := 14) F d_M_allows_13 rfl ?_
      refine v_goto (tgt := 18) F d_M_allows_14 (by decide) ?_
      refine mp_0 (pc' := 21) F hM d_M_allows_18 rfl wx_661 (fun h2 hM2 hF2 => ?_)
      refine v_aload_n (pc' := 22) (j := 0) F d_M_allows_21 rfl rfl rfl ?_
      refine v_getf (pc' := 25) (C := zR_M) (T := zF_M) (N := 28) (ref := "BillSharesModel") F d_M_allows_22 rfl zi_M rfl 0 (by decide) wx_661 (Or.inl rfl) hM2.1 rfl ?_
      refine v_topi upM_ss ?_
      refine v_if_ne (tgt := 32) (pc' := 28) F d_M_allows_25 (by decide) rfl (by omega) (fun c25 => ?_) (fun c25 => ?_)
      · refine v_iconst (pc' := 33) F d_M_allows_32 rfl ?_
        refine v_ireturn F rfl d_M_allows_33 rfl rfl (Nat.le_refl _) (Nat.le_refl _) ?_
        first | (exfalso; omega) | (rw [sp_code_1 c2]; exact ⟨hM2, ((MF.rf).tr hF2), rfl, by rw [bI_f (by decide)]⟩) | (rw [sp_code_2 c2 c10]; exact ⟨hM2, ((MF.rf).tr hF2), rfl, by rw [bI_f (by decide)]⟩) | (rw [sp_code_0 c2 c10]; exact ⟨hM2, ((MF.rf).tr hF2), rfl, by rw [bI_t rfl]⟩)
      · refine v_iconst (pc' := 29) F d_M_allows_28 rfl ?_
        refine v_goto (tgt := 33) F d_M_allows_29 (by decide) ?_
        refine v_ireturn F rfl d_M_allows_33 rfl rfl (Nat.le_refl _) (Nat.le_refl _) ?_
        first | (exfalso; omega) | (rw [sp_code_1 c2]; exact ⟨hM2, ((MF.rf).tr hF2), rfl, by rw [bI_f (by decide)]⟩) | (rw [sp_code_2 c2 c10]; exact ⟨hM2, ((MF.rf).tr hF2), rfl, by rw [bI_f (by decide)]⟩) | (rw [sp_code_0 c2 c10]; exact ⟨hM2, ((MF.rf).tr hF2), rfl, by rw [bI_t rfl]⟩)
  · refine v_iconst (pc' := 6) F d_M_allows_5 rfl ?_
    refine v_goto (tgt := 18) F d_M_allows_6 (by decide) ?_
    refine mp_0 (pc' := 21) F hM d_M_allows_18 rfl wx_661 (fun h3 hM3 hF3 => ?_)
    refine v_aload_n (pc' := 22) (j := 0) F d_M_allows_21 rfl rfl rfl ?_
    refine v_getf (pc' := 25) (C := zR_M) (T := zF_M) (N := 28) (ref := "BillSharesModel") F d_M_allows_22 rfl zi_M rfl 0 (by decide) wx_661 (Or.inl rfl) hM3.1 rfl ?_
    refine v_topi upM_ss ?_
    refine v_if_ne (tgt := 32) (pc' := 28) F d_M_allows_25 (by decide) rfl (by omega) (fun c25 => ?_) (fun c25 => ?_)
    · refine v_iconst (pc' := 33) F d_M_allows_32 rfl ?_
      refine v_ireturn F rfl d_M_allows_33 rfl rfl (Nat.le_refl _) (Nat.le_refl _) ?_
      first | (exfalso; omega) | (rw [sp_code_1 c2]; exact ⟨hM3, ((MF.rf).tr hF3), rfl, by rw [bI_f (by decide)]⟩) | (rw [sp_code_2 c2 c10]; exact ⟨hM3, ((MF.rf).tr hF3), rfl, by rw [bI_f (by decide)]⟩) | (rw [sp_code_0 c2 c10]; exact ⟨hM3, ((MF.rf).tr hF3), rfl, by rw [bI_t rfl]⟩)
    · refine v_iconst (pc' := 29) F d_M_allows_28 rfl ?_
      refine v_goto (tgt := 33) F d_M_allows_29 (by decide) ?_
      refine v_ireturn F rfl d_M_allows_33 rfl rfl (Nat.le_refl _) (Nat.le_refl _) ?_
      first | (exfalso; omega) | (rw [sp_code_1 c2]; exact ⟨hM3, ((MF.rf).tr hF3), rfl, by rw [bI_f (by decide)]⟩) | (rw [sp_code_2 c2 c10]; exact ⟨hM3, ((MF.rf).tr hF3), rfl, by rw [bI_f (by decide)]⟩) | (rw [sp_code_0 c2 c10]; exact ⟨hM3, ((MF.rf).tr hF3), rfl, by rw [bI_t rfl]⟩)
end
section
/-! rows for callees of the reference that write, branches on truth values, what a public method of the reference owes -/
def CnM (l : Launch) (X : am_X) (y' : MethodName) (rm : Room) (av : List Value) (h : am_H) (nx : Nat) (y : Nat) (M' : MS) (r : Value) : Prop := Cn l X y' rm av h nx (fun o h' nx' => RepM y M' h' ∧ MF y h h' ∧ nx' = nx ∧ o = .returned (some r))
def CnV (l : Launch) (X : am_X) (y' : MethodName) (rm : Room) (av : List Value) (h : am_H) (nx : Nat) (y : Nat) (M' : MS) : Prop := Cn l X y' rm av h nx (fun o h' nx' => RepM y M' h' ∧ MF y h h' ∧ nx' = nx ∧ o = .returned none)
section MRW
variable {p : Program} {l : Launch} {e : Env} {R : Room} {s : State} {m : MethodId} {args : Array Value} {below : List Frame} {meth : Method} {c : Code} {nL : Nat} {X : am_X} {Q : State → Prop}
variable {cc : ByteArray} {y0 : MethodName} {ret : Option FieldType} {et : List (Nat × Nat × Nat × Nat)} {h : am_H} {nx cells slots pc pc' : Nat} {L : List (Option Value)} {st : List Value} {y : Nat} {M : MS}
variable {y' : MethodName} {rm : Room} {av : List Value} {bytes : ByteArray} {maxL index : Nat} {ret' : Option FieldType}
theorem v_callVM (F : am_Fx p s m args meth c y0 cc nL ret et X) {st0 : List Value} {r : Value} {b ci ya : Nat} {M' : MS} {fs : List Value} {C : String} {T9 : u_T} {N : Nat} (d : decode cc pc = .ok (.invokevirtual index, 3)) (hp : pc + 3 = pc') (hcal : am_cal y' bytes maxL ret' av.length) (hlink : Cond.methodLink y0.cls index y' ∈ lw_tbl) (hinst : Cond.instanceMethod y' ∈ lw_tbl) (hsel : Cond.selects C y' y' ∈ lw_tbl) (hc : am_cl[ci]? = some (C, T9, N)) (hb : h b = some (.inr (ci, fs))) (hC : CnM l X y' rm (.ref b :: av) h nx ya M' r) (hst : st0 = av.reverse ++ .ref b :: st) (hfit : am_fit R rm maxL cells slots) (hw : (st.map fun v => v.category).sum ≤ 8) (h1 : rm.cells = 0) (h2 : rm.slots = 0)
    (k : ∀ h' : am_H, RepM ya M' h' → MF ya h h' → V p l e R s m args below meth c nL X Q h' nx cells slots pc' L (r :: st)) : V p l e R s m args below meth c nL X Q h nx cells slots pc L st0 :=
  v_callV F d hp hcal hlink hinst hsel hc hb hC hst hfit hw (fun _ _ _ q => by cases q.2.2.2) (fun v h' nx' q => by
    obtain ⟨q1, q2, rfl, q4⟩ := q
    cases q4
    rw [h1, h2]
    exact k h' q1 q2)
theorem v_callVV (F : am_Fx p s m args meth c y0 cc nL ret et X) {st0 : List Value} {b ci ya : Nat} {M' : MS} {fs : List Value} {C : String} {T9 : u_T} {N : Nat} (d : decode cc pc = .ok (.invokevirtual index, 3)) (hp : pc + 3 = pc') (hcal : am_cal y' bytes maxL ret' av.length) (hlink : Cond.methodLink y0.cls index y' ∈ lw_tbl) (hinst : Cond.instanceMethod y' ∈ lw_tbl) (hsel : Cond.selects C y' y' ∈ lw_tbl) (hc : am_cl[ci]? = some (C, T9, N)) (hb : h b = some (.inr (ci, fs))) (hC : CnV l X y' rm (.ref b :: av) h nx ya M') (hst : st0 = av.reverse ++ .ref b :: st) (hfit : am_fit R rm maxL cells slots) (hw : (st.map fun v => v.category).sum ≤ 8) (h1 : rm.cells = 0) (h2 : rm.slots = 0)
    (k : ∀ h' : am_H, RepM ya M' h' → MF ya h h' → V p l e R s m args below meth c nL X Q h' nx cells slots pc' L st) : V p l e R s m args below meth c nL X Q h nx cells slots pc L st0 :=
  v_callV F d hp hcal hlink hinst hsel hc hb hC hst hfit hw (fun _ _ _ q => by cases q.2.2.2) (fun v h' nx' q => by
    obtain ⟨q1, q2, rfl, q4⟩ := q
    cases q4
    rw [h1, h2]
    exact k h' q1 q2)
theorem v_zif_eq (F : am_Fx p s m args meth c y0 cc nL ret et X) {q : Prop} {off : Int} {tgt : Nat} (d : decode cc pc = .ok (.ifCond .eq off, 3)) (ht : (pc : Int) + off = (tgt : Int)) (hp : pc + 3 = pc') (kt : ¬ q → V p l e R s m args below meth c nL X Q h nx cells slots tgt L st) (kf : q → V p l e R s m args below meth c nL X Q h nx cells slots pc' L st) : V p l e R s m args below meth c nL X Q h nx cells slots pc L (iV (bI q) :: st) :=
  v_if_eq F d ht hp (by rcases bI_r q with z | z <;> rw [z] <;> omega) (fun z => kt (bI_0.mp z)) (fun z => kf (Classical.byContradiction fun n => z (bI_f n)))
theorem v_zif_ne (F : am_Fx p s m args meth c y0 cc nL ret et X) {q : Prop} {off : Int} {tgt : Nat} (d : decode cc pc = .ok (.ifCond .ne off, 3)) (ht : (pc : Int) + off = (tgt : Int)) (hp : pc + 3 = pc') (kt : q → V p l e R s m args below meth c nL X Q h nx cells slots tgt L st) (kf : ¬ q → V p l e R s m args below meth c nL X Q h nx cells slots pc' L st) : V p l e R s m args below meth c nL X Q h nx cells slots pc L (iV (bI q) :: st) :=
  v_if_ne F d ht hp (by rcases bI_r q with z | z <;> rw [z] <;> omega) (fun z => kt (Classical.byContradiction fun n => z (bI_f n))) (fun z => kf (bI_0.mp z))
/-- a read passes a write of another field -/
theorem v_un {j k : Nat} {i v z : Int} (hj : k ≠ j) (kk : V p l e R s m args below meth c nL X Q h nx cells slots pc L (iV (M k z) :: st)) : V p l e R s m args below meth c nL X Q h nx cells slots pc L (iV (upM M j i v k z) :: st) := by rw [upM_n hj]; exact kk
theorem v_unl {j k : Nat} {i v z : Int} (hj : k ≠ j) (kk : V p l e R s m args below meth c nL X Q h nx cells slots pc L (lV (M k z) :: st)) : V p l e R s m args below meth c nL X Q h nx cells slots pc L (lV (upM M j i v k z) :: st) := by rw [upM_n hj]; exact kk
theorem v_us {k : Nat} {i v : Int} (kk : V p l e R s m args below meth c nL X Q h nx cells slots pc L (iV v :: st)) : V p l e R s m args below meth c nL X Q h nx cells slots pc L (iV (upM M k i v k i) :: st) := by rw [upM_ss]; exact kk
theorem v_usl {k : Nat} {i v : Int} (kk : V p l e R s m args below meth c nL X Q h nx cells slots pc L (lV v :: st)) : V p l e R s m args below meth c nL X Q h nx cells slots pc L (lV (upM M k i v k i) :: st) := by rw [upM_ss]; exact kk
end MRW
theorem c_allows_1 (l : Launch) (X : am_X) (h : am_H) (nx : Nat) (y : Nat) (M : MS) (b : Int) (hM : RepM y M h) (rb : -2147483648 ≤ b ∧ b < 2147483648) : CnM l X y_M_allows ({ frames := 0, cells := 0, slots := 0, locals := 0 }) [.ref y, iV 0, iV b] h nx y (upM M 0 0 1) (iV 0) :=
  (c_M_allows l X h nx y M 0 b hM (by omega) rb).mono fun o h' nx' q => by rw [sp_code_1 rfl] at q; rw [bI_f (by decide)] at q; exact q
theorem c_allows_2 (l : Launch) (X : am_X) (h : am_H) (nx : Nat) (y : Nat) (M : MS) (hM : RepM y M h) : CnM l X y_M_allows ({ frames := 0, cells := 0, slots := 0, locals := 0 }) [.ref y, iV 1, iV 0] h nx y (upM M 0 0 2) (iV 0) :=
  (c_M_allows l X h nx y M 1 0 hM (by omega) (by omega)).mono fun o h' nx' q => by rw [sp_code_2 (by decide) rfl] at q; rw [bI_f (by decide)] at q; exact q
theorem c_allows_0 (l : Launch) (X : am_X) (h : am_H) (nx : Nat) (y : Nat) (M : MS) (hM : RepM y M h) : CnM l X y_M_allows ({ frames := 0, cells := 0, slots := 0, locals := 0 }) [.ref y, iV 1, iV 1] h nx y (upM M 0 0 0) (iV 1) :=
  (c_M_allows l X h nx y M 1 1 hM (by omega) (by omega)).mono fun o h' nx' q => by rw [sp_code_0 (by decide) (by decide)] at q; rw [bI_t rfl] at q; exact q
theorem c_allows_q (l : Launch) (X : am_X) (h : am_H) (nx : Nat) (y : Nat) (M : MS) (q : Prop) (hM : RepM y M h) : CnM l X y_M_allows ({ frames := 0, cells := 0, slots := 0, locals := 0 }) [.ref y, iV (bI q), iV 1] h nx y (upM M 0 0 (1 - bI q)) (iV (bI q)) := by
  by_cases hq : q
  · rw [bI_t hq]; exact c_allows_0 l X h nx y M hM
  · rw [bI_f hq]; exact c_allows_1 l X h nx y M 1 hM (by omega)
/-- states alike but for the reference's own notes -/
def eqv (M N : MS) : Prop := ∀ k, k ≠ 0 → k ≠ 26 → k ≠ 27 → M k = N k
theorem eqv.rf {M : MS} : eqv M M := fun _ _ _ _ => rfl
theorem eqv.note {M : MS} {k : Nat} {i v : Int} (hk : k = 0 ∨ k = 26 ∨ k = 27) : eqv (upM M k i v) M := fun j h0 h1 h2 => upM_n (by omega)
theorem eqv.tr {A B C : MS} (a : eqv A B) (b : eqv B C) : eqv A C := fun k h0 h1 h2 => (a k h0 h1 h2).trans (b k h0 h1 h2)
theorem eqv.up {A B : MS} (a : eqv A B) (k : Nat) (i v : Int) : eqv (upM A k i v) (upM B k i v) := fun j h0 h1 h2 => by
  unfold upM
  by_cases hj : j = k
  · subst hj; rw [if_pos rfl, if_pos rfl, a j h0 h1 h2]
  · rw [if_neg hj, if_neg hj]; exact a j h0 h1 h2
/-- what a public method of the reference owes: its note is the code, its state the next one, its answer (where nothing is refused) the answer -/
def mpost (y : Nat) (h : am_H) (nx : Nat) (mk : Int → Value) (t : Int × Int × MS) : Outcome → am_H → Nat → Prop := fun o h' nx' => ∃ M', RepM y M' h' ∧ MF y h h' ∧ nx' = nx ∧ M' 0 0 = t.1 ∧ eqv M' t.2.2 ∧ ∃ r : Int, o = .returned (some (mk r)) ∧ (t.1 = 0 → r = t.2.1)
end
section
/-! the reference's writers without loops, and what they owe (written by wip/whole/mm2.py) -/
def sp_tested (M : MS) (m d : Int) : Int × Int × MS := if 0 ≤ m ∧ m < M 7 0 ∧ 0 ≤ d ∧ d ≤ 3649 then (0, M 12 m, upM M 12 m d) else (1, 0, M)
set_option maxRecDepth 100000 in
set_option maxHeartbeats 4000000 in
theorem c_M_tested (l : Launch) (X : am_X) (h : am_H) (nx : Nat) (y : Nat) (M : MS) (f d : Int) (hM : RepM y M h) (hme : 0 ≤ M 7 0 ∧ M 7 0 ≤ 60) (rf : -2147483648 ≤ f ∧ f < 2147483648) (rd : -2147483648 ≤ d ∧ d < 2147483648) : Cn l X y_M_tested ({ frames := 1, cells := 0, slots := 0, locals := 22 }) [.ref y, iV f, iV d] h nx (mpost y h nx iV (sp_tested M f d)) := by
  refine cn_of (k := 1) (L0 := [some (.ref y), some (iV f), some (iV d), none]) rfl wx_797 (Nat.le_of_ble_eq_true rfl) rfl (fun p e s m args below meth c F => ?_)
  refine v_aload_n (pc' := 1) (j := 0) F d_M_tested_0 rfl rfl rfl ?_
  refine v_aload_n (pc' := 2) (j := 0) F d_M_tested_1 rfl rfl rfl ?_
  refine v_iload_n (pc' := 3) (j := 1) F d_M_tested_2 rfl rfl rfl ?_
  refine v_callVP (pc' := 6) (C := zR_M) (T9 := zF_M) (N := 28) F d_M_tested_3 rfl cal_M_isMeter wx_778 wx_780 wp_19 rfl hM.1 (c_M_isMeter l X _ _ _ _ _ hM hme (by omega)) rfl ⟨by decide, by decide, by decide, by decide⟩ (Nat.le_of_ble_eq_true rfl) rfl rfl ?_
  refine v_zif_eq (tgt := 24) (pc' := 9) F d_M_tested_6 (by decide) rfl (fun c6 => ?_) (fun c6 => ?_)
  · refine v_iconst (pc' := 25) F d_M_tested_24 rfl ?_
    refine v_iconst (pc' := 26) F d_M_tested_25 rfl ?_
    refine v_callVM (pc' := 29) (C := zR_M) (T9 := zF_M) (N := 28) F d_M_tested_26 rfl cal_M_allows wx_758 wx_760 wp_16 rfl hM.1 (c_allows_1 l X _ _ _ _ _ hM (by omega)) rfl ⟨by decide, by decide, by decide, by decide⟩ (Nat.le_of_ble_eq_true rfl) rfl rfl (fun h1 hM1 hF1 => ?_)
    refine v_if_ne (tgt := 34) (pc' := 32) F d_M_tested_29 (by decide) rfl (by omega) (fun c29 => by exfalso; omega) (fun c29 => ?_)
    refine v_iconst (pc' := 33) F d_M_tested_32 rfl ?_
    refine v_ireturn F rfl d_M_tested_33 rfl rfl (Nat.le_refl _) (Nat.le_refl _) ?_
    first | (rw [show sp_tested M f d = (1, 0, M) from if_neg (by omega)]; exact ⟨_, hM1, ((MF.rf).tr hF1), rfl, upM_ss, eqv.note (Or.inl rfl), 0, rfl, fun q => absurd (show (1 : Int) = 0 from q) (by decide)⟩) | (rw [show sp_tested M f d = _ from if_pos (by omega)]; exact ⟨_, hM1, ((MF.rf).tr hF1), rfl, (by rw [upM_n (by decide)]; exact upM_ss), (eqv.note (Or.inl rfl)).up 12 _ _, _, rfl, fun _ => rfl⟩)
  · refine v_iload_n (pc' := 10) (j := 2) F d_M_tested_9 rfl rfl rfl ?_
    refine v_iconst (pc' := 11) F d_M_tested_10 rfl ?_
    refine v_sipush (pc' := 14) F d_M_tested_11 rfl (by decide) ?_
    refine v_callSP (pc' := 17) F d_M_tested_14 rfl cal_M_isIn wx_755 wx_756 (c_M_isIn l X _ _ _ _ _ (by omega) (by omega) (by omega)) rfl ⟨by decide, by decide, by decide, by decide⟩ (Nat.le_of_ble_eq_true rfl) rfl rfl ?_
    refine v_zif_eq (tgt := 24) (pc' := 20) F d_M_tested_17 (by decide) rfl (fun c17 => ?_) (fun c17 => ?_)
    · refine v_iconst (pc' := 25) F d_M_tested_24 rfl ?_
      refine v_iconst (pc' := 26) F d_M_tested_25 rfl ?_
      refine v_callVM (pc' := 29) (C := zR_M) (T9 := zF_M) (N := 28) F d_M_tested_26 rfl cal_M_allows wx_758 wx_760 wp_16 rfl hM.1 (c_allows_1 l X _ _ _ _ _ hM (by omega)) rfl ⟨by decide, by decide, by decide, by decide⟩ (Nat.le_of_ble_eq_true rfl) rfl rfl (fun h2 hM2 hF2 => ?_)
      refine v_if_ne (tgt := 34) (pc' := 32) F d_M_tested_29 (by decide) rfl (by omega) (fun c29 => by exfalso; omega) (fun c29 => ?_)
      refine v_iconst (pc' := 33) F d_M_tested_32 rfl ?_
      refine v_ireturn F rfl d_M_tested_33 rfl rfl (Nat.le_refl _) (Nat.le_refl _) ?_
      first | (rw [show sp_tested M f d = (1, 0, M) from if_neg (by omega)]; exact ⟨_, hM2, ((MF.rf).tr hF2), rfl, upM_ss, eqv.note (Or.inl rfl), 0, rfl, fun q => absurd (show (1 : Int) = 0 from q) (by decide)⟩) | (rw [show sp_tested M f d = _ from if_pos (by omega)]; exact ⟨_, hM2, ((MF.rf).tr hF2), rfl, (by rw [upM_n (by decide)]; exact upM_ss), (eqv.note (Or.inl rfl)).up 12 _ _, _, rfl, fun _ => rfl⟩)
    · refine v_iconst (pc' := 21) F d_M_tested_20 rfl ?_
      refine v_goto (tgt := 25) F d_M_tested_21 (by decide) ?_
      refine v_iconst (pc' := 26) F d_M_tested_25 rfl ?_
      refine v_callVM (pc' := 29) (C := zR_M) (T9 := zF_M) (N := 28) F d_M_tested_26 rfl cal_M_allows wx_758 wx_760 wp_16 rfl hM.1 (c_allows_0 l X _ _ _ _ hM) rfl ⟨by decide, by decide, by decide, by decide⟩ (Nat.le_of_ble_eq_true rfl) rfl rfl (fun h3 hM3 hF3 => ?_)
      refine v_if_ne (tgt := 34) (pc' := 32) F d_M_tested_29 (by decide) rfl (by omega) (fun c29 => ?_) (fun c29 => by exfalso; omega)
      refine v_aload_n (pc' := 35) (j := 0) F d_M_tested_34 rfl rfl rfl ?_
      refine v_getf (pc' := 38) (C := zR_M) (T := zF_M) (N := 28) (ref := "BillSharesModel") F d_M_tested_35 rfl zi_M rfl 12 (by decide) wx_673 (Or.inl rfl) hM3.1 rfl ?_
      refine v_iload_n (pc' := 39) (j := 1) F d_M_tested_38 rfl rfl rfl ?_
      refine mg_12 (pc' := 40) F hM3 d_M_tested_39 rfl (by omega) (by omega) ?_
      refine v_un (by decide) ?_
      refine v_istore_3 (pc' := 41) F d_M_tested_40 rfl rfl (by decide) ?_
      refine v_aload_n (pc' := 42) (j := 0) F d_M_tested_41 rfl rfl rfl ?_
      refine v_getf (pc' := 45) (C := zR_M) (T := zF_M) (N := 28) (ref := "BillSharesModel") F d_M_tested_42 rfl zi_M rfl 12 (by decide) wx_673 (Or.inl rfl) hM3.1 rfl ?_
      refine v_iload_n (pc' := 46) (j := 1) F d_M_tested_45 rfl rfl rfl ?_
      refine v_iload_n (pc' := 47) (j := 2) F d_M_tested_46 rfl rfl rfl ?_
      refine mp_12 (pc' := 48) F hM3 d_M_tested_47 rfl (by omega) (by omega) (fun h4 hM4 hF4 => ?_)
      refine v_iload_n (pc' := 49) (j := 3) F d_M_tested_48 rfl rfl rfl ?_
      refine v_ireturn F rfl d_M_tested_49 rfl rfl (Nat.le_refl _) (Nat.le_refl _) ?_
      first | (rw [show sp_tested M f d = (1, 0, M) from if_neg (by omega)]; exact ⟨_, hM4, ((((MF.rf).tr hF3)).tr hF4), rfl, upM_ss, eqv.note (Or.inl rfl), 0, rfl, fun q => absurd (show (1 : Int) = 0 from q) (by decide)⟩) | (rw [show sp_tested M f d = _ from if_pos (by omega)]; exact ⟨_, hM4, ((((MF.rf).tr hF3)).tr hF4), rfl, (by rw [upM_n (by decide)]; exact upM_ss), (eqv.note (Or.inl rfl)).up 12 _ _, _, rfl, fun _ => rfl⟩)
def sp_cost (M : MS) (k y v : Int) : Int × Int × MS := if 0 ≤ k ∧ k ≤ 3 ∧ 0 ≤ y ∧ y ≤ 9 ∧ 0 ≤ v ∧ v ≤ 1000000000 then (0, M 18 (4 * y + k), upM M 18 (4 * y + k) v) else (1, 0, M)
set_option maxRecDepth 100000 in
set_option maxHeartbeats 4000000 in
theorem c_M_cost (l : Launch) (X : am_X) (h : am_H) (nx : Nat) (y : Nat) (M : MS) (k a v : Int) (hM : RepM y M h) (rk : -2147483648 ≤ k ∧ k < 2147483648) (ra : -2147483648 ≤ a ∧ a < 2147483648) (rv : -2147483648 ≤ v ∧ v < 2147483648) : Cn l X y_M_cost ({ frames := 1, cells := 0, slots := 0, locals := 22 }) [.ref y, iV k, iV a, iV v] h nx (mpost y h nx iV (sp_cost M k a v)) := by
  refine cn_of (k := 1) (L0 := [some (.ref y), some (iV k), some (iV a), some (iV v), none]) rfl wx_801 (Nat.le_of_ble_eq_true rfl) rfl (fun p e s m args below meth c F => ?_)
  refine v_aload_n (pc' := 1) (j := 0) F d_M_cost_0 rfl rfl rfl ?_
  refine v_iload_n (pc' := 2) (j := 1) F d_M_cost_1 rfl rfl rfl ?_
  refine v_iconst (pc' := 3) F d_M_cost_2 rfl ?_
  refine v_iconst (pc' := 4) F d_M_cost_3 rfl ?_
  refine v_callSP (pc' := 7) F d_M_cost_4 rfl cal_M_isIn wx_755 wx_756 (c_M_isIn l X _ _ _ _ _ (by omega) (by omega) (by omega)) rfl ⟨by decide, by decide, by decide, by decide⟩ (Nat.le_of_ble_eq_true rfl) rfl rfl ?_
  refine v_zif_eq (tgt := 34) (pc' := 10) F d_M_cost_7 (by decide) rfl (fun c7 => ?_) (fun c7 => ?_)
  · refine v_iconst (pc' := 35) F d_M_cost_34 rfl ?_
    refine v_iconst (pc' := 36) F d_M_cost_35 rfl ?_
    refine v_callVM (pc' := 39) (C := zR_M) (T9 := zF_M) (N := 28) F d_M_cost_36 rfl cal_M_allows wx_758 wx_760 wp_16 rfl hM.1 (c_allows_1 l X _ _ _ _ _ hM (by omega)) rfl ⟨by decide, by decide, by decide, by decide⟩ (Nat.le_of_ble_eq_true rfl) rfl rfl (fun h1 hM1 hF1 => ?_)
    refine v_if_ne (tgt := 44) (pc' := 42) F d_M_cost_39 (by decide) rfl (by omega) (fun c39 => by exfalso; omega) (fun c39 => ?_)
    refine v_iconst (pc' := 43) F d_M_cost_42 rfl ?_
    refine v_ireturn F rfl d_M_cost_43 rfl rfl (Nat.le_refl _) (Nat.le_refl _) ?_
    first | (rw [show sp_cost M k a v = (1, 0, M) from if_neg (by omega)]; exact ⟨_, hM1, ((MF.rf).tr hF1), rfl, upM_ss, eqv.note (Or.inl rfl), 0, rfl, fun q => absurd (show (1 : Int) = 0 from q) (by decide)⟩) | (rw [show sp_cost M k a v = _ from if_pos (by omega)]; exact ⟨_, hM1, ((MF.rf).tr hF1), rfl, (by rw [upM_n (by decide)]; exact upM_ss), (eqv.note (Or.inl rfl)).up 18 _ _, _, rfl, fun _ => rfl⟩)
  · refine v_iload_n (pc' := 11) (j := 2) F d_M_cost_10 rfl rfl rfl ?_
    refine v_iconst (pc' := 12) F d_M_cost_11 rfl ?_
    refine v_bipush (pc' := 14) F d_M_cost_12 rfl (by decide) ?_
    refine v_callSP (pc' := 17) F d_M_cost_14 rfl cal_M_isIn wx_755 wx_756 (c_M_isIn l X _ _ _ _ _ (by omega) (by omega) (by omega)) rfl ⟨by decide, by decide, by decide, by decide⟩ (Nat.le_of_ble_eq_true rfl) rfl rfl ?_
    refine v_zif_eq (tgt := 34) (pc' := 20) F d_M_cost_17 (by decide) rfl (fun c17 => ?_) (fun c17 => ?_)
    · refine v_iconst (pc' := 35) F d_M_cost_34 rfl ?_
      refine v_iconst (pc' := 36) F d_M_cost_35 rfl ?_
      refine v_callVM (pc' := 39) (C := zR_M) (T9 := zF_M) (N := 28) F d_M_cost_36 rfl cal_M_allows wx_758 wx_760 wp_16 rfl hM.1 (c_allows_1 l X _ _ _ _ _ hM (by omega)) rfl ⟨by decide, by decide, by decide, by decide⟩ (Nat.le_of_ble_eq_true rfl) rfl rfl (fun h2 hM2 hF2 => ?_)
      refine v_if_ne (tgt := 44) (pc' := 42) F d_M_cost_39 (by decide) rfl (by omega) (fun c39 => by exfalso; omega) (fun c39 => ?_)
      refine v_iconst (pc' := 43) F d_M_cost_42 rfl ?_
      refine v_ireturn F rfl d_M_cost_43 rfl rfl (Nat.le_refl _) (Nat.le_refl _) ?_
      first | (rw [show sp_cost M k a v = (1, 0, M) from if_neg (by omega)]; exact ⟨_, hM2, ((MF.rf).tr hF2), rfl, upM_ss, eqv.note (Or.inl rfl), 0, rfl, fun q => absurd (show (1 : Int) = 0 from q) (by decide)⟩) | (rw [show sp_cost M k a v = _ from if_pos (by omega)]; exact ⟨_, hM2, ((MF.rf).tr hF2), rfl, (by rw [upM_n (by decide)]; exact upM_ss), (eqv.note (Or.inl rfl)).up 18 _ _, _, rfl, fun _ => rfl⟩)
    · refine v_iload_n (pc' := 21) (j := 3) F d_M_cost_20 rfl rfl rfl ?_
      refine v_iconst (pc' := 22) F d_M_cost_21 rfl ?_
      refine v_ldc (pc' := 24) (z := 1000000000) F d_M_cost_22 rfl wx_802 (by decide) ?_
      refine v_callSP (pc' := 27) F d_M_cost_24 rfl cal_M_isIn wx_755 wx_756 (c_M_isIn l X _ _ _ _ _ (by omega) (by omega) (by omega)) rfl ⟨by decide, by decide, by decide, by decide⟩ (Nat.le_of_ble_eq_true rfl) rfl rfl ?_
      refine v_zif_eq (tgt := 34) (pc' := 30) F d_M_cost_27 (by decide) rfl (fun c27 => ?_) (fun c27 => ?_)
      · refine v_iconst (pc' := 35) F d_M_cost_34 rfl ?_
        refine v_iconst (pc' := 36) F d_M_cost_35 rfl ?_
        refine v_callVM (pc' := 39) (C := zR_M) (T9 := zF_M) (N := 28) F d_M_cost_36 rfl cal_M_allows wx_758 wx_760 wp_16 rfl hM.1 (c_allows_1 l X _ _ _ _ _ hM (by omega)) rfl ⟨by decide, by decide, by decide, by decide⟩ (Nat.le_of_ble_eq_true rfl) rfl rfl (fun h3 hM3 hF3 => ?_)
        refine v_if_ne (tgt := 44) (pc' := 42) F d_M_cost_39 (by decide) rfl (by omega) (fun c39 => by exfalso; omega) (fun c39 => ?_)
        refine v_iconst (pc' := 43) F d_M_cost_42 rfl ?_
        refine v_ireturn F rfl d_M_cost_43 rfl rfl (Nat.le_refl _) (Nat.le_refl _) ?_
        first | (rw [show sp_cost M k a v = (1, 0, M) from if_neg (by omega)]; exact ⟨_, hM3, ((MF.rf).tr hF3), rfl, upM_ss, eqv.note (Or.inl rfl), 0, rfl, fun q => absurd (show (1 : Int) = 0 from q) (by decide)⟩) | (rw [show sp_cost M k a v = _ from if_pos (by omega)]; exact ⟨_, hM3, ((MF.rf).tr hF3), rfl, (by rw [upM_n (by decide)]; exact upM_ss), (eqv.note (Or.inl rfl)).up 18 _ _, _, rfl, fun _ => rfl⟩)
      · refine v_iconst (pc' := 31) F d_M_cost_30 rfl ?_
        refine v_goto (tgt := 35) F d_M_cost_31 (by decide) ?_
        refine v_iconst (pc' := 36) F d_M_cost_35 rfl ?_
        refine v_callVM (pc' := 39) (C := zR_M) (T9 := zF_M) (N := 28) F d_M_cost_36 rfl cal_M_allows wx_758 wx_760 wp_16 rfl hM.1 (c_allows_0 l X _ _ _ _ hM) rfl ⟨by decide, by decide, by decide, by decide⟩ (Nat.le_of_ble_eq_true rfl) rfl rfl (fun h4 hM4 hF4 => ?_)
        refine v_if_ne (tgt := 44) (pc' := 42) F d_M_cost_39 (by decide) rfl (by omega) (fun c39 => ?_) (fun c39 => by exfalso; omega)
        refine v_aload_n (pc' := 45) (j := 0) F d_M_cost_44 rfl rfl rfl ?_
        refine v_getf (pc' := 48) (C := zR_M) (T := zF_M) (N := 28) (ref := "BillSharesModel") F d_M_cost_45 rfl zi_M rfl 18 (by decide) wx_679 (Or.inl rfl) hM4.1 rfl ?_
        refine v_iconst (pc' := 49) F d_M_cost_48 rfl ?_
        refine v_iload_n (pc' := 50) (j := 2) F d_M_cost_49 rfl rfl rfl ?_
        refine v_imul (pc' := 51) F d_M_cost_50 rfl ?_
        refine v_iload_n (pc' := 52) (j := 1) F d_M_cost_51 rfl rfl rfl ?_
        refine v_iadd (pc' := 53) F d_M_cost_52 rfl ?_
        refine mg_18 (pc' := 54) F hM4 d_M_cost_53 rfl (by omega) (by omega) ?_
        refine v_un (by decide) ?_
        refine v_istore_4 (pc' := 56) F d_M_cost_54 rfl rfl (by decide) ?_
        refine v_aload_n (pc' := 57) (j := 0) F d_M_cost_56 rfl rfl rfl ?_
        refine v_getf (pc' := 60) (C := zR_M) (T := zF_M) (N := 28) (ref := "BillSharesModel") F d_M_cost_57 rfl zi_M rfl 18 (by decide) wx_679 (Or.inl rfl) hM4.1 rfl ?_
        refine v_iconst (pc' := 61) F d_M_cost_60 rfl ?_
        refine v_iload_n (pc' := 62) (j := 2) F d_M_cost_61 rfl rfl rfl ?_
        refine v_imul (pc' := 63) F d_M_cost_62 rfl ?_
        refine v_iload_n (pc' := 64) (j := 1) F d_M_cost_63 rfl rfl rfl ?_
        refine v_iadd (pc' := 65) F d_M_cost_64 rfl ?_
        refine v_iload_n (pc' := 66) (j := 3) F d_M_cost_65 rfl rfl rfl ?_
        refine mp_18 (pc' := 67) F hM4 d_M_cost_66 rfl (by omega) (by omega) (fun h5 hM5 hF5 => ?_)
        refine v_iload (pc' := 69) F d_M_cost_67 rfl rfl ?_
        refine v_ireturn F rfl d_M_cost_69 rfl rfl (Nat.le_refl _) (Nat.le_refl _) ?_
        first | (rw [show sp_cost M k a v = (1, 0, M) from if_neg (by omega)]; exact ⟨_, hM5, ((((MF.rf).tr hF4)).tr hF5), rfl, upM_ss, eqv.note (Or.inl rfl), 0, rfl, fun q => absurd (show (1 : Int) = 0 from q) (by decide)⟩) | (rw [show sp_cost M k a v = _ from if_pos (by omega)]; exact ⟨_, hM5, ((((MF.rf).tr hF4)).tr hF5), rfl, (by rw [upM_n (by decide)]; exact upM_ss), (eqv.note (Or.inl rfl)).up 18 _ _, _, rfl, fun _ => rfl⟩)
def sp_base (M : MS) (k v : Int) : Int × Int × MS := if 0 ≤ k ∧ k ≤ 3 ∧ 0 ≤ v ∧ v ≤ 100 then (0, M 19 k, upM M 19 k v) else (1, 0, M)
set_option maxRecDepth 100000 in
set_option maxHeartbeats 4000000 in
theorem c_M_base (l : Launch) (X : am_X) (h : am_H) (nx : Nat) (y : Nat) (M : MS) (k v : Int) (hM : RepM y M h) (rk : -2147483648 ≤ k ∧ k < 2147483648) (rv : -2147483648 ≤ v ∧ v < 2147483648) : Cn l X y_M_base ({ frames := 1, cells := 0, slots := 0, locals := 22 }) [.ref y, iV k, iV v] h nx (mpost y h nx iV (sp_base M k v)) := by
  refine cn_of (k := 1) (L0 := [some (.ref y), some (iV k), some (iV v), none]) rfl wx_806 (Nat.le_of_ble_eq_true rfl) rfl (fun p e s m args below meth c F => ?_)
  refine v_aload_n (pc' := 1) (j := 0) F d_M_base_0 rfl rfl rfl ?_
  refine v_iload_n (pc' := 2) (j := 1) F d_M_base_1 rfl rfl rfl ?_
  refine v_iconst (pc' := 3) F d_M_base_2 rfl ?_
  refine v_iconst (pc' := 4) F d_M_base_3 rfl ?_
  refine v_callSP (pc' := 7) F d_M_base_4 rfl cal_M_isIn wx_755 wx_756 (c_M_isIn l X _ _ _ _ _ (by omega) (by omega) (by omega)) rfl ⟨by decide, by decide, by decide, by decide⟩ (Nat.le_of_ble_eq_true rfl) rfl rfl ?_
  refine v_zif_eq (tgt := 24) (pc' := 10) F d_M_base_7 (by decide) rfl (fun c7 => ?_) (fun c7 => ?_)
  · refine v_iconst (pc' := 25) F d_M_base_24 rfl ?_
    refine v_iconst (pc' := 26) F d_M_base_25 rfl ?_
    refine v_callVM (pc' := 29) (C := zR_M) (T9 := zF_M) (N := 28) F d_M_base_26 rfl cal_M_allows wx_758 wx_760 wp_16 rfl hM.1 (c_allows_1 l X _ _ _ _ _ hM (by omega)) rfl ⟨by decide, by decide, by decide, by decide⟩ (Nat.le_of_ble_eq_true rfl) rfl rfl (fun h1 hM1 hF1 => ?_)
    refine v_if_ne (tgt := 34) (pc' := 32) F d_M_base_29 (by decide) rfl (by omega) (fun c29 => by exfalso; omega) (fun c29 => ?_)
    refine v_iconst (pc' := 33) F d_M_base_32 rfl ?_
    refine v_ireturn F rfl d_M_base_33 rfl rfl (Nat.le_refl _) (Nat.le_refl _) ?_
    first | (rw [show sp_base M k v = (1, 0, M) from if_neg (by omega)]; exact ⟨_, hM1, ((MF.rf).tr hF1), rfl, upM_ss, eqv.note (Or.inl rfl), 0, rfl, fun q => absurd (show (1 : Int) = 0 from q) (by decide)⟩) | (rw [show sp_base M k v = _ from if_pos (by omega)]; exact ⟨_, hM1, ((MF.rf).tr hF1), rfl, (by rw [upM_n (by decide)]; exact upM_ss), (eqv.note (Or.inl rfl)).up 19 _ _, _, rfl, fun _ => rfl⟩)
  · refine v_iload_n (pc' := 11) (j := 2) F d_M_base_10 rfl rfl rfl ?_
    refine v_iconst (pc' := 12) F d_M_base_11 rfl ?_
    refine v_bipush (pc' := 14) F d_M_base_12 rfl (by decide) ?_
    refine v_callSP (pc' := 17) F d_M_base_14 rfl cal_M_isIn wx_755 wx_756 (c_M_isIn l X _ _ _ _ _ (by omega) (by omega) (by omega)) rfl ⟨by decide, by decide, by decide, by decide⟩ (Nat.le_of_ble_eq_true rfl) rfl rfl ?_
    refine v_zif_eq (tgt := 24) (pc' := 20) F d_M_base_17 (by decide) rfl (fun c17 => ?_) (fun c17 => ?_)
    · refine v_iconst (pc' := 25) F d_M_base_24 rfl ?_
      refine v_iconst (pc' := 26) F d_M_base_25 rfl ?_
      refine v_callVM (pc' := 29) (C := zR_M) (T9 := zF_M) (N := 28) F d_M_base_26 rfl cal_M_allows wx_758 wx_760 wp_16 rfl hM.1 (c_allows_1 l X _ _ _ _ _ hM (by omega)) rfl ⟨by decide, by decide, by decide, by decide⟩ (Nat.le_of_ble_eq_true rfl) rfl rfl (fun h2 hM2 hF2 => ?_)
      refine v_if_ne (tgt := 34) (pc' := 32) F d_M_base_29 (by decide) rfl (by omega) (fun c29 => by exfalso; omega) (fun c29 => ?_)
      refine v_iconst (pc' := 33) F d_M_base_32 rfl ?_
      refine v_ireturn F rfl d_M_base_33 rfl rfl (Nat.le_refl _) (Nat.le_refl _) ?_
      first | (rw [show sp_base M k v = (1, 0, M) from if_neg (by omega)]; exact ⟨_, hM2, ((MF.rf).tr hF2), rfl, upM_ss, eqv.note (Or.inl rfl), 0, rfl, fun q => absurd (show (1 : Int) = 0 from q) (by decide)⟩) | (rw [show sp_base M k v = _ from if_pos (by omega)]; exact ⟨_, hM2, ((MF.rf).tr hF2), rfl, (by rw [upM_n (by decide)]; exact upM_ss), (eqv.note (Or.inl rfl)).up 19 _ _, _, rfl, fun _ => rfl⟩)
    · refine v_iconst (pc' := 21) F d_M_base_20 rfl ?_
      refine v_goto (tgt := 25) F d_M_base_21 (by decide) ?_
      refine v_iconst (pc' := 26) F d_M_base_25 rfl ?_
      refine v_callVM (pc' := 29) (C := zR_M) (T9 := zF_M) (N := 28) F d_M_base_26 rfl cal_M_allows wx_758 wx_760 wp_16 rfl hM.1 (c_allows_0 l X _ _ _ _ hM) rfl ⟨by decide, by decide, by decide, by decide⟩ (Nat.le_of_ble_eq_true rfl) rfl rfl (fun h3 hM3 hF3 => ?_)
      refine v_if_ne (tgt := 34) (pc' := 32) F d_M_base_29 (by decide) rfl (by omega) (fun c29 => ?_) (fun c29 => by exfalso; omega)
      refine v_aload_n (pc' := 35) (j := 0) F d_M_base_34 rfl rfl rfl ?_
      refine v_getf (pc' := 38) (C := zR_M) (T := zF_M) (N := 28) (ref := "BillSharesModel") F d_M_base_35 rfl zi_M rfl 19 (by decide) wx_680 (Or.inl rfl) hM3.1 rfl ?_
      refine v_iload_n (pc' := 39) (j := 1) F d_M_base_38 rfl rfl rfl ?_
      refine mg_19 (pc' := 40) F hM3 d_M_base_39 rfl (by omega) (by omega) ?_
      refine v_un (by decide) ?_
      refine v_istore_3 (pc' := 41) F d_M_base_40 rfl rfl (by decide) ?_
      refine v_aload_n (pc' := 42) (j := 0) F d_M_base_41 rfl rfl rfl ?_
      refine v_getf (pc' := 45) (C := zR_M) (T := zF_M) (N := 28) (ref := "BillSharesModel") F d_M_base_42 rfl zi_M rfl 19 (by decide) wx_680 (Or.inl rfl) hM3.1 rfl ?_
      refine v_iload_n (pc' := 46) (j := 1) F d_M_base_45 rfl rfl rfl ?_
      refine v_iload_n (pc' := 47) (j := 2) F d_M_base_46 rfl rfl rfl ?_
      refine mp_19 (pc' := 48) F hM3 d_M_base_47 rfl (by omega) (by omega) (fun h4 hM4 hF4 => ?_)
      refine v_iload_n (pc' := 49) (j := 3) F d_M_base_48 rfl rfl rfl ?_
      refine v_ireturn F rfl d_M_base_49 rfl rfl (Nat.le_refl _) (Nat.le_refl _) ?_
      first | (rw [show sp_base M k v = (1, 0, M) from if_neg (by omega)]; exact ⟨_, hM4, ((((MF.rf).tr hF3)).tr hF4), rfl, upM_ss, eqv.note (Or.inl rfl), 0, rfl, fun q => absurd (show (1 : Int) = 0 from q) (by decide)⟩) | (rw [show sp_base M k v = _ from if_pos (by omega)]; exact ⟨_, hM4, ((((MF.rf).tr hF3)).tr hF4), rfl, (by rw [upM_n (by decide)]; exact upM_ss), (eqv.note (Or.inl rfl)).up 19 _ _, _, rfl, fun _ => rfl⟩)
def sp_edition (M : MS) (a : Int) : Int × Int × MS := if 0 ≤ a ∧ a ≤ 9 then (0, M 20 a, M) else (1, 0, M)
set_option maxRecDepth 100000 in
set_option maxHeartbeats 4000000 in
theorem c_M_edition (l : Launch) (X : am_X) (h : am_H) (nx : Nat) (y : Nat) (M : MS) (a : Int) (hM : RepM y M h) (ra : -2147483648 ≤ a ∧ a < 2147483648) : Cn l X y_M_edition ({ frames := 1, cells := 0, slots := 0, locals := 22 }) [.ref y, iV a] h nx (mpost y h nx iV (sp_edition M a)) := by
  refine cn_of (k := 0) (L0 := [some (.ref y), some (iV a)]) rfl wx_913 (Nat.le_of_ble_eq_true rfl) rfl (fun p e s m args below meth c F => ?_)
  refine v_aload_n (pc' := 1) (j := 0) F d_M_edition_0 rfl rfl rfl ?_
  refine v_iload_n (pc' := 2) (j := 1) F d_M_edition_1 rfl rfl rfl ?_
  refine v_iconst (pc' := 3) F d_M_edition_2 rfl ?_
  refine v_bipush (pc' := 5) F d_M_edition_3 rfl (by decide) ?_
  refine v_callSP (pc' := 8) F d_M_edition_5 rfl cal_M_isIn wx_755 wx_756 (c_M_isIn l X _ _ _ _ _ (by omega) (by omega) (by omega)) rfl ⟨by decide, by decide, by decide, by decide⟩ (Nat.le_of_ble_eq_true rfl) rfl rfl ?_
  refine v_iconst (pc' := 9) F d_M_edition_8 rfl ?_
  refine v_callVM (pc' := 12) (C := zR_M) (T9 := zF_M) (N := 28) F d_M_edition_9 rfl cal_M_allows wx_758 wx_760 wp_16 rfl hM.1 (c_allows_q l X _ _ _ _ _ hM) rfl ⟨by decide, by decide, by decide, by decide⟩ (Nat.le_of_ble_eq_true rfl) rfl rfl (fun h1 hM1 hF1 => ?_)
  refine v_zif_eq (tgt := 24) (pc' := 15) F d_M_edition_12 (by decide) rfl (fun c12 => ?_) (fun c12 => ?_)
  · refine v_iconst (pc' := 25) F d_M_edition_24 rfl ?_
    refine v_ireturn F rfl d_M_edition_25 rfl rfl (Nat.le_refl _) (Nat.le_refl _) ?_
    first | (rw [show sp_edition M a = (1, 0, M) from if_neg (by omega)]; exact ⟨_, hM1, ((MF.rf).tr hF1), rfl, upM_ss.trans (by rw [bI_f (by omega)]; rfl), eqv.note (Or.inl rfl), 0, rfl, fun q => absurd (show (1 : Int) = 0 from q) (by decide)⟩) | (rw [show sp_edition M a = _ from if_pos (by omega)]; exact ⟨_, hM1, ((MF.rf).tr hF1), rfl, upM_ss.trans (by rw [bI_t (by omega)]; rfl), eqv.note (Or.inl rfl), _, rfl, fun _ => rfl⟩)
  · refine v_aload_n (pc' := 16) (j := 0) F d_M_edition_15 rfl rfl rfl ?_
    refine v_getf (pc' := 19) (C := zR_M) (T := zF_M) (N := 28) (ref := "BillSharesModel") F d_M_edition_16 rfl zi_M rfl 20 (by decide) wx_681 (Or.inl rfl) hM1.1 rfl ?_
    refine v_iload_n (pc' := 20) (j := 1) F d_M_edition_19 rfl rfl rfl ?_
    refine mg_20 (pc' := 21) F hM1 d_M_edition_20 rfl (by omega) (by omega) ?_
    refine v_un (by decide) ?_
    refine v_goto (tgt := 25) F d_M_edition_21 (by decide) ?_
    refine v_ireturn F rfl d_M_edition_25 rfl rfl (Nat.le_refl _) (Nat.le_refl _) ?_
    first | (rw [show sp_edition M a = (1, 0, M) from if_neg (by omega)]; exact ⟨_, hM1, ((MF.rf).tr hF1), rfl, upM_ss.trans (by rw [bI_f (by omega)]; rfl), eqv.note (Or.inl rfl), 0, rfl, fun q => absurd (show (1 : Int) = 0 from q) (by decide)⟩) | (rw [show sp_edition M a = _ from if_pos (by omega)]; exact ⟨_, hM1, ((MF.rf).tr hF1), rfl, upM_ss.trans (by rw [bI_t (by omega)]; rfl), eqv.note (Or.inl rfl), _, rfl, fun _ => rfl⟩)
def sp_prepaid (M : MS) (f a v : Int) : Int × Int × MS := if 0 ≤ f ∧ f < M 1 0 ∧ 0 ≤ a ∧ a ≤ 9 ∧ 1 ≤ v ∧ v ≤ 1000000000 then (0, M 6 (10 * f + a) + v, upM M 6 (10 * f + a) (M 6 (10 * f + a) + v)) else (1, 0, M)
set_option maxRecDepth 100000 in
set_option maxHeartbeats 4000000 in
theorem c_M_prepaid (l : Launch) (X : am_X) (h : am_H) (nx : Nat) (y : Nat) (M : MS) (f a v : Int) (hM : RepM y M h) (hfl : 0 ≤ M 1 0 ∧ M 1 0 ≤ 20) (rf : -2147483648 ≤ f ∧ f < 2147483648) (ra : -2147483648 ≤ a ∧ a < 2147483648) (rv : -2147483648 ≤ v ∧ v < 2147483648) : Cn l X y_M_prepaid ({ frames := 1, cells := 0, slots := 0, locals := 22 }) [.ref y, iV f, iV a, iV v] h nx (mpost y h nx lV (sp_prepaid M f a v)) := by
  refine cn_of (k := 0) (L0 := [some (.ref y), some (iV f), some (iV a), some (iV v)]) rfl wx_814 (Nat.le_of_ble_eq_true rfl) rfl (fun p e s m args below meth c F => ?_)
  refine v_aload_n (pc' := 1) (j := 0) F d_M_prepaid_0 rfl rfl rfl ?_
  refine v_aload_n (pc' := 2) (j := 0) F d_M_prepaid_1 rfl rfl rfl ?_
  refine v_iload_n (pc' := 3) (j := 1) F d_M_prepaid_2 rfl rfl rfl ?_
  refine v_callVP (pc' := 6) (C := zR_M) (T9 := zF_M) (N := 28) F d_M_prepaid_3 rfl cal_M_isFlat wx_766 wx_768 wp_17 rfl hM.1 (c_M_isFlat l X _ _ _ _ _ hM hfl (by omega)) rfl ⟨by decide, by decide, by decide, by decide⟩ (Nat.le_of_ble_eq_true rfl) rfl rfl ?_
  refine v_zif_eq (tgt := 33) (pc' := 9) F d_M_prepaid_6 (by decide) rfl (fun c6 => ?_) (fun c6 => ?_)
  · refine v_iconst (pc' := 34) F d_M_prepaid_33 rfl ?_
    refine v_iconst (pc' := 35) F d_M_prepaid_34 rfl ?_
    refine v_callVM (pc' := 38) (C := zR_M) (T9 := zF_M) (N := 28) F d_M_prepaid_35 rfl cal_M_allows wx_758 wx_760 wp_16 rfl hM.1 (c_allows_1 l X _ _ _ _ _ hM (by omega)) rfl ⟨by decide, by decide, by decide, by decide⟩ (Nat.le_of_ble_eq_true rfl) rfl rfl (fun h1 hM1 hF1 => ?_)
    refine v_if_ne (tgt := 43) (pc' := 41) F d_M_prepaid_38 (by decide) rfl (by omega) (fun c38 => by exfalso; omega) (fun c38 => ?_)
    refine v_lconst (pc' := 42) (z := 0) F d_M_prepaid_41 rfl (by decide) ?_
    refine v_lreturn F d_M_prepaid_42 rfl (Nat.le_refl _) (Nat.le_refl _) ?_
    first | (rw [show sp_prepaid M f a v = (1, 0, M) from if_neg (by omega)]; exact ⟨_, hM1, ((MF.rf).tr hF1), rfl, upM_ss, eqv.note (Or.inl rfl), 0, rfl, fun q => absurd (show (1 : Int) = 0 from q) (by decide)⟩) | (rw [show sp_prepaid M f a v = _ from if_pos (by omega)]; exact ⟨_, hM1, ((MF.rf).tr hF1), rfl, (by rw [upM_n (by decide)]; exact upM_ss), (eqv.note (Or.inl rfl)).up 6 _ _, _, rfl, fun _ => rfl⟩)
  · refine v_iload_n (pc' := 10) (j := 2) F d_M_prepaid_9 rfl rfl rfl ?_
    refine v_iconst (pc' := 11) F d_M_prepaid_10 rfl ?_
    refine v_bipush (pc' := 13) F d_M_prepaid_11 rfl (by decide) ?_
    refine v_callSP (pc' := 16) F d_M_prepaid_13 rfl cal_M_isIn wx_755 wx_756 (c_M_isIn l X _ _ _ _ _ (by omega) (by omega) (by omega)) rfl ⟨by decide, by decide, by decide, by decide⟩ (Nat.le_of_ble_eq_true rfl) rfl rfl ?_
    refine v_zif_eq (tgt := 33) (pc' := 19) F d_M_prepaid_16 (by decide) rfl (fun c16 => ?_) (fun c16 => ?_)
    · refine v_iconst (pc' := 34) F d_M_prepaid_33 rfl ?_
      refine v_iconst (pc' := 35) F d_M_prepaid_34 rfl ?_
      refine v_callVM (pc' := 38) (C := zR_M) (T9 := zF_M) (N := 28) F d_M_prepaid_35 rfl cal_M_allows wx_758 wx_760 wp_16 rfl hM.1 (c_allows_1 l X _ _ _ _ _ hM (by omega)) rfl ⟨by decide, by decide, by decide, by decide⟩ (Nat.le_of_ble_eq_true rfl) rfl rfl (fun h2 hM2 hF2 => ?_)
      refine v_if_ne (tgt := 43) (pc' := 41) F d_M_prepaid_38 (by decide) rfl (by omega) (fun c38 => by exfalso; omega) (fun c38 => ?_)
      refine v_lconst (pc' := 42) (z := 0) F d_M_prepaid_41 rfl (by decide) ?_
      refine v_lreturn F d_M_prepaid_42 rfl (Nat.le_refl _) (Nat.le_refl _) ?_
      first | (rw [show sp_prepaid M f a v = (1, 0, M) from if_neg (by omega)]; exact ⟨_, hM2, ((MF.rf).tr hF2), rfl, upM_ss, eqv.note (Or.inl rfl), 0, rfl, fun q => absurd (show (1 : Int) = 0 from q) (by decide)⟩) | (rw [show sp_prepaid M f a v = _ from if_pos (by omega)]; exact ⟨_, hM2, ((MF.rf).tr hF2), rfl, (by rw [upM_n (by decide)]; exact upM_ss), (eqv.note (Or.inl rfl)).up 6 _ _, _, rfl, fun _ => rfl⟩)
    · refine v_iload_n (pc' := 20) (j := 3) F d_M_prepaid_19 rfl rfl rfl ?_
      refine v_iconst (pc' := 21) F d_M_prepaid_20 rfl ?_
      refine v_ldc (pc' := 23) (z := 1000000000) F d_M_prepaid_21 rfl wx_802 (by decide) ?_
      refine v_callSP (pc' := 26) F d_M_prepaid_23 rfl cal_M_isIn wx_755 wx_756 (c_M_isIn l X _ _ _ _ _ (by omega) (by omega) (by omega)) rfl ⟨by decide, by decide, by decide, by decide⟩ (Nat.le_of_ble_eq_true rfl) rfl rfl ?_
      refine v_zif_eq (tgt := 33) (pc' := 29) F d_M_prepaid_26 (by decide) rfl (fun c26 => ?_) (fun c26 => ?_)
      · refine v_iconst (pc' := 34) F d_M_prepaid_33 rfl ?_
        refine v_iconst (pc' := 35) F d_M_prepaid_34 rfl ?_
        refine v_callVM (pc' := 38) (C := zR_M) (T9 := zF_M) (N := 28) F d_M_prepaid_35 rfl cal_M_allows wx_758 wx_760 wp_16 rfl hM.1 (c_allows_1 l X _ _ _ _ _ hM (by omega)) rfl ⟨by decide, by decide, by decide, by decide⟩ (Nat.le_of_ble_eq_true rfl) rfl rfl (fun h3 hM3 hF3 => ?_)
        refine v_if_ne (tgt := 43) (pc' := 41) F d_M_prepaid_38 (by decide) rfl (by omega) (fun c38 => by exfalso; omega) (fun c38 => ?_)
        refine v_lconst (pc' := 42) (z := 0) F d_M_prepaid_41 rfl (by decide) ?_
        refine v_lreturn F d_M_prepaid_42 rfl (Nat.le_refl _) (Nat.le_refl _) ?_
        first | (rw [show sp_prepaid M f a v = (1, 0, M) from if_neg (by omega)]; exact ⟨_, hM3, ((MF.rf).tr hF3), rfl, upM_ss, eqv.note (Or.inl rfl), 0, rfl, fun q => absurd (show (1 : Int) = 0 from q) (by decide)⟩) | (rw [show sp_prepaid M f a v = _ from if_pos (by omega)]; exact ⟨_, hM3, ((MF.rf).tr hF3), rfl, (by rw [upM_n (by decide)]; exact upM_ss), (eqv.note (Or.inl rfl)).up 6 _ _, _, rfl, fun _ => rfl⟩)
      · refine v_iconst (pc' := 30) F d_M_prepaid_29 rfl ?_
        refine v_goto (tgt := 34) F d_M_prepaid_30 (by decide) ?_
        refine v_iconst (pc' := 35) F d_M_prepaid_34 rfl ?_
        refine v_callVM (pc' := 38) (C := zR_M) (T9 := zF_M) (N := 28) F d_M_prepaid_35 rfl cal_M_allows wx_758 wx_760 wp_16 rfl hM.1 (c_allows_0 l X _ _ _ _ hM) rfl ⟨by decide, by decide, by decide, by decide⟩ (Nat.le_of_ble_eq_true rfl) rfl rfl (fun h4 hM4 hF4 => ?_)
        refine v_if_ne (tgt := 43) (pc' := 41) F d_M_prepaid_38 (by decide) rfl (by omega) (fun c38 => ?_) (fun c38 => by exfalso; omega)
        refine v_aload_n (pc' := 44) (j := 0) F d_M_prepaid_43 rfl rfl rfl ?_
        refine v_getf (pc' := 47) (C := zR_M) (T := zF_M) (N := 28) (ref := "BillSharesModel") F d_M_prepaid_44 rfl zi_M rfl 6 (by decide) wx_667 (Or.inl rfl) hM4.1 rfl ?_
        refine v_bipush (pc' := 49) F d_M_prepaid_47 rfl (by decide) ?_
        refine v_iload_n (pc' := 50) (j := 1) F d_M_prepaid_49 rfl rfl rfl ?_
        refine v_imul (pc' := 51) F d_M_prepaid_50 rfl ?_
        refine v_iload_n (pc' := 52) (j := 2) F d_M_prepaid_51 rfl rfl rfl ?_
        refine v_iadd (pc' := 53) F d_M_prepaid_52 rfl ?_
        refine v_dup2 (pc' := 54) F d_M_prepaid_53 rfl rfl rfl ?_
        refine mg_6 (pc' := 55) F hM4 d_M_prepaid_54 rfl (by omega) (by omega) ?_
        refine v_unl (by decide) ?_
        refine v_iload_n (pc' := 56) (j := 3) F d_M_prepaid_55 rfl rfl rfl ?_
        refine v_i2l (pc' := 57) F d_M_prepaid_56 rfl (by omega) ?_
        refine v_ladd (pc' := 58) F d_M_prepaid_57 rfl ?_
        refine mp_6 (pc' := 59) F hM4 d_M_prepaid_58 rfl (by omega) (by omega) (fun h5 hM5 hF5 => ?_)
        refine v_aload_n (pc' := 60) (j := 0) F d_M_prepaid_59 rfl rfl rfl ?_
        refine v_getf (pc' := 63) (C := zR_M) (T := zF_M) (N := 28) (ref := "BillSharesModel") F d_M_prepaid_60 rfl zi_M rfl 6 (by decide) wx_667 (Or.inl rfl) hM5.1 rfl ?_
        refine v_bipush (pc' := 65) F d_M_prepaid_63 rfl (by decide) ?_
        refine v_iload_n (pc' := 66) (j := 1) F d_M_prepaid_65 rfl rfl rfl ?_
        refine v_imul (pc' := 67) F d_M_prepaid_66 rfl ?_
        refine v_iload_n (pc' := 68) (j := 2) F d_M_prepaid_67 rfl rfl rfl ?_
        refine v_iadd (pc' := 69) F d_M_prepaid_68 rfl ?_
        refine mg_6 (pc' := 70) F hM5 d_M_prepaid_69 rfl (by omega) (by omega) ?_
        refine v_usl ?_
        refine v_lreturn F d_M_prepaid_70 rfl (Nat.le_refl _) (Nat.le_refl _) ?_
        first | (rw [show sp_prepaid M f a v = (1, 0, M) from if_neg (by omega)]; exact ⟨_, hM5, ((((MF.rf).tr hF4)).tr hF5), rfl, upM_ss, eqv.note (Or.inl rfl), 0, rfl, fun q => absurd (show (1 : Int) = 0 from q) (by decide)⟩) | (rw [show sp_prepaid M f a v = _ from if_pos (by omega)]; exact ⟨_, hM5, ((((MF.rf).tr hF4)).tr hF5), rfl, (by rw [upM_n (by decide)]; exact upM_ss), (eqv.note (Or.inl rfl)).up 6 _ _, _, rfl, fun _ => rfl⟩)
end
section
/-! flat, meter, moves of the reference (written by wip/whole/mm3.py) -/
def sp_flat (M : MS) (a r : Int) : Int × Int × MS := if 1 ≤ a ∧ a ≤ 1000 ∧ 0 ≤ r ∧ r ≤ 99 then (if M 1 0 < 20 then (0, M 1 0, upM (upM (upM (upM M 2 (M 1 0) a) 3 (M 1 0) r) 4 (M 1 0) 1) 1 0 (M 1 0 + 1)) else (2, 0, M)) else (1, 0, M)
set_option maxRecDepth 100000 in
set_option maxHeartbeats 4000000 in
theorem c_M_flat (l : Launch) (X : am_X) (h : am_H) (nx : Nat) (y : Nat) (M : MS) (a r : Int) (hM : RepM y M h) (hfl : 0 ≤ M 1 0 ∧ M 1 0 ≤ 20) (ra : -2147483648 ≤ a ∧ a < 2147483648) (rr : -2147483648 ≤ r ∧ r < 2147483648) : Cn l X y_M_flat ({ frames := 1, cells := 0, slots := 0, locals := 22 }) [.ref y, iV a, iV r] h nx (mpost y h nx iV (sp_flat M a r)) := by
  refine cn_of (k := 0) (L0 := [some (.ref y), some (iV a), some (iV r)]) rfl wx_754 (Nat.le_of_ble_eq_true rfl) rfl (fun p e s m args below meth c F => ?_)
  refine v_aload_n (pc' := 1) (j := 0) F d_M_flat_0 rfl rfl rfl ?_
  refine v_iload_n (pc' := 2) (j := 1) F d_M_flat_1 rfl rfl rfl ?_
  refine v_iconst (pc' := 3) F d_M_flat_2 rfl ?_
  refine v_sipush (pc' := 6) F d_M_flat_3 rfl (by decide) ?_
  refine v_callSP (pc' := 9) F d_M_flat_6 rfl cal_M_isIn wx_755 wx_756 (c_M_isIn l X _ _ _ _ _ (by omega) (by omega) (by omega)) rfl ⟨by decide, by decide, by decide, by decide⟩ (Nat.le_of_ble_eq_true rfl) rfl rfl ?_
  refine v_zif_eq (tgt := 26) (pc' := 12) F d_M_flat_9 (by decide) rfl (fun c9 => ?_) (fun c9 => ?_)
  · refine v_iconst (pc' := 27) F d_M_flat_26 rfl ?_
    refine v_aload_n (pc' := 28) (j := 0) F d_M_flat_27 rfl rfl rfl ?_
    refine v_getf (pc' := 31) (C := zR_M) (T := zF_M) (N := 28) (ref := "BillSharesModel") F d_M_flat_28 rfl zi_M rfl 1 (by decide) wx_662 (Or.inl rfl) hM.1 rfl ?_
    refine v_bipush (pc' := 33) F d_M_flat_31 rfl (by decide) ?_
    refine v_icmp_ge (tgt := 40) (pc' := 36) F d_M_flat_33 (by decide) rfl (by omega) (by omega) (fun c33 => ?_) (fun c33 => ?_)
    · refine v_iconst (pc' := 41) F d_M_flat_40 rfl ?_
      refine v_callVM (pc' := 44) (C := zR_M) (T9 := zF_M) (N := 28) F d_M_flat_41 rfl cal_M_allows wx_758 wx_760 wp_16 rfl hM.1 (c_allows_1 l X _ _ _ _ _ hM (by omega)) rfl ⟨by decide, by decide, by decide, by decide⟩ (Nat.le_of_ble_eq_true rfl) rfl rfl (fun h1 hM1 hF1 => ?_)
      refine v_if_ne (tgt := 49) (pc' := 47) F d_M_flat_44 (by decide) rfl (by omega) (fun c44 => by exfalso; omega) (fun c44 => ?_)
      refine v_iconst (pc' := 48) F d_M_flat_47 rfl ?_
      refine v_ireturn F rfl d_M_flat_48 rfl rfl (Nat.le_refl _) (Nat.le_refl _) ?_
      first | (rw [show sp_flat M a r = (1, 0, M) from if_neg (by omega)]; exact ⟨_, hM1, ((MF.rf).tr hF1), rfl, upM_ss, eqv.note (Or.inl rfl), 0, rfl, fun q => absurd (show (1 : Int) = 0 from q) (by decide)⟩) | (rw [show sp_flat M a r = (2, 0, M) from (if_pos (by omega)).trans (if_neg (by omega))]; exact ⟨_, hM1, ((MF.rf).tr hF1), rfl, upM_ss, eqv.note (Or.inl rfl), 0, rfl, fun q => absurd (show (2 : Int) = 0 from q) (by decide)⟩) | (rw [show sp_flat M a r = _ from (if_pos (by omega)).trans (if_pos (by omega))]; exact ⟨_, hM1, ((MF.rf).tr hF1), rfl, (by rw [upM_n (by decide)]; rw [upM_n (by decide)]; rw [upM_n (by decide)]; rw [upM_n (by decide)]; exact upM_ss), ((((eqv.note (Or.inl rfl)).up 2 _ _).up 3 _ _).up 4 _ _).up 1 _ _, _, rfl, fun _ => (by show M 1 0 + 1 - 1 = M 1 0; omega)⟩)
    · refine v_iconst (pc' := 37) F d_M_flat_36 rfl ?_
      refine v_goto (tgt := 41) F d_M_flat_37 (by decide) ?_
      refine v_callVM (pc' := 44) (C := zR_M) (T9 := zF_M) (N := 28) F d_M_flat_41 rfl cal_M_allows wx_758 wx_760 wp_16 rfl hM.1 (c_allows_1 l X _ _ _ _ _ hM (by omega)) rfl ⟨by decide, by decide, by decide, by decide⟩ (Nat.le_of_ble_eq_true rfl) rfl rfl (fun h2 hM2 hF2 => ?_)
      refine v_if_ne (tgt := 49) (pc' := 47) F d_M_flat_44 (by decide) rfl (by omega) (fun c44 => by exfalso; omega) (fun c44 => ?_)
      refine v_iconst (pc' := 48) F d_M_flat_47 rfl ?_
      refine v_ireturn F rfl d_M_flat_48 rfl rfl (Nat.le_refl _) (Nat.le_refl _) ?_
      first | (rw [show sp_flat M a r = (1, 0, M) from if_neg (by omega)]; exact ⟨_, hM2, ((MF.rf).tr hF2), rfl, upM_ss, eqv.note (Or.inl rfl), 0, rfl, fun q => absurd (show (1 : Int) = 0 from q) (by decide)⟩) | (rw [show sp_flat M a r = (2, 0, M) from (if_pos (by omega)).trans (if_neg (by omega))]; exact ⟨_, hM2, ((MF.rf).tr hF2), rfl, upM_ss, eqv.note (Or.inl rfl), 0, rfl, fun q => absurd (show (2 : Int) = 0 from q) (by decide)⟩) | (rw [show sp_flat M a r = _ from (if_pos (by omega)).trans (if_pos (by omega))]; exact ⟨_, hM2, ((MF.rf).tr hF2), rfl, (by rw [upM_n (by decide)]; rw [upM_n (by decide)]; rw [upM_n (by decide)]; rw [upM_n (by decide)]; exact upM_ss), ((((eqv.note (Or.inl rfl)).up 2 _ _).up 3 _ _).up 4 _ _).up 1 _ _, _, rfl, fun _ => (by show M 1 0 + 1 - 1 = M 1 0; omega)⟩)
  · refine v_iload_n (pc' := 13) (j := 2) F d_M_flat_12 rfl rfl rfl ?_
    refine v_iconst (pc' := 14) F d_M_flat_13 rfl ?_
    refine v_bipush (pc' := 16) F d_M_flat_14 rfl (by decide) ?_
    refine v_callSP (pc' := 19) F d_M_flat_16 rfl cal_M_isIn wx_755 wx_756 (c_M_isIn l X _ _ _ _ _ (by omega) (by omega) (by omega)) rfl ⟨by decide, by decide, by decide, by decide⟩ (Nat.le_of_ble_eq_true rfl) rfl rfl ?_
    refine v_zif_eq (tgt := 26) (pc' := 22) F d_M_flat_19 (by decide) rfl (fun c19 => ?_) (fun c19 => ?_)
    · refine v_iconst (pc' := 27) F d_M_flat_26 rfl ?_
      refine v_aload_n (pc' := 28) (j := 0) F d_M_flat_27 rfl rfl rfl ?_
      refine v_getf (pc' := 31) (C := zR_M) (T := zF_M) (N := 28) (ref := "BillSharesModel") F d_M_flat_28 rfl zi_M rfl 1 (by decide) wx_662 (Or.inl rfl) hM.1 rfl ?_
      refine v_bipush (pc' := 33) F d_M_flat_31 rfl (by decide) ?_
      refine v_icmp_ge (tgt := 40) (pc' := 36) F d_M_flat_33 (by decide) rfl (by omega) (by omega) (fun c33 => ?_) (fun c33 => ?_)
      · refine v_iconst (pc' := 41) F d_M_flat_40 rfl ?_
        refine v_callVM (pc' := 44) (C := zR_M) (T9 := zF_M) (N := 28) F d_M_flat_41 rfl cal_M_allows wx_758 wx_760 wp_16 rfl hM.1 (c_allows_1 l X _ _ _ _ _ hM (by omega)) rfl ⟨by decide, by decide, by decide, by decide⟩ (Nat.le_of_ble_eq_true rfl) rfl rfl (fun h3 hM3 hF3 => ?_)
        refine v_if_ne (tgt := 49) (pc' := 47) F d_M_flat_44 (by decide) rfl (by omega) (fun c44 => by exfalso; omega) (fun c44 => ?_)
        refine v_iconst (pc' := 48) F d_M_flat_47 rfl ?_
        refine v_ireturn F rfl d_M_flat_48 rfl rfl (Nat.le_refl _) (Nat.le_refl _) ?_
        first | (rw [show sp_flat M a r = (1, 0, M) from if_neg (by omega)]; exact ⟨_, hM3, ((MF.rf).tr hF3), rfl, upM_ss, eqv.note (Or.inl rfl), 0, rfl, fun q => absurd (show (1 : Int) = 0 from q) (by decide)⟩) | (rw [show sp_flat M a r = (2, 0, M) from (if_pos (by omega)).trans (if_neg (by omega))]; exact ⟨_, hM3, ((MF.rf).tr hF3), rfl, upM_ss, eqv.note (Or.inl rfl), 0, rfl, fun q => absurd (show (2 : Int) = 0 from q) (by decide)⟩) | (rw [show sp_flat M a r = _ from (if_pos (by omega)).trans (if_pos (by omega))]; exact ⟨_, hM3, ((MF.rf).tr hF3), rfl, (by rw [upM_n (by decide)]; rw [upM_n (by decide)]; rw [upM_n (by decide)]; rw [upM_n (by decide)]; exact upM_ss), ((((eqv.note (Or.inl rfl)).up 2 _ _).up 3 _ _).up 4 _ _).up 1 _ _, _, rfl, fun _ => (by show M 1 0 + 1 - 1 = M 1 0; omega)⟩)
      · refine v_iconst (pc' := 37) F d_M_flat_36 rfl ?_
        refine v_goto (tgt := 41) F d_M_flat_37 (by decide) ?_
        refine v_callVM (pc' := 44) (C := zR_M) (T9 := zF_M) (N := 28) F d_M_flat_41 rfl cal_M_allows wx_758 wx_760 wp_16 rfl hM.1 (c_allows_1 l X _ _ _ _ _ hM (by omega)) rfl ⟨by decide, by decide, by decide, by decide⟩ (Nat.le_of_ble_eq_true rfl) rfl rfl (fun h4 hM4 hF4 => ?_)
        refine v_if_ne (tgt := 49) (pc' := 47) F d_M_flat_44 (by decide) rfl (by omega) (fun c44 => by exfalso; omega) (fun c44 => ?_)
        refine v_iconst (pc' := 48) F d_M_flat_47 rfl ?_
        refine v_ireturn F rfl d_M_flat_48 rfl rfl (Nat.le_refl _) (Nat.le_refl _) ?_
        first | (rw [show sp_flat M a r = (1, 0, M) from if_neg (by omega)]; exact ⟨_, hM4, ((MF.rf).tr hF4), rfl, upM_ss, eqv.note (Or.inl rfl), 0, rfl, fun q => absurd (show (1 : Int) = 0 from q) (by decide)⟩) | (rw [show sp_flat M a r = (2, 0, M) from (if_pos (by omega)).trans (if_neg (by omega))]; exact ⟨_, hM4, ((MF.rf).tr hF4), rfl, upM_ss, eqv.note (Or.inl rfl), 0, rfl, fun q => absurd (show (2 : Int) = 0 from q) (by decide)⟩) | (rw [show sp_flat M a r = _ from (if_pos (by omega)).trans (if_pos (by omega))]; exact ⟨_, hM4, ((MF.rf).tr hF4), rfl, (by rw [upM_n (by decide)]; rw [upM_n (by decide)]; rw [upM_n (by decide)]; rw [upM_n (by decide)]; exact upM_ss), ((((eqv.note (Or.inl rfl)).up 2 _ _).up 3 _ _).up 4 _ _).up 1 _ _, _, rfl, fun _ => (by show M 1 0 + 1 - 1 = M 1 0; omega)⟩)
    · refine v_iconst (pc' := 23) F d_M_flat_22 rfl ?_
      refine v_goto (tgt := 27) F d_M_flat_23 (by decide) ?_
      refine v_aload_n (pc' := 28) (j := 0) F d_M_flat_27 rfl rfl rfl ?_
      refine v_getf (pc' := 31) (C := zR_M) (T := zF_M) (N := 28) (ref := "BillSharesModel") F d_M_flat_28 rfl zi_M rfl 1 (by decide) wx_662 (Or.inl rfl) hM.1 rfl ?_
      refine v_bipush (pc' := 33) F d_M_flat_31 rfl (by decide) ?_
      refine v_icmp_ge (tgt := 40) (pc' := 36) F d_M_flat_33 (by decide) rfl (by omega) (by omega) (fun c33 => ?_) (fun c33 => ?_)
      · refine v_iconst (pc' := 41) F d_M_flat_40 rfl ?_
        refine v_callVM (pc' := 44) (C := zR_M) (T9 := zF_M) (N := 28) F d_M_flat_41 rfl cal_M_allows wx_758 wx_760 wp_16 rfl hM.1 (c_allows_2 l X _ _ _ _ hM) rfl ⟨by decide, by decide, by decide, by decide⟩ (Nat.le_of_ble_eq_true rfl) rfl rfl (fun h5 hM5 hF5 => ?_)
        refine v_if_ne (tgt := 49) (pc' := 47) F d_M_flat_44 (by decide) rfl (by omega) (fun c44 => by exfalso; omega) (fun c44 => ?_)
        refine v_iconst (pc' := 48) F d_M_flat_47 rfl ?_
        refine v_ireturn F rfl d_M_flat_48 rfl rfl (Nat.le_refl _) (Nat.le_refl _) ?_
        first | (rw [show sp_flat M a r = (1, 0, M) from if_neg (by omega)]; exact ⟨_, hM5, ((MF.rf).tr hF5), rfl, upM_ss, eqv.note (Or.inl rfl), 0, rfl, fun q => absurd (show (1 : Int) = 0 from q) (by decide)⟩) | (rw [show sp_flat M a r = (2, 0, M) from (if_pos (by omega)).trans (if_neg (by omega))]; exact ⟨_, hM5, ((MF.rf).tr hF5), rfl, upM_ss, eqv.note (Or.inl rfl), 0, rfl, fun q => absurd (show (2 : Int) = 0 from q) (by decide)⟩) | (rw [show sp_flat M a r = _ from (if_pos (by omega)).trans (if_pos (by omega))]; exact ⟨_, hM5, ((MF.rf).tr hF5), rfl, (by rw [upM_n (by decide)]; rw [upM_n (by decide)]; rw [upM_n (by decide)]; rw [upM_n (by decide)]; exact upM_ss), ((((eqv.note (Or.inl rfl)).up 2 _ _).up 3 _ _).up 4 _ _).up 1 _ _, _, rfl, fun _ => (by show M 1 0 + 1 - 1 = M 1 0; omega)⟩)
      · refine v_iconst (pc' := 37) F d_M_flat_36 rfl ?_
        refine v_goto (tgt := 41) F d_M_flat_37 (by decide) ?_
        refine v_callVM (pc' := 44) (C := zR_M) (T9 := zF_M) (N := 28) F d_M_flat_41 rfl cal_M_allows wx_758 wx_760 wp_16 rfl hM.1 (c_allows_0 l X _ _ _ _ hM) rfl ⟨by decide, by decide, by decide, by decide⟩ (Nat.le_of_ble_eq_true rfl) rfl rfl (fun h6 hM6 hF6 => ?_)
        refine v_if_ne (tgt := 49) (pc' := 47) F d_M_flat_44 (by decide) rfl (by omega) (fun c44 => ?_) (fun c44 => by exfalso; omega)
        refine v_aload_n (pc' := 50) (j := 0) F d_M_flat_49 rfl rfl rfl ?_
        refine v_getf (pc' := 53) (C := zR_M) (T := zF_M) (N := 28) (ref := "BillSharesModel") F d_M_flat_50 rfl zi_M rfl 2 (by decide) wx_663 (Or.inl rfl) hM6.1 rfl ?_
        refine v_aload_n (pc' := 54) (j := 0) F d_M_flat_53 rfl rfl rfl ?_
        refine v_getf (pc' := 57) (C := zR_M) (T := zF_M) (N := 28) (ref := "BillSharesModel") F d_M_flat_54 rfl zi_M rfl 1 (by decide) wx_662 (Or.inl rfl) hM6.1 rfl ?_
        refine v_un (by decide) ?_
        refine v_iload_n (pc' := 58) (j := 1) F d_M_flat_57 rfl rfl rfl ?_
        refine mp_2 (pc' := 59) F hM6 d_M_flat_58 rfl (by omega) (by omega) (fun h7 hM7 hF7 => ?_)
        refine v_aload_n (pc' := 60) (j := 0) F d_M_flat_59 rfl rfl rfl ?_
        refine v_getf (pc' := 63) (C := zR_M) (T := zF_M) (N := 28) (ref := "BillSharesModel") F d_M_flat_60 rfl zi_M rfl 3 (by decide) wx_664 (Or.inl rfl) hM7.1 rfl ?_
        refine v_aload_n (pc' := 64) (j := 0) F d_M_flat_63 rfl rfl rfl ?_
        refine v_getf (pc' := 67) (C := zR_M) (T := zF_M) (N := 28) (ref := "BillSharesModel") F d_M_flat_64 rfl zi_M rfl 1 (by decide) wx_662 (Or.inl rfl) hM7.1 rfl ?_
        refine v_un (by decide) ?_
        refine v_un (by decide) ?_
        refine v_iload_n (pc' := 68) (j := 2) F d_M_flat_67 rfl rfl rfl ?_
        refine mp_3 (pc' := 69) F hM7 d_M_flat_68 rfl (by omega) (by omega) (fun h8 hM8 hF8 => ?_)
        refine v_aload_n (pc' := 70) (j := 0) F d_M_flat_69 rfl rfl rfl ?_
        refine v_getf (pc' := 73) (C := zR_M) (T := zF_M) (N := 28) (ref := "BillSharesModel") F d_M_flat_70 rfl zi_M rfl 4 (by decide) wx_665 (Or.inl rfl) hM8.1 rfl ?_
        refine v_aload_n (pc' := 74) (j := 0) F d_M_flat_73 rfl rfl rfl ?_
        refine v_getf (pc' := 77) (C := zR_M) (T := zF_M) (N := 28) (ref := "BillSharesModel") F d_M_flat_74 rfl zi_M rfl 1 (by decide) wx_662 (Or.inl rfl) hM8.1 rfl ?_
        refine v_un (by decide) ?_
        refine v_un (by decide) ?_
        refine v_un (by decide) ?_
        refine v_iconst (pc' := 78) F d_M_flat_77 rfl ?_
        refine mp_4 (pc' := 79) F hM8 d_M_flat_78 rfl (by omega) (by omega) (fun h9 hM9 hF9 => ?_)
        refine v_aload_n (pc' := 80) (j := 0) F d_M_flat_79 rfl rfl rfl ?_
        refine v_dup (pc' := 81) F d_M_flat_80 rfl rfl ?_
        refine v_getf (pc' := 84) (C := zR_M) (T := zF_M) (N := 28) (ref := "BillSharesModel") F d_M_flat_81 rfl zi_M rfl 1 (by decide) wx_662 (Or.inl rfl) hM9.1 rfl ?_
        refine v_un (by decide) ?_
        refine v_un (by decide) ?_
        refine v_un (by decide) ?_
        refine v_un (by decide) ?_
        refine v_iconst (pc' := 85) F d_M_flat_84 rfl ?_
        refine v_iadd (pc' := 86) F d_M_flat_85 rfl ?_
        refine mp_1 (pc' := 89) F hM9 d_M_flat_86 rfl wx_662 (fun h10 hM10 hF10 => ?_)
        refine v_aload_n (pc' := 90) (j := 0) F d_M_flat_89 rfl rfl rfl ?_
        refine v_getf (pc' := 93) (C := zR_M) (T := zF_M) (N := 28) (ref := "BillSharesModel") F d_M_flat_90 rfl zi_M rfl 1 (by decide) wx_662 (Or.inl rfl) hM10.1 rfl ?_
        refine v_us ?_
        refine v_iconst (pc' := 94) F d_M_flat_93 rfl ?_
        refine v_isub (pc' := 95) F d_M_flat_94 rfl ?_
        refine v_ireturn F rfl d_M_flat_95 rfl rfl (Nat.le_refl _) (Nat.le_refl _) ?_
        first | (rw [show sp_flat M a r = (1, 0, M) from if_neg (by omega)]; exact ⟨_, hM10, ((((((((((MF.rf).tr hF6)).tr hF7)).tr hF8)).tr hF9)).tr hF10), rfl, upM_ss, eqv.note (Or.inl rfl), 0, rfl, fun q => absurd (show (1 : Int) = 0 from q) (by decide)⟩) | (rw [show sp_flat M a r = (2, 0, M) from (if_pos (by omega)).trans (if_neg (by omega))]; exact ⟨_, hM10, ((((((((((MF.rf).tr hF6)).tr hF7)).tr hF8)).tr hF9)).tr hF10), rfl, upM_ss, eqv.note (Or.inl rfl), 0, rfl, fun q => absurd (show (2 : Int) = 0 from q) (by decide)⟩) | (rw [show sp_flat M a r = _ from (if_pos (by omega)).trans (if_pos (by omega))]; exact ⟨_, hM10, ((((((((((MF.rf).tr hF6)).tr hF7)).tr hF8)).tr hF9)).tr hF10), rfl, (by rw [upM_n (by decide)]; rw [upM_n (by decide)]; rw [upM_n (by decide)]; rw [upM_n (by decide)]; exact upM_ss), ((((eqv.note (Or.inl rfl)).up 2 _ _).up 3 _ _).up 4 _ _).up 1 _ _, _, rfl, fun _ => (by show M 1 0 + 1 - 1 = M 1 0; omega)⟩)
def sp_meter (M : MS) (f k a b t : Int) : Int × Int × MS := if 0 ≤ f ∧ f < M 1 0 ∧ 0 ≤ k ∧ k ≤ 3 ∧ 1 ≤ a ∧ a ≤ 1000 ∧ 1 ≤ b ∧ b ≤ 1000 ∧ 0 ≤ t ∧ t ≤ 3649 then (if M 7 0 < 60 then (0, M 7 0, upM (upM (upM (upM (upM (upM M 8 (M 7 0) f) 9 (M 7 0) k) 10 (M 7 0) a) 11 (M 7 0) b) 12 (M 7 0) t) 7 0 (M 7 0 + 1)) else (2, 0, M)) else (1, 0, M)
set_option maxRecDepth 100000 in
set_option maxHeartbeats 4000000 in
theorem c_M_meter (l : Launch) (X : am_X) (h : am_H) (nx : Nat) (y : Nat) (M : MS) (f k a b t : Int) (hM : RepM y M h) (hfl : 0 ≤ M 1 0 ∧ M 1 0 ≤ 20) (hme : 0 ≤ M 7 0 ∧ M 7 0 ≤ 60) (rf : -2147483648 ≤ f ∧ f < 2147483648) (rk : -2147483648 ≤ k ∧ k < 2147483648) (ra : -2147483648 ≤ a ∧ a < 2147483648) (rb : -2147483648 ≤ b ∧ b < 2147483648) (rt : -2147483648 ≤ t ∧ t < 2147483648) : Cn l X y_M_meter ({ frames := 1, cells := 0, slots := 0, locals := 22 }) [.ref y, iV f, iV k, iV a, iV b, iV t] h nx (mpost y h nx iV (sp_meter M f k a b t)) := by
  refine cn_of (k := 1) (L0 := [some (.ref y), some (iV f), some (iV k), some (iV a), some (iV b), some (iV t), none]) rfl wx_765 (Nat.le_of_ble_eq_true rfl) rfl (fun p e s m args below meth c F => ?_)
  refine v_aload_n (pc' := 1) (j := 0) F d_M_meter_0 rfl rfl rfl ?_
  refine v_iload_n (pc' := 2) (j := 1) F d_M_meter_1 rfl rfl rfl ?_
  refine v_callVP (pc' := 5) (C := zR_M) (T9 := zF_M) (N := 28) F d_M_meter_2 rfl cal_M_isFlat wx_766 wx_768 wp_17 rfl hM.1 (c_M_isFlat l X _ _ _ _ _ hM hfl (by omega)) rfl ⟨by decide, by decide, by decide, by decide⟩ (Nat.le_of_ble_eq_true rfl) rfl rfl ?_
  refine v_zif_eq (tgt := 56) (pc' := 8) F d_M_meter_5 (by decide) rfl (fun c5 => ?_) (fun c5 => ?_)
  · refine v_iconst (pc' := 57) F d_M_meter_56 rfl ?_
    refine v_istore_6 (pc' := 59) F d_M_meter_57 rfl rfl (by decide) ?_
    refine v_aload_n (pc' := 60) (j := 0) F d_M_meter_59 rfl rfl rfl ?_
    refine v_iload (pc' := 62) F d_M_meter_60 rfl rfl ?_
    refine v_aload_n (pc' := 63) (j := 0) F d_M_meter_62 rfl rfl rfl ?_
    refine v_getf (pc' := 66) (C := zR_M) (T := zF_M) (N := 28) (ref := "BillSharesModel") F d_M_meter_63 rfl zi_M rfl 7 (by decide) wx_668 (Or.inl rfl) hM.1 rfl ?_
    refine v_bipush (pc' := 68) F d_M_meter_66 rfl (by decide) ?_
    refine v_icmp_ge (tgt := 75) (pc' := 71) F d_M_meter_68 (by decide) rfl (by omega) (by omega) (fun c68 => ?_) (fun c68 => ?_)
    · refine v_iconst (pc' := 76) F d_M_meter_75 rfl ?_
      refine v_callVM (pc' := 79) (C := zR_M) (T9 := zF_M) (N := 28) F d_M_meter_76 rfl cal_M_allows wx_758 wx_760 wp_16 rfl hM.1 (c_allows_1 l X _ _ _ _ _ hM (by omega)) rfl ⟨by decide, by decide, by decide, by decide⟩ (Nat.le_of_ble_eq_true rfl) rfl rfl (fun h1 hM1 hF1 => ?_)
      refine v_if_ne (tgt := 84) (pc' := 82) F d_M_meter_79 (by decide) rfl (by omega) (fun c79 => by exfalso; omega) (fun c79 => ?_)
      refine v_iconst (pc' := 83) F d_M_meter_82 rfl ?_
      refine v_ireturn F rfl d_M_meter_83 rfl rfl (Nat.le_refl _) (Nat.le_refl _) ?_
      first | (rw [show sp_meter M f k a b t = (1, 0, M) from if_neg (by omega)]; exact ⟨_, hM1, ((MF.rf).tr hF1), rfl, upM_ss, eqv.note (Or.inl rfl), 0, rfl, fun q => absurd (show (1 : Int) = 0 from q) (by decide)⟩) | (rw [show sp_meter M f k a b t = (2, 0, M) from (if_pos (by omega)).trans (if_neg (by omega))]; exact ⟨_, hM1, ((MF.rf).tr hF1), rfl, upM_ss, eqv.note (Or.inl rfl), 0, rfl, fun q => absurd (show (2 : Int) = 0 from q) (by decide)⟩) | (rw [show sp_meter M f k a b t = _ from (if_pos (by omega)).trans (if_pos (by omega))]; exact ⟨_, hM1, ((MF.rf).tr hF1), rfl, (by rw [upM_n (by decide)]; rw [upM_n (by decide)]; rw [upM_n (by decide)]; rw [upM_n (by decide)]; rw [upM_n (by decide)]; rw [upM_n (by decide)]; exact upM_ss), ((((((eqv.note (Or.inl rfl)).up 8 _ _).up 9 _ _).up 10 _ _).up 11 _ _).up 12 _ _).up 7 _ _, _, rfl, fun _ => (by show M 7 0 + 1 - 1 = M 7 0; omega)⟩)
    · refine v_iconst (pc' := 72) F d_M_meter_71 rfl ?_
      refine v_goto (tgt := 76) F d_M_meter_72 (by decide) ?_
      refine v_callVM (pc' := 79) (C := zR_M) (T9 := zF_M) (N := 28) F d_M_meter_76 rfl cal_M_allows wx_758 wx_760 wp_16 rfl hM.1 (c_allows_1 l X _ _ _ _ _ hM (by omega)) rfl ⟨by decide, by decide, by decide, by decide⟩ (Nat.le_of_ble_eq_true rfl) rfl rfl (fun h2 hM2 hF2 => ?_)
      refine v_if_ne (tgt := 84) (pc' := 82) F d_M_meter_79 (by decide) rfl (by omega) (fun c79 => by exfalso; omega) (fun c79 => ?_)
      refine v_iconst (pc' := 83) F d_M_meter_82 rfl ?_
      refine v_ireturn F rfl d_M_meter_83 rfl rfl (Nat.le_refl _) (Nat.le_refl _) ?_
      first | (rw [show sp_meter M f k a b t = (1, 0, M) from if_neg (by omega)]; exact ⟨_, hM2, ((MF.rf).tr hF2), rfl, upM_ss, eqv.note (Or.inl rfl), 0, rfl, fun q => absurd (show (1 : Int) = 0 from q) (by decide)⟩) | (rw [show sp_meter M f k a b t = (2, 0, M) from (if_pos (by omega)).trans (if_neg (by omega))]; exact ⟨_, hM2, ((MF.rf).tr hF2), rfl, upM_ss, eqv.note (Or.inl rfl), 0, rfl, fun q => absurd (show (2 : Int) = 0 from q) (by decide)⟩) | (rw [show sp_meter M f k a b t = _ from (if_pos (by omega)).trans (if_pos (by omega))]; exact ⟨_, hM2, ((MF.rf).tr hF2), rfl, (by rw [upM_n (by decide)]; rw [upM_n (by decide)]; rw [upM_n (by decide)]; rw [upM_n (by decide)]; rw [upM_n (by decide)]; rw [upM_n (by decide)]; exact upM_ss), ((((((eqv.note (Or.inl rfl)).up 8 _ _).up 9 _ _).up 10 _ _).up 11 _ _).up 12 _ _).up 7 _ _, _, rfl, fun _ => (by show M 7 0 + 1 - 1 = M 7 0; omega)⟩)
  · refine v_iload_n (pc' := 9) (j := 2) F d_M_meter_8 rfl rfl rfl ?_
    refine v_iconst (pc' := 10) F d_M_meter_9 rfl ?_
    refine v_iconst (pc' := 11) F d_M_meter_10 rfl ?_
    refine v_callSP (pc' := 14) F d_M_meter_11 rfl cal_M_isIn wx_755 wx_756 (c_M_isIn l X _ _ _ _ _ (by omega) (by omega) (by omega)) rfl ⟨by decide, by decide, by decide, by decide⟩ (Nat.le_of_ble_eq_true rfl) rfl rfl ?_
    refine v_zif_eq (tgt := 56) (pc' := 17) F d_M_meter_14 (by decide) rfl (fun c14 => ?_) (fun c14 => ?_)
    · refine v_iconst (pc' := 57) F d_M_meter_56 rfl ?_
      refine v_istore_6 (pc' := 59) F d_M_meter_57 rfl rfl (by decide) ?_
      refine v_aload_n (pc' := 60) (j := 0) F d_M_meter_59 rfl rfl rfl ?_
      refine v_iload (pc' := 62) F d_M_meter_60 rfl rfl ?_
      refine v_aload_n (pc' := 63) (j := 0) F d_M_meter_62 rfl rfl rfl ?_
      refine v_getf (pc' := 66) (C := zR_M) (T := zF_M) (N := 28) (ref := "BillSharesModel") F d_M_meter_63 rfl zi_M rfl 7 (by decide) wx_668 (Or.inl rfl) hM.1 rfl ?_
      refine v_bipush (pc' := 68) F d_M_meter_66 rfl (by decide) ?_
      refine v_icmp_ge (tgt := 75) (pc' := 71) F d_M_meter_68 (by decide) rfl (by omega) (by omega) (fun c68 => ?_) (fun c68 => ?_)
      · refine v_iconst (pc' := 76) F d_M_meter_75 rfl ?_
        refine v_callVM (pc' := 79) (C := zR_M) (T9 := zF_M) (N := 28) F d_M_meter_76 rfl cal_M_allows wx_758 wx_760 wp_16 rfl hM.1 (c_allows_1 l X _ _ _ _ _ hM (by omega)) rfl ⟨by decide, by decide, by decide, by decide⟩ (Nat.le_of_ble_eq_true rfl) rfl rfl (fun h3 hM3 hF3 => ?_)
        refine v_if_ne (tgt := 84) (pc' := 82) F d_M_meter_79 (by decide) rfl (by omega) (fun c79 => by exfalso; omega) (fun c79 => ?_)
        refine v_iconst (pc' := 83) F d_M_meter_82 rfl ?_
        refine v_ireturn F rfl d_M_meter_83 rfl rfl (Nat.le_refl _) (Nat.le_refl _) ?_
        first | (rw [show sp_meter M f k a b t = (1, 0, M) from if_neg (by omega)]; exact ⟨_, hM3, ((MF.rf).tr hF3), rfl, upM_ss, eqv.note (Or.inl rfl), 0, rfl, fun q => absurd (show (1 : Int) = 0 from q) (by decide)⟩) | (rw [show sp_meter M f k a b t = (2, 0, M) from (if_pos (by omega)).trans (if_neg (by omega))]; exact ⟨_, hM3, ((MF.rf).tr hF3), rfl, upM_ss, eqv.note (Or.inl rfl), 0, rfl, fun q => absurd (show (2 : Int) = 0 from q) (by decide)⟩) | (rw [show sp_meter M f k a b t = _ from (if_pos (by omega)).trans (if_pos (by omega))]; exact ⟨_, hM3, ((MF.rf).tr hF3), rfl, (by rw [upM_n (by decide)]; rw [upM_n (by decide)]; rw [upM_n (by decide)]; rw [upM_n (by decide)]; rw [upM_n (by decide)]; rw [upM_n (by decide)]; exact upM_ss), ((((((eqv.note (Or.inl rfl)).up 8 _ _).up 9 _ _).up 10 _ _).up 11 _ _).up 12 _ _).up 7 _ _, _, rfl, fun _ => (by show M 7 0 + 1 - 1 = M 7 0; omega)⟩)
      · refine v_iconst (pc' := 72) F d_M_meter_71 rfl ?_
        refine v_goto (tgt := 76) F d_M_meter_72 (by decide) ?_
        refine v_callVM (pc' := 79) (C := zR_M) (T9 := zF_M) (N := 28) F d_M_meter_76 rfl cal_M_allows wx_758 wx_760 wp_16 rfl hM.1 (c_allows_1 l X _ _ _ _ _ hM (by omega)) rfl ⟨by decide, by decide, by decide, by decide⟩ (Nat.le_of_ble_eq_true rfl) rfl rfl (fun h4 hM4 hF4 => ?_)
        refine v_if_ne (tgt := 84) (pc' := 82) F d_M_meter_79 (by decide) rfl (by omega) (fun c79 => by exfalso; omega) (fun c79 => ?_)
        refine v_iconst (pc' := 83) F d_M_meter_82 rfl ?_
        refine v_ireturn F rfl d_M_meter_83 rfl rfl (Nat.le_refl _) (Nat.le_refl _) ?_
        first | (rw [show sp_meter M f k a b t = (1, 0, M) from if_neg (by omega)]; exact ⟨_, hM4, ((MF.rf).tr hF4), rfl, upM_ss, eqv.note (Or.inl rfl), 0, rfl, fun q => absurd (show (1 : Int) = 0 from q) (by decide)⟩) | (rw [show sp_meter M f k a b t = (2, 0, M) from (if_pos (by omega)).trans (if_neg (by omega))]; exact ⟨_, hM4, ((MF.rf).tr hF4), rfl, upM_ss, eqv.note (Or.inl rfl), 0, rfl, fun q => absurd (show (2 : Int) = 0 from q) (by decide)⟩) | (rw [show sp_meter M f k a b t = _ from (if_pos (by omega)).trans (if_pos (by omega))]; exact ⟨_, hM4, ((MF.rf).tr hF4), rfl, (by rw [upM_n (by decide)]; rw [upM_n (by decide)]; rw [upM_n (by decide)]; rw [upM_n (by decide)]; rw [upM_n (by decide)]; rw [upM_n (by decide)]; exact upM_ss), ((((((eqv.note (Or.inl rfl)).up 8 _ _).up 9 _ _).up 10 _ _).up 11 _ _).up 12 _ _).up 7 _ _, _, rfl, fun _ => (by show M 7 0 + 1 - 1 = M 7 0; omega)⟩)
    · refine v_iload_n (pc' := 18) (j := 3) F d_M_meter_17 rfl rfl rfl ?_
      refine v_iconst (pc' := 19) F d_M_meter_18 rfl ?_
      refine v_sipush (pc' := 22) F d_M_meter_19 rfl (by decide) ?_
      refine v_callSP (pc' := 25) F d_M_meter_22 rfl cal_M_isIn wx_755 wx_756 (c_M_isIn l X _ _ _ _ _ (by omega) (by omega) (by omega)) rfl ⟨by decide, by decide, by decide, by decide⟩ (Nat.le_of_ble_eq_true rfl) rfl rfl ?_
      refine v_zif_eq (tgt := 56) (pc' := 28) F d_M_meter_25 (by decide) rfl (fun c25 => ?_) (fun c25 => ?_)
      · refine v_iconst (pc' := 57) F d_M_meter_56 rfl ?_
        refine v_istore_6 (pc' := 59) F d_M_meter_57 rfl rfl (by decide) ?_
        refine v_aload_n (pc' := 60) (j := 0) F d_M_meter_59 rfl rfl rfl ?_
        refine v_iload (pc' := 62) F d_M_meter_60 rfl rfl ?_
        refine v_aload_n (pc' := 63) (j := 0) F d_M_meter_62 rfl rfl rfl ?_
        refine v_getf (pc' := 66) (C := zR_M) (T := zF_M) (N := 28) (ref := "BillSharesModel") F d_M_meter_63 rfl zi_M rfl 7 (by decide) wx_668 (Or.inl rfl) hM.1 rfl ?_
        refine v_bipush (pc' := 68) F d_M_meter_66 rfl (by decide) ?_
        refine v_icmp_ge (tgt := 75) (pc' := 71) F d_M_meter_68 (by decide) rfl (by omega) (by omega) (fun c68 => ?_) (fun c68 => ?_)
        · refine v_iconst (pc' := 76) F d_M_meter_75 rfl ?_
          refine v_callVM (pc' := 79) (C := zR_M) (T9 := zF_M) (N := 28) F d_M_meter_76 rfl cal_M_allows wx_758 wx_760 wp_16 rfl hM.1 (c_allows_1 l X _ _ _ _ _ hM (by omega)) rfl ⟨by decide, by decide, by decide, by decide⟩ (Nat.le_of_ble_eq_true rfl) rfl rfl (fun h5 hM5 hF5 => ?_)
          refine v_if_ne (tgt := 84) (pc' := 82) F d_M_meter_79 (by decide) rfl (by omega) (fun c79 => by exfalso; omega) (fun c79 => ?_)
          refine v_iconst (pc' := 83) F d_M_meter_82 rfl ?_
          refine v_ireturn F rfl d_M_meter_83 rfl rfl (Nat.le_refl _) (Nat.le_refl _) ?_
          first | (rw [show sp_meter M f k a b t = (1, 0, M) from if_neg (by omega)]; exact ⟨_, hM5, ((MF.rf).tr hF5), rfl, upM_ss, eqv.note (Or.inl rfl), 0, rfl, fun q => absurd (show (1 : Int) = 0 from q) (by decide)⟩) | (rw [show sp_meter M f k a b t = (2, 0, M) from (if_pos (by omega)).trans (if_neg (by omega))]; exact ⟨_, hM5, ((MF.rf).tr hF5), rfl, upM_ss, eqv.note (Or.inl rfl), 0, rfl, fun q => absurd (show (2 : Int) = 0 from q) (by decide)⟩) | (rw [show sp_meter M f k a b t = _ from (if_pos (by omega)).trans (if_pos (by omega))]; exact ⟨_, hM5, ((MF.rf).tr hF5), rfl, (by rw [upM_n (by decide)]; rw [upM_n (by decide)]; rw [upM_n (by decide)]; rw [upM_n (by decide)]; rw [upM_n (by decide)]; rw [upM_n (by decide)]; exact upM_ss), ((((((eqv.note (Or.inl rfl)).up 8 _ _).up 9 _ _).up 10 _ _).up 11 _ _).up 12 _ _).up 7 _ _, _, rfl, fun _ => (by show M 7 0 + 1 - 1 = M 7 0; omega)⟩)
        · refine v_iconst (pc' := 72) F d_M_meter_71 rfl ?_
          refine v_goto (tgt := 76) F d_M_meter_72 (by decide) ?_
          refine v_callVM (pc' := 79) (C := zR_M) (T9 := zF_M) (N := 28) F d_M_meter_76 rfl cal_M_allows wx_758 wx_760 wp_16 rfl hM.1 (c_allows_1 l X _ _ _ _ _ hM (by omega)) rfl ⟨by decide, by decide, by decide, by decide⟩ (Nat.le_of_ble_eq_true rfl) rfl rfl (fun h6 hM6 hF6 => ?_)
          refine v_if_ne (tgt := 84) (pc' := 82) F d_M_meter_79 (by decide) rfl (by omega) (fun c79 => by exfalso; omega) (fun c79 => ?_)
          refine v_iconst (pc' := 83) F d_M_meter_82 rfl ?_
          refine v_ireturn F rfl d_M_meter_83 rfl rfl (Nat.le_refl _) (Nat.le_refl _) ?_
          first | (rw [show sp_meter M f k a b t = (1, 0, M) from if_neg (by omega)]; exact ⟨_, hM6, ((MF.rf).tr hF6), rfl, upM_ss, eqv.note (Or.inl rfl), 0, rfl, fun q => absurd (show (1 : Int) = 0 from q) (by decide)⟩) | (rw [show sp_meter M f k a b t = (2, 0, M) from (if_pos (by omega)).trans (if_neg (by omega))]; exact ⟨_, hM6, ((MF.rf).tr hF6), rfl, upM_ss, eqv.note (Or.inl rfl), 0, rfl, fun q => absurd (show (2 : Int) = 0 from q) (by decide)⟩) | (rw [show sp_meter M f k a b t = _ from (if_pos (by omega)).trans (if_pos (by omega))]; exact ⟨_, hM6, ((MF.rf).tr hF6), rfl, (by rw [upM_n (by decide)]; rw [upM_n (by decide)]; rw [upM_n (by decide)]; rw [upM_n (by decide)]; rw [upM_n (by decide)]; rw [upM_n (by decide)]; exact upM_ss), ((((((eqv.note (Or.inl rfl)).up 8 _ _).up 9 _ _).up 10 _ _).up 11 _ _).up 12 _ _).up 7 _ _, _, rfl, fun _ => (by show M 7 0 + 1 - 1 = M 7 0; omega)⟩)
      · refine v_iload (pc' := 30) F d_M_meter_28 rfl rfl ?_
        refine v_iconst (pc' := 31) F d_M_meter_30 rfl ?_
        refine v_sipush (pc' := 34) F d_M_meter_31 rfl (by decide) ?_
        refine v_callSP (pc' := 37) F d_M_meter_34 rfl cal_M_isIn wx_755 wx_756 (c_M_isIn l X _ _ _ _ _ (by omega) (by omega) (by omega)) rfl ⟨by decide, by decide, by decide, by decide⟩ (Nat.le_of_ble_eq_true rfl) rfl rfl ?_
        refine v_zif_eq (tgt := 56) (pc' := 40) F d_M_meter_37 (by decide) rfl (fun c37 => ?_) (fun c37 => ?_)
        · refine v_iconst (pc' := 57) F d_M_meter_56 rfl ?_
          refine v_istore_6 (pc' := 59) F d_M_meter_57 rfl rfl (by decide) ?_
          refine v_aload_n (pc' := 60) (j := 0) F d_M_meter_59 rfl rfl rfl ?_
          refine v_iload (pc' := 62) F d_M_meter_60 rfl rfl ?_
          refine v_aload_n (pc' := 63) (j := 0) F d_M_meter_62 rfl rfl rfl ?_
          refine v_getf (pc' := 66) (C := zR_M) (T := zF_M) (N := 28) (ref := "BillSharesModel") F d_M_meter_63 rfl zi_M rfl 7 (by decide) wx_668 (Or.inl rfl) hM.1 rfl ?_
          refine v_bipush (pc' := 68) F d_M_meter_66 rfl (by decide) ?_
          refine v_icmp_ge (tgt := 75) (pc' := 71) F d_M_meter_68 (by decide) rfl (by omega) (by omega) (fun c68 => ?_) (fun c68 => ?_)
          · refine v_iconst (pc' := 76) F d_M_meter_75 rfl ?_
            refine v_callVM (pc' := 79) (C := zR_M) (T9 := zF_M) (N := 28) F d_M_meter_76 rfl cal_M_allows wx_758 wx_760 wp_16 rfl hM.1 (c_allows_1 l X _ _ _ _ _ hM (by omega)) rfl ⟨by decide, by decide, by decide, by decide⟩ (Nat.le_of_ble_eq_true rfl) rfl rfl (fun h7 hM7 hF7 => ?_)
            refine v_if_ne (tgt := 84) (pc' := 82) F d_M_meter_79 (by decide) rfl (by omega) (fun c79 => by exfalso; omega) (fun c79 => ?_)
            refine v_iconst (pc' := 83) F d_M_meter_82 rfl ?_
            refine v_ireturn F rfl d_M_meter_83 rfl rfl (Nat.le_refl _) (Nat.le_refl _) ?_
            first | (rw [show sp_meter M f k a b t = (1, 0, M) from if_neg (by omega)]; exact ⟨_, hM7, ((MF.rf).tr hF7), rfl, upM_ss, eqv.note (Or.inl rfl), 0, rfl, fun q => absurd (show (1 : Int) = 0 from q) (by decide)⟩) | (rw [show sp_meter M f k a b t = (2, 0, M) from (if_pos (by omega)).trans (if_neg (by omega))]; exact ⟨_, hM7, ((MF.rf).tr hF7), rfl, upM_ss, eqv.note (Or.inl rfl), 0, rfl, fun q => absurd (show (2 : Int) = 0 from q) (by decide)⟩) | (rw [show sp_meter M f k a b t = _ from (if_pos (by omega)).trans (if_pos (by omega))]; exact ⟨_, hM7, ((MF.rf).tr hF7), rfl, (by rw [upM_n (by decide)]; rw [upM_n (by decide)]; rw [upM_n (by decide)]; rw [upM_n (by decide)]; rw [upM_n (by decide)]; rw [upM_n (by decide)]; exact upM_ss), ((((((eqv.note (Or.inl rfl)).up 8 _ _).up 9 _ _).up 10 _ _).up 11 _ _).up 12 _ _).up 7 _ _, _, rfl, fun _ => (by show M 7 0 + 1 - 1 = M 7 0; omega)⟩)
          · refine v_iconst (pc' := 72) F d_M_meter_71 rfl ?_
            refine v_goto (tgt := 76) F d_M_meter_72 (by decide) ?_
            refine v_callVM (pc' := 79) (C := zR_M) (T9 := zF_M) (N := 28) F d_M_meter_76 rfl cal_M_allows wx_758 wx_760 wp_16 rfl hM.1 (c_allows_1 l X _ _ _ _ _ hM (by omega)) rfl ⟨by decide, by decide, by decide, by decide⟩ (Nat.le_of_ble_eq_true rfl) rfl rfl (fun h8 hM8 hF8 => ?_)
            refine v_if_ne (tgt := 84) (pc' := 82) F d_M_meter_79 (by decide) rfl (by omega) (fun c79 => by exfalso; omega) (fun c79 => ?_)
            refine v_iconst (pc' := 83) F d_M_meter_82 rfl ?_
            refine v_ireturn F rfl d_M_meter_83 rfl rfl (Nat.le_refl _) (Nat.le_refl _) ?_
            first | (rw [show sp_meter M f k a b t = (1, 0, M) from if_neg (by omega)]; exact ⟨_, hM8, ((MF.rf).tr hF8), rfl, upM_ss, eqv.note (Or.inl rfl), 0, rfl, fun q => absurd (show (1 : Int) = 0 from q) (by decide)⟩) | (rw [show sp_meter M f k a b t = (2, 0, M) from (if_pos (by omega)).trans (if_neg (by omega))]; exact ⟨_, hM8, ((MF.rf).tr hF8), rfl, upM_ss, eqv.note (Or.inl rfl), 0, rfl, fun q => absurd (show (2 : Int) = 0 from q) (by decide)⟩) | (rw [show sp_meter M f k a b t = _ from (if_pos (by omega)).trans (if_pos (by omega))]; exact ⟨_, hM8, ((MF.rf).tr hF8), rfl, (by rw [upM_n (by decide)]; rw [upM_n (by decide)]; rw [upM_n (by decide)]; rw [upM_n (by decide)]; rw [upM_n (by decide)]; rw [upM_n (by decide)]; exact upM_ss), ((((((eqv.note (Or.inl rfl)).up 8 _ _).up 9 _ _).up 10 _ _).up 11 _ _).up 12 _ _).up 7 _ _, _, rfl, fun _ => (by show M 7 0 + 1 - 1 = M 7 0; omega)⟩)
        · refine v_iload (pc' := 42) F d_M_meter_40 rfl rfl ?_
          refine v_iconst (pc' := 43) F d_M_meter_42 rfl ?_
          refine v_sipush (pc' := 46) F d_M_meter_43 rfl (by decide) ?_
          refine v_callSP (pc' := 49) F d_M_meter_46 rfl cal_M_isIn wx_755 wx_756 (c_M_isIn l X _ _ _ _ _ (by omega) (by omega) (by omega)) rfl ⟨by decide, by decide, by decide, by decide⟩ (Nat.le_of_ble_eq_true rfl) rfl rfl ?_
          refine v_zif_eq (tgt := 56) (pc' := 52) F d_M_meter_49 (by decide) rfl (fun c49 => ?_) (fun c49 => ?_)
          · refine v_iconst (pc' := 57) F d_M_meter_56 rfl ?_
            refine v_istore_6 (pc' := 59) F d_M_meter_57 rfl rfl (by decide) ?_
            refine v_aload_n (pc' := 60) (j := 0) F d_M_meter_59 rfl rfl rfl ?_
            refine v_iload (pc' := 62) F d_M_meter_60 rfl rfl ?_
            refine v_aload_n (pc' := 63) (j := 0) F d_M_meter_62 rfl rfl rfl ?_
            refine v_getf (pc' := 66) (C := zR_M) (T := zF_M) (N := 28) (ref := "BillSharesModel") F d_M_meter_63 rfl zi_M rfl 7 (by decide) wx_668 (Or.inl rfl) hM.1 rfl ?_
            refine v_bipush (pc' := 68) F d_M_meter_66 rfl (by decide) ?_
            refine v_icmp_ge (tgt := 75) (pc' := 71) F d_M_meter_68 (by decide) rfl (by omega) (by omega) (fun c68 => ?_) (fun c68 => ?_)
            · refine v_iconst (pc' := 76) F d_M_meter_75 rfl ?_
              refine v_callVM (pc' := 79) (C := zR_M) (T9 := zF_M) (N := 28) F d_M_meter_76 rfl cal_M_allows wx_758 wx_760 wp_16 rfl hM.1 (c_allows_1 l X _ _ _ _ _ hM (by omega)) rfl ⟨by decide, by decide, by decide, by decide⟩ (Nat.le_of_ble_eq_true rfl) rfl rfl (fun h9 hM9 hF9 => ?_)
              refine v_if_ne (tgt := 84) (pc' := 82) F d_M_meter_79 (by decide) rfl (by omega) (fun c79 => by exfalso; omega) (fun c79 => ?_)
              refine v_iconst (pc' := 83) F d_M_meter_82 rfl ?_
              refine v_ireturn F rfl d_M_meter_83 rfl rfl (Nat.le_refl _) (Nat.le_refl _) ?_
              first | (rw [show sp_meter M f k a b t = (1, 0, M) from if_neg (by omega)]; exact ⟨_, hM9, ((MF.rf).tr hF9), rfl, upM_ss, eqv.note (Or.inl rfl), 0, rfl, fun q => absurd (show (1 : Int) = 0 from q) (by decide)⟩) | (rw [show sp_meter M f k a b t = (2, 0, M) from (if_pos (by omega)).trans (if_neg (by omega))]; exact ⟨_, hM9, ((MF.rf).tr hF9), rfl, upM_ss, eqv.note (Or.inl rfl), 0, rfl, fun q => absurd (show (2 : Int) = 0 from q) (by decide)⟩) | (rw [show sp_meter M f k a b t = _ from (if_pos (by omega)).trans (if_pos (by omega))]; exact ⟨_, hM9, ((MF.rf).tr hF9), rfl, (by rw [upM_n (by decide)]; rw [upM_n (by decide)]; rw [upM_n (by decide)]; rw [upM_n (by decide)]; rw [upM_n (by decide)]; rw [upM_n (by decide)]; exact upM_ss), ((((((eqv.note (Or.inl rfl)).up 8 _ _).up 9 _ _).up 10 _ _).up 11 _ _).up 12 _ _).up 7 _ _, _, rfl, fun _ => (by show M 7 0 + 1 - 1 = M 7 0; omega)⟩)
            · refine v_iconst (pc' := 72) F d_M_meter_71 rfl ?_
              refine v_goto (tgt := 76) F d_M_meter_72 (by decide) ?_
              refine v_callVM (pc' := 79) (C := zR_M) (T9 := zF_M) (N := 28) F d_M_meter_76 rfl cal_M_allows wx_758 wx_760 wp_16 rfl hM.1 (c_allows_1 l X _ _ _ _ _ hM (by omega)) rfl ⟨by decide, by decide, by decide, by decide⟩ (Nat.le_of_ble_eq_true rfl) rfl rfl (fun h10 hM10 hF10 => ?_)
              refine v_if_ne (tgt := 84) (pc' := 82) F d_M_meter_79 (by decide) rfl (by omega) (fun c79 => by exfalso; omega) (fun c79 => ?_)
              refine v_iconst (pc' := 83) F d_M_meter_82 rfl ?_
              refine v_ireturn F rfl d_M_meter_83 rfl rfl (Nat.le_refl _) (Nat.le_refl _) ?_
              first | (rw [show sp_meter M f k a b t = (1, 0, M) from if_neg (by omega)]; exact ⟨_, hM10, ((MF.rf).tr hF10), rfl, upM_ss, eqv.note (Or.inl rfl), 0, rfl, fun q => absurd (show (1 : Int) = 0 from q) (by decide)⟩) | (rw [show sp_meter M f k a b t = (2, 0, M) from (if_pos (by omega)).trans (if_neg (by omega))]; exact ⟨_, hM10, ((MF.rf).tr hF10), rfl, upM_ss, eqv.note (Or.inl rfl), 0, rfl, fun q => absurd (show (2 : Int) = 0 from q) (by decide)⟩) | (rw [show sp_meter M f k a b t = _ from (if_pos (by omega)).trans (if_pos (by omega))]; exact ⟨_, hM10, ((MF.rf).tr hF10), rfl, (by rw [upM_n (by decide)]; rw [upM_n (by decide)]; rw [upM_n (by decide)]; rw [upM_n (by decide)]; rw [upM_n (by decide)]; rw [upM_n (by decide)]; exact upM_ss), ((((((eqv.note (Or.inl rfl)).up 8 _ _).up 9 _ _).up 10 _ _).up 11 _ _).up 12 _ _).up 7 _ _, _, rfl, fun _ => (by show M 7 0 + 1 - 1 = M 7 0; omega)⟩)
          · refine v_iconst (pc' := 53) F d_M_meter_52 rfl ?_
            refine v_goto (tgt := 57) F d_M_meter_53 (by decide) ?_
            refine v_istore_6 (pc' := 59) F d_M_meter_57 rfl rfl (by decide) ?_
            refine v_aload_n (pc' := 60) (j := 0) F d_M_meter_59 rfl rfl rfl ?_
            refine v_iload (pc' := 62) F d_M_meter_60 rfl rfl ?_
            refine v_aload_n (pc' := 63) (j := 0) F d_M_meter_62 rfl rfl rfl ?_
            refine v_getf (pc' := 66) (C := zR_M) (T := zF_M) (N := 28) (ref := "BillSharesModel") F d_M_meter_63 rfl zi_M rfl 7 (by decide) wx_668 (Or.inl rfl) hM.1 rfl ?_
            refine v_bipush (pc' := 68) F d_M_meter_66 rfl (by decide) ?_
            refine v_icmp_ge (tgt := 75) (pc' := 71) F d_M_meter_68 (by decide) rfl (by omega) (by omega) (fun c68 => ?_) (fun c68 => ?_)
            · refine v_iconst (pc' := 76) F d_M_meter_75 rfl ?_
              refine v_callVM (pc' := 79) (C := zR_M) (T9 := zF_M) (N := 28) F d_M_meter_76 rfl cal_M_allows wx_758 wx_760 wp_16 rfl hM.1 (c_allows_2 l X _ _ _ _ hM) rfl ⟨by decide, by decide, by decide, by decide⟩ (Nat.le_of_ble_eq_true rfl) rfl rfl (fun h11 hM11 hF11 => ?_)
              refine v_if_ne (tgt := 84) (pc' := 82) F d_M_meter_79 (by decide) rfl (by omega) (fun c79 => by exfalso; omega) (fun c79 => ?_)
              refine v_iconst (pc' := 83) F d_M_meter_82 rfl ?_
              refine v_ireturn F rfl d_M_meter_83 rfl rfl (Nat.le_refl _) (Nat.le_refl _) ?_
              first | (rw [show sp_meter M f k a b t = (1, 0, M) from if_neg (by omega)]; exact ⟨_, hM11, ((MF.rf).tr hF11), rfl, upM_ss, eqv.note (Or.inl rfl), 0, rfl, fun q => absurd (show (1 : Int) = 0 from q) (by decide)⟩) | (rw [show sp_meter M f k a b t = (2, 0, M) from (if_pos (by omega)).trans (if_neg (by omega))]; exact ⟨_, hM11, ((MF.rf).tr hF11), rfl, upM_ss, eqv.note (Or.inl rfl), 0, rfl, fun q => absurd (show (2 : Int) = 0 from q) (by decide)⟩) | (rw [show sp_meter M f k a b t = _ from (if_pos (by omega)).trans (if_pos (by omega))]; exact ⟨_, hM11, ((MF.rf).tr hF11), rfl, (by rw [upM_n (by decide)]; rw [upM_n (by decide)]; rw [upM_n (by decide)]; rw [upM_n (by decide)]; rw [upM_n (by decide)]; rw [upM_n (by decide)]; exact upM_ss), ((((((eqv.note (Or.inl rfl)).up 8 _ _).up 9 _ _).up 10 _ _).up 11 _ _).up 12 _ _).up 7 _ _, _, rfl, fun _ => (by show M 7 0 + 1 - 1 = M 7 0; omega)⟩)
            · refine v_iconst (pc' := 72) F d_M_meter_71 rfl ?_
              refine v_goto (tgt := 76) F d_M_meter_72 (by decide) ?_
              refine v_callVM (pc' := 79) (C := zR_M) (T9 := zF_M) (N := 28) F d_M_meter_76 rfl cal_M_allows wx_758 wx_760 wp_16 rfl hM.1 (c_allows_0 l X _ _ _ _ hM) rfl ⟨by decide, by decide, by decide, by decide⟩ (Nat.le_of_ble_eq_true rfl) rfl rfl (fun h12 hM12 hF12 => ?_)
              refine v_if_ne (tgt := 84) (pc' := 82) F d_M_meter_79 (by decide) rfl (by omega) (fun c79 => ?_) (fun c79 => by exfalso; omega)
              refine v_aload_n (pc' := 85) (j := 0) F d_M_meter_84 rfl rfl rfl ?_
              refine v_getf (pc' := 88) (C := zR_M) (T := zF_M) (N := 28) (ref := "BillSharesModel") F d_M_meter_85 rfl zi_M rfl 8 (by decide) wx_669 (Or.inl rfl) hM12.1 rfl ?_
              refine v_aload_n (pc' := 89) (j := 0) F d_M_meter_88 rfl rfl rfl ?_
              refine v_getf (pc' := 92) (C := zR_M) (T := zF_M) (N := 28) (ref := "BillSharesModel") F d_M_meter_89 rfl zi_M rfl 7 (by decide) wx_668 (Or.inl rfl) hM12.1 rfl ?_
              refine v_un (by decide) ?_
              refine v_iload_n (pc' := 93) (j := 1) F d_M_meter_92 rfl rfl rfl ?_
              refine mp_8 (pc' := 94) F hM12 d_M_meter_93 rfl (by omega) (by omega) (fun h13 hM13 hF13 => ?_)
              refine v_aload_n (pc' := 95) (j := 0) F d_M_meter_94 rfl rfl rfl ?_
              refine v_getf (pc' := 98) (C := zR_M) (T := zF_M) (N := 28) (ref := "BillSharesModel") F d_M_meter_95 rfl zi_M rfl 9 (by decide) wx_670 (Or.inl rfl) hM13.1 rfl ?_
              refine v_aload_n (pc' := 99) (j := 0) F d_M_meter_98 rfl rfl rfl ?_
              refine v_getf (pc' := 102) (C := zR_M) (T := zF_M) (N := 28) (ref := "BillSharesModel") F d_M_meter_99 rfl zi_M rfl 7 (by decide) wx_668 (Or.inl rfl) hM13.1 rfl ?_
              refine v_un (by decide) ?_
              refine v_un (by decide) ?_
              refine v_iload_n (pc' := 103) (j := 2) F d_M_meter_102 rfl rfl rfl ?_
              refine mp_9 (pc' := 104) F hM13 d_M_meter_103 rfl (by omega) (by omega) (fun h14 hM14 hF14 => ?_)
              refine v_aload_n (pc' := 105) (j := 0) F d_M_meter_104 rfl rfl rfl ?_
              refine v_getf (pc' := 108) (C := zR_M) (T := zF_M) (N := 28) (ref := "BillSharesModel") F d_M_meter_105 rfl zi_M rfl 10 (by decide) wx_671 (Or.inl rfl) hM14.1 rfl ?_
              refine v_aload_n (pc' := 109) (j := 0) F d_M_meter_108 rfl rfl rfl ?_
              refine v_getf (pc' := 112) (C := zR_M) (T := zF_M) (N := 28) (ref := "BillSharesModel") F d_M_meter_109 rfl zi_M rfl 7 (by decide) wx_668 (Or.inl rfl) hM14.1 rfl ?_
              refine v_un (by decide) ?_
              refine v_un (by decide) ?_
              refine v_un (by decide) ?_
              refine v_iload_n (pc' := 113) (j := 3) F d_M_meter_112 rfl rfl rfl ?_
              refine mp_10 (pc' := 114) F hM14 d_M_meter_113 rfl (by omega) (by omega) (fun h15 hM15 hF15 => ?_)
              refine v_aload_n (pc' := 115) (j := 0) F d_M_meter_114 rfl rfl rfl ?_
              refine v_getf (pc' := 118) (C := zR_M) (T := zF_M) (N := 28) (ref := "BillSharesModel") F d_M_meter_115 rfl zi_M rfl 11 (by decide) wx_672 (Or.inl rfl) hM15.1 rfl ?_
              refine v_aload_n (pc' := 119) (j := 0) F d_M_meter_118 rfl rfl rfl ?_
              refine v_getf (pc' := 122) (C := zR_M) (T := zF_M) (N := 28) (ref := "BillSharesModel") F d_M_meter_119 rfl zi_M rfl 7 (by decide) wx_668 (Or.inl rfl) hM15.1 rfl ?_
              refine v_un (by decide) ?_
              refine v_un (by decide) ?_
              refine v_un (by decide) ?_
              refine v_un (by decide) ?_
              refine v_iload (pc' := 124) F d_M_meter_122 rfl rfl ?_
              refine mp_11 (pc' := 125) F hM15 d_M_meter_124 rfl (by omega) (by omega) (fun h16 hM16 hF16 => ?_)
              refine v_aload_n (pc' := 126) (j := 0) F d_M_meter_125 rfl rfl rfl ?_
              refine v_getf (pc' := 129) (C := zR_M) (T := zF_M) (N := 28) (ref := "BillSharesModel") F d_M_meter_126 rfl zi_M rfl 12 (by decide) wx_673 (Or.inl rfl) hM16.1 rfl ?_
              refine v_aload_n (pc' := 130) (j := 0) F d_M_meter_129 rfl rfl rfl ?_
              refine v_getf (pc' := 133) (C := zR_M) (T := zF_M) (N := 28) (ref := "BillSharesModel") F d_M_meter_130 rfl zi_M rfl 7 (by decide) wx_668 (Or.inl rfl) hM16.1 rfl ?_
              refine v_un (by decide) ?_
              refine v_un (by decide) ?_
              refine v_un (by decide) ?_
              refine v_un (by decide) ?_
              refine v_un (by decide) ?_
              refine v_iload (pc' := 135) F d_M_meter_133 rfl rfl ?_
              refine mp_12 (pc' := 136) F hM16 d_M_meter_135 rfl (by omega) (by omega) (fun h17 hM17 hF17 => ?_)
              refine v_aload_n (pc' := 137) (j := 0) F d_M_meter_136 rfl rfl rfl ?_
              refine v_dup (pc' := 138) F d_M_meter_137 rfl rfl ?_
              refine v_getf (pc' := 141) (C := zR_M) (T := zF_M) (N := 28) (ref := "BillSharesModel") F d_M_meter_138 rfl zi_M rfl 7 (by decide) wx_668 (Or.inl rfl) hM17.1 rfl ?_
              refine v_un (by decide) ?_
              refine v_un (by decide) ?_
              refine v_un (by decide) ?_
              refine v_un (by decide) ?_
              refine v_un (by decide) ?_
              refine v_un (by decide) ?_
              refine v_iconst (pc' := 142) F d_M_meter_141 rfl ?_
              refine v_iadd (pc' := 143) F d_M_meter_142 rfl ?_
              refine mp_7 (pc' := 146) F hM17 d_M_meter_143 rfl wx_668 (fun h18 hM18 hF18 => ?_)
              refine v_aload_n (pc' := 147) (j := 0) F d_M_meter_146 rfl rfl rfl ?_
              refine v_getf (pc' := 150) (C := zR_M) (T := zF_M) (N := 28) (ref := "BillSharesModel") F d_M_meter_147 rfl zi_M rfl 7 (by decide) wx_668 (Or.inl rfl) hM18.1 rfl ?_
              refine v_us ?_
              refine v_iconst (pc' := 151) F d_M_meter_150 rfl ?_
              refine v_isub (pc' := 152) F d_M_meter_151 rfl ?_
              refine v_ireturn F rfl d_M_meter_152 rfl rfl (Nat.le_refl _) (Nat.le_refl _) ?_
              first | (rw [show sp_meter M f k a b t = (1, 0, M) from if_neg (by omega)]; exact ⟨_, hM18, ((((((((((((((MF.rf).tr hF12)).tr hF13)).tr hF14)).tr hF15)).tr hF16)).tr hF17)).tr hF18), rfl, upM_ss, eqv.note (Or.inl rfl), 0, rfl, fun q => absurd (show (1 : Int) = 0 from q) (by decide)⟩) | (rw [show sp_meter M f k a b t = (2, 0, M) from (if_pos (by omega)).trans (if_neg (by omega))]; exact ⟨_, hM18, ((((((((((((((MF.rf).tr hF12)).tr hF13)).tr hF14)).tr hF15)).tr hF16)).tr hF17)).tr hF18), rfl, upM_ss, eqv.note (Or.inl rfl), 0, rfl, fun q => absurd (show (2 : Int) = 0 from q) (by decide)⟩) | (rw [show sp_meter M f k a b t = _ from (if_pos (by omega)).trans (if_pos (by omega))]; exact ⟨_, hM18, ((((((((((((((MF.rf).tr hF12)).tr hF13)).tr hF14)).tr hF15)).tr hF16)).tr hF17)).tr hF18), rfl, (by rw [upM_n (by decide)]; rw [upM_n (by decide)]; rw [upM_n (by decide)]; rw [upM_n (by decide)]; rw [upM_n (by decide)]; rw [upM_n (by decide)]; exact upM_ss), ((((((eqv.note (Or.inl rfl)).up 8 _ _).up 9 _ _).up 10 _ _).up 11 _ _).up 12 _ _).up 7 _ _, _, rfl, fun _ => (by show M 7 0 + 1 - 1 = M 7 0; omega)⟩)
def sp_moves (M : MS) (f d : Int) : Int × Int × MS := if (0 ≤ f ∧ f < M 1 0) ∧ 0 ≤ d ∧ d ≤ 3649 ∧ M 5 (12 * f + M 4 f - 1) < d then (if M 4 f < 12 then (0, M 4 f, upM (upM M 5 (12 * f + M 4 f) d) 4 f (M 4 f + 1)) else (2, 0, M)) else (1, 0, M)
set_option maxRecDepth 100000 in
set_option maxHeartbeats 4000000 in
theorem c_M_moves (l : Launch) (X : am_X) (h : am_H) (nx : Nat) (y : Nat) (M : MS) (f d : Int) (hM : RepM y M h) (hfl : 0 ≤ M 1 0 ∧ M 1 0 ≤ 20) (hlv : ∀ f : Int, 0 ≤ f → f < M 1 0 → 1 ≤ M 4 f ∧ M 4 f ≤ 12) (hsi : ∀ i : Int, 0 ≤ i → i < 240 → 0 ≤ M 5 i ∧ M 5 i ≤ 3649) (rf : -2147483648 ≤ f ∧ f < 2147483648) (rd : -2147483648 ≤ d ∧ d < 2147483648) : Cn l X y_M_moves ({ frames := 1, cells := 0, slots := 0, locals := 22 }) [.ref y, iV f, iV d] h nx (mpost y h nx iV (sp_moves M f d)) := by
  refine cn_of (k := 1) (L0 := [some (.ref y), some (iV f), some (iV d), none]) rfl wx_810 (Nat.le_of_ble_eq_true rfl) rfl (fun p e s m args below meth c F => ?_)
  refine v_aload_n (pc' := 1) (j := 0) F d_M_moves_0 rfl rfl rfl ?_
  refine v_iload_n (pc' := 2) (j := 1) F d_M_moves_1 rfl rfl rfl ?_
  refine v_callVP (pc' := 5) (C := zR_M) (T9 := zF_M) (N := 28) F d_M_moves_2 rfl cal_M_isFlat wx_766 wx_768 wp_17 rfl hM.1 (c_M_isFlat l X _ _ _ _ _ hM hfl (by omega)) rfl ⟨by decide, by decide, by decide, by decide⟩ (Nat.le_of_ble_eq_true rfl) rfl rfl ?_
  refine v_zif_eq (tgt := 45) (pc' := 8) F d_M_moves_5 (by decide) rfl (fun c5 => ?_) (fun c5 => ?_)
  · refine v_iconst (pc' := 46) F d_M_moves_45 rfl ?_
    refine v_istore_3 (pc' := 47) F d_M_moves_46 rfl rfl (by decide) ?_
    refine v_aload_n (pc' := 48) (j := 0) F d_M_moves_47 rfl rfl rfl ?_
    refine v_iload_n (pc' := 49) (j := 3) F d_M_moves_48 rfl rfl rfl ?_
    refine v_iload_n (pc' := 50) (j := 3) F d_M_moves_49 rfl rfl rfl ?_
    refine v_if_eq (tgt := 68) (pc' := 53) F d_M_moves_50 (by decide) rfl (by omega) (fun c50 => ?_) (fun c50 => by exfalso; omega)
    refine v_iconst (pc' := 69) F d_M_moves_68 rfl ?_
    refine v_callVM (pc' := 72) (C := zR_M) (T9 := zF_M) (N := 28) F d_M_moves_69 rfl cal_M_allows wx_758 wx_760 wp_16 rfl hM.1 (c_allows_1 l X _ _ _ _ _ hM (by omega)) rfl ⟨by decide, by decide, by decide, by decide⟩ (Nat.le_of_ble_eq_true rfl) rfl rfl (fun h1 hM1 hF1 => ?_)
    refine v_if_ne (tgt := 77) (pc' := 75) F d_M_moves_72 (by decide) rfl (by omega) (fun c72 => by exfalso; omega) (fun c72 => ?_)
    refine v_iconst (pc' := 76) F d_M_moves_75 rfl ?_
    refine v_ireturn F rfl d_M_moves_76 rfl rfl (Nat.le_refl _) (Nat.le_refl _) ?_
    first | (rw [show sp_moves M f d = (1, 0, M) from if_neg (by omega)]; exact ⟨_, hM1, ((MF.rf).tr hF1), rfl, upM_ss, eqv.note (Or.inl rfl), 0, rfl, fun q => absurd (show (1 : Int) = 0 from q) (by decide)⟩) | (rw [show sp_moves M f d = (2, 0, M) from (if_pos (by omega)).trans (if_neg (by omega))]; exact ⟨_, hM1, ((MF.rf).tr hF1), rfl, upM_ss, eqv.note (Or.inl rfl), 0, rfl, fun q => absurd (show (2 : Int) = 0 from q) (by decide)⟩) | (rw [show sp_moves M f d = _ from (if_pos (by omega)).trans (if_pos (by omega))]; exact ⟨_, hM1, ((MF.rf).tr hF1), rfl, (by rw [upM_n (by decide)]; rw [upM_n (by decide)]; exact upM_ss), ((eqv.note (Or.inl rfl)).up 5 _ _).up 4 _ _, _, rfl, fun _ => (by show M 4 f + 1 - 1 = M 4 f; omega)⟩)
  · refine v_iload_n (pc' := 9) (j := 2) F d_M_moves_8 rfl rfl rfl ?_
    refine v_iconst (pc' := 10) F d_M_moves_9 rfl ?_
    refine v_sipush (pc' := 13) F d_M_moves_10 rfl (by decide) ?_
    refine v_callSP (pc' := 16) F d_M_moves_13 rfl cal_M_isIn wx_755 wx_756 (c_M_isIn l X _ _ _ _ _ (by omega) (by omega) (by omega)) rfl ⟨by decide, by decide, by decide, by decide⟩ (Nat.le_of_ble_eq_true rfl) rfl rfl ?_
    refine v_zif_eq (tgt := 45) (pc' := 19) F d_M_moves_16 (by decide) rfl (fun c16 => ?_) (fun c16 => ?_)
    · refine v_iconst (pc' := 46) F d_M_moves_45 rfl ?_
      refine v_istore_3 (pc' := 47) F d_M_moves_46 rfl rfl (by decide) ?_
      refine v_aload_n (pc' := 48) (j := 0) F d_M_moves_47 rfl rfl rfl ?_
      refine v_iload_n (pc' := 49) (j := 3) F d_M_moves_48 rfl rfl rfl ?_
      refine v_iload_n (pc' := 50) (j := 3) F d_M_moves_49 rfl rfl rfl ?_
      refine v_if_eq (tgt := 68) (pc' := 53) F d_M_moves_50 (by decide) rfl (by omega) (fun c50 => ?_) (fun c50 => by exfalso; omega)
      refine v_iconst (pc' := 69) F d_M_moves_68 rfl ?_
      refine v_callVM (pc' := 72) (C := zR_M) (T9 := zF_M) (N := 28) F d_M_moves_69 rfl cal_M_allows wx_758 wx_760 wp_16 rfl hM.1 (c_allows_1 l X _ _ _ _ _ hM (by omega)) rfl ⟨by decide, by decide, by decide, by decide⟩ (Nat.le_of_ble_eq_true rfl) rfl rfl (fun h2 hM2 hF2 => ?_)
      refine v_if_ne (tgt := 77) (pc' := 75) F d_M_moves_72 (by decide) rfl (by omega) (fun c72 => by exfalso; omega) (fun c72 => ?_)
      refine v_iconst (pc' := 76) F d_M_moves_75 rfl ?_
      refine v_ireturn F rfl d_M_moves_76 rfl rfl (Nat.le_refl _) (Nat.le_refl _) ?_
      first | (rw [show sp_moves M f d = (1, 0, M) from if_neg (by omega)]; exact ⟨_, hM2, ((MF.rf).tr hF2), rfl, upM_ss, eqv.note (Or.inl rfl), 0, rfl, fun q => absurd (show (1 : Int) = 0 from q) (by decide)⟩) | (rw [show sp_moves M f d = (2, 0, M) from (if_pos (by omega)).trans (if_neg (by omega))]; exact ⟨_, hM2, ((MF.rf).tr hF2), rfl, upM_ss, eqv.note (Or.inl rfl), 0, rfl, fun q => absurd (show (2 : Int) = 0 from q) (by decide)⟩) | (rw [show sp_moves M f d = _ from (if_pos (by omega)).trans (if_pos (by omega))]; exact ⟨_, hM2, ((MF.rf).tr hF2), rfl, (by rw [upM_n (by decide)]; rw [upM_n (by decide)]; exact upM_ss), ((eqv.note (Or.inl rfl)).up 5 _ _).up 4 _ _, _, rfl, fun _ => (by show M 4 f + 1 - 1 = M 4 f; omega)⟩)
    · refine v_iload_n (pc' := 20) (j := 2) F d_M_moves_19 rfl rfl rfl ?_
      refine v_aload_n (pc' := 21) (j := 0) F d_M_moves_20 rfl rfl rfl ?_
      refine v_getf (pc' := 24) (C := zR_M) (T := zF_M) (N := 28) (ref := "BillSharesModel") F d_M_moves_21 rfl zi_M rfl 5 (by decide) wx_666 (Or.inl rfl) hM.1 rfl ?_
      refine v_bipush (pc' := 26) F d_M_moves_24 rfl (by decide) ?_
      refine v_iload_n (pc' := 27) (j := 1) F d_M_moves_26 rfl rfl rfl ?_
      refine v_imul (pc' := 28) F d_M_moves_27 rfl ?_
      refine v_aload_n (pc' := 29) (j := 0) F d_M_moves_28 rfl rfl rfl ?_
      refine v_getf (pc' := 32) (C := zR_M) (T := zF_M) (N := 28) (ref := "BillSharesModel") F d_M_moves_29 rfl zi_M rfl 4 (by decide) wx_665 (Or.inl rfl) hM.1 rfl ?_
      refine v_iload_n (pc' := 33) (j := 1) F d_M_moves_32 rfl rfl rfl ?_
      have q1 := hlv f (by omega) (by omega)
      refine mg_4 (pc' := 34) F hM d_M_moves_33 rfl (by omega) (by omega) ?_
      refine v_iadd (pc' := 35) F d_M_moves_34 rfl ?_
      refine v_iconst (pc' := 36) F d_M_moves_35 rfl ?_
      refine v_isub (pc' := 37) F d_M_moves_36 rfl ?_
      refine mg_5 (pc' := 38) F hM d_M_moves_37 rfl (by omega) (by omega) ?_
      have q2 := hsi (12 * f + M 4 f - 1) (by omega) (by omega)
      refine v_icmp_le (tgt := 45) (pc' := 41) F d_M_moves_38 (by decide) rfl (by omega) (by omega) (fun c38 => ?_) (fun c38 => ?_)
      · refine v_iconst (pc' := 46) F d_M_moves_45 rfl ?_
        refine v_istore_3 (pc' := 47) F d_M_moves_46 rfl rfl (by decide) ?_
        refine v_aload_n (pc' := 48) (j := 0) F d_M_moves_47 rfl rfl rfl ?_
        refine v_iload_n (pc' := 49) (j := 3) F d_M_moves_48 rfl rfl rfl ?_
        refine v_iload_n (pc' := 50) (j := 3) F d_M_moves_49 rfl rfl rfl ?_
        refine v_if_eq (tgt := 68) (pc' := 53) F d_M_moves_50 (by decide) rfl (by omega) (fun c50 => ?_) (fun c50 => by exfalso; omega)
        refine v_iconst (pc' := 69) F d_M_moves_68 rfl ?_
        refine v_callVM (pc' := 72) (C := zR_M) (T9 := zF_M) (N := 28) F d_M_moves_69 rfl cal_M_allows wx_758 wx_760 wp_16 rfl hM.1 (c_allows_1 l X _ _ _ _ _ hM (by omega)) rfl ⟨by decide, by decide, by decide, by decide⟩ (Nat.le_of_ble_eq_true rfl) rfl rfl (fun h3 hM3 hF3 => ?_)
        refine v_if_ne (tgt := 77) (pc' := 75) F d_M_moves_72 (by decide) rfl (by omega) (fun c72 => by exfalso; omega) (fun c72 => ?_)
        refine v_iconst (pc' := 76) F d_M_moves_75 rfl ?_
        refine v_ireturn F rfl d_M_moves_76 rfl rfl (Nat.le_refl _) (Nat.le_refl _) ?_
        first | (rw [show sp_moves M f d = (1, 0, M) from if_neg (by omega)]; exact ⟨_, hM3, ((MF.rf).tr hF3), rfl, upM_ss, eqv.note (Or.inl rfl), 0, rfl, fun q => absurd (show (1 : Int) = 0 from q) (by decide)⟩) | (rw [show sp_moves M f d = (2, 0, M) from (if_pos (by omega)).trans (if_neg (by omega))]; exact ⟨_, hM3, ((MF.rf).tr hF3), rfl, upM_ss, eqv.note (Or.inl rfl), 0, rfl, fun q => absurd (show (2 : Int) = 0 from q) (by decide)⟩) | (rw [show sp_moves M f d = _ from (if_pos (by omega)).trans (if_pos (by omega))]; exact ⟨_, hM3, ((MF.rf).tr hF3), rfl, (by rw [upM_n (by decide)]; rw [upM_n (by decide)]; exact upM_ss), ((eqv.note (Or.inl rfl)).up 5 _ _).up 4 _ _, _, rfl, fun _ => (by show M 4 f + 1 - 1 = M 4 f; omega)⟩)
      · refine v_iconst (pc' := 42) F d_M_moves_41 rfl ?_
        refine v_goto (tgt := 46) F d_M_moves_42 (by decide) ?_
        refine v_istore_3 (pc' := 47) F d_M_moves_46 rfl rfl (by decide) ?_
        refine v_aload_n (pc' := 48) (j := 0) F d_M_moves_47 rfl rfl rfl ?_
        refine v_iload_n (pc' := 49) (j := 3) F d_M_moves_48 rfl rfl rfl ?_
        refine v_iload_n (pc' := 50) (j := 3) F d_M_moves_49 rfl rfl rfl ?_
        refine v_if_eq (tgt := 68) (pc' := 53) F d_M_moves_50 (by decide) rfl (by omega) (fun c50 => by exfalso; omega) (fun c50 => ?_)
        refine v_aload_n (pc' := 54) (j := 0) F d_M_moves_53 rfl rfl rfl ?_
        refine v_getf (pc' := 57) (C := zR_M) (T := zF_M) (N := 28) (ref := "BillSharesModel") F d_M_moves_54 rfl zi_M rfl 4 (by decide) wx_665 (Or.inl rfl) hM.1 rfl ?_
        refine v_iload_n (pc' := 58) (j := 1) F d_M_moves_57 rfl rfl rfl ?_
        refine mg_4 (pc' := 59) F hM d_M_moves_58 rfl (by omega) (by omega) ?_
        refine v_bipush (pc' := 61) F d_M_moves_59 rfl (by decide) ?_
        refine v_icmp_ge (tgt := 68) (pc' := 64) F d_M_moves_61 (by decide) rfl (by omega) (by omega) (fun c61 => ?_) (fun c61 => ?_)
        · refine v_iconst (pc' := 69) F d_M_moves_68 rfl ?_
          refine v_callVM (pc' := 72) (C := zR_M) (T9 := zF_M) (N := 28) F d_M_moves_69 rfl cal_M_allows wx_758 wx_760 wp_16 rfl hM.1 (c_allows_2 l X _ _ _ _ hM) rfl ⟨by decide, by decide, by decide, by decide⟩ (Nat.le_of_ble_eq_true rfl) rfl rfl (fun h4 hM4 hF4 => ?_)
          refine v_if_ne (tgt := 77) (pc' := 75) F d_M_moves_72 (by decide) rfl (by omega) (fun c72 => by exfalso; omega) (fun c72 => ?_)
          refine v_iconst (pc' := 76) F d_M_moves_75 rfl ?_
          refine v_ireturn F rfl d_M_moves_76 rfl rfl (Nat.le_refl _) (Nat.le_refl _) ?_
          first | (rw [show sp_moves M f d = (1, 0, M) from if_neg (by omega)]; exact ⟨_, hM4, ((MF.rf).tr hF4), rfl, upM_ss, eqv.note (Or.inl rfl), 0, rfl, fun q => absurd (show (1 : Int) = 0 from q) (by decide)⟩) | (rw [show sp_moves M f d = (2, 0, M) from (if_pos (by omega)).trans (if_neg (by omega))]; exact ⟨_, hM4, ((MF.rf).tr hF4), rfl, upM_ss, eqv.note (Or.inl rfl), 0, rfl, fun q => absurd (show (2 : Int) = 0 from q) (by decide)⟩) | (rw [show sp_moves M f d = _ from (if_pos (by omega)).trans (if_pos (by omega))]; exact ⟨_, hM4, ((MF.rf).tr hF4), rfl, (by rw [upM_n (by decide)]; rw [upM_n (by decide)]; exact upM_ss), ((eqv.note (Or.inl rfl)).up 5 _ _).up 4 _ _, _, rfl, fun _ => (by show M 4 f + 1 - 1 = M 4 f; omega)⟩)
        · refine v_iconst (pc' := 65) F d_M_moves_64 rfl ?_
          refine v_goto (tgt := 69) F d_M_moves_65 (by decide) ?_
          refine v_callVM (pc' := 72) (C := zR_M) (T9 := zF_M) (N := 28) F d_M_moves_69 rfl cal_M_allows wx_758 wx_760 wp_16 rfl hM.1 (c_allows_0 l X _ _ _ _ hM) rfl ⟨by decide, by decide, by decide, by decide⟩ (Nat.le_of_ble_eq_true rfl) rfl rfl (fun h5 hM5 hF5 => ?_)
          refine v_if_ne (tgt := 77) (pc' := 75) F d_M_moves_72 (by decide) rfl (by omega) (fun c72 => ?_) (fun c72 => by exfalso; omega)
          refine v_aload_n (pc' := 78) (j := 0) F d_M_moves_77 rfl rfl rfl ?_
          refine v_getf (pc' := 81) (C := zR_M) (T := zF_M) (N := 28) (ref := "BillSharesModel") F d_M_moves_78 rfl zi_M rfl 5 (by decide) wx_666 (Or.inl rfl) hM5.1 rfl ?_
          refine v_bipush (pc' := 83) F d_M_moves_81 rfl (by decide) ?_
          refine v_iload_n (pc' := 84) (j := 1) F d_M_moves_83 rfl rfl rfl ?_
          refine v_imul (pc' := 85) F d_M_moves_84 rfl ?_
          refine v_aload_n (pc' := 86) (j := 0) F d_M_moves_85 rfl rfl rfl ?_
          refine v_getf (pc' := 89) (C := zR_M) (T := zF_M) (N := 28) (ref := "BillSharesModel") F d_M_moves_86 rfl zi_M rfl 4 (by decide) wx_665 (Or.inl rfl) hM5.1 rfl ?_
          refine v_iload_n (pc' := 90) (j := 1) F d_M_moves_89 rfl rfl rfl ?_
          refine mg_4 (pc' := 91) F hM5 d_M_moves_90 rfl (by omega) (by omega) ?_
          refine v_un (by decide) ?_
          refine v_iadd (pc' := 92) F d_M_moves_91 rfl ?_
          refine v_iload_n (pc' := 93) (j := 2) F d_M_moves_92 rfl rfl rfl ?_
          refine mp_5 (pc' := 94) F hM5 d_M_moves_93 rfl (by omega) (by omega) (fun h6 hM6 hF6 => ?_)
          refine v_aload_n (pc' := 95) (j := 0) F d_M_moves_94 rfl rfl rfl ?_
          refine v_getf (pc' := 98) (C := zR_M) (T := zF_M) (N := 28) (ref := "BillSharesModel") F d_M_moves_95 rfl zi_M rfl 4 (by decide) wx_665 (Or.inl rfl) hM6.1 rfl ?_
          refine v_iload_n (pc' := 99) (j := 1) F d_M_moves_98 rfl rfl rfl ?_
          refine v_dup2 (pc' := 100) F d_M_moves_99 rfl rfl rfl ?_
          refine mg_4 (pc' := 101) F hM6 d_M_moves_100 rfl (by omega) (by omega) ?_
          refine v_un (by decide) ?_
          refine v_un (by decide) ?_
          refine v_iconst (pc' := 102) F d_M_moves_101 rfl ?_
          refine v_iadd (pc' := 103) F d_M_moves_102 rfl ?_
          refine mp_4 (pc' := 104) F hM6 d_M_moves_103 rfl (by omega) (by omega) (fun h7 hM7 hF7 => ?_)
          refine v_aload_n (pc' := 105) (j := 0) F d_M_moves_104 rfl rfl rfl ?_
          refine v_getf (pc' := 108) (C := zR_M) (T := zF_M) (N := 28) (ref := "BillSharesModel") F d_M_moves_105 rfl zi_M rfl 4 (by decide) wx_665 (Or.inl rfl) hM7.1 rfl ?_
          refine v_iload_n (pc' := 109) (j := 1) F d_M_moves_108 rfl rfl rfl ?_
          refine mg_4 (pc' := 110) F hM7 d_M_moves_109 rfl (by omega) (by omega) ?_
          refine v_us ?_
          refine v_iconst (pc' := 111) F d_M_moves_110 rfl ?_
          refine v_isub (pc' := 112) F d_M_moves_111 rfl ?_
          refine v_ireturn F rfl d_M_moves_112 rfl rfl (Nat.le_refl _) (Nat.le_refl _) ?_
          first | (rw [show sp_moves M f d = (1, 0, M) from if_neg (by omega)]; exact ⟨_, hM7, ((((((MF.rf).tr hF5)).tr hF6)).tr hF7), rfl, upM_ss, eqv.note (Or.inl rfl), 0, rfl, fun q => absurd (show (1 : Int) = 0 from q) (by decide)⟩) | (rw [show sp_moves M f d = (2, 0, M) from (if_pos (by omega)).trans (if_neg (by omega))]; exact ⟨_, hM7, ((((((MF.rf).tr hF5)).tr hF6)).tr hF7), rfl, upM_ss, eqv.note (Or.inl rfl), 0, rfl, fun q => absurd (show (2 : Int) = 0 from q) (by decide)⟩) | (rw [show sp_moves M f d = _ from (if_pos (by omega)).trans (if_pos (by omega))]; exact ⟨_, hM7, ((((((MF.rf).tr hF5)).tr hF6)).tr hF7), rfl, (by rw [upM_n (by decide)]; rw [upM_n (by decide)]; exact upM_ss), ((eqv.note (Or.inl rfl)).up 5 _ _).up 4 _ _, _, rfl, fun _ => (by show M 4 f + 1 - 1 = M 4 f; omega)⟩)
end
section
/-! put, reading, changed, correct of the reference (written by wip/whole/mm4.py) -/
def sp_put (M : MS) (f d v w b : Int) : Int × Int × MS := if (0 ≤ f ∧ f < M 7 0) ∧ (0 ≤ d ∧ d ≤ 3649) ∧ (0 ≤ v ∧ v ≤ 10000000) ∧ (0 ≤ w ∧ w ≤ 10000000) ∧ (M 13 f = 0 ∨ M 14 (40 * f + M 13 f - 1) < d ∧ M 16 (40 * f + M 13 f - 1) ≤ v) then (if M 13 f < 40 then (0, M 13 f + 1, upM (upM (upM (upM (upM M 14 (40 * f + M 13 f) d) 15 (40 * f + M 13 f) v) 16 (40 * f + M 13 f) w) 17 (40 * f + M 13 f) b) 13 f (M 13 f + 1)) else (2, 0, M)) else (1, 0, M)
set_option maxRecDepth 100000 in
set_option maxHeartbeats 4000000 in
theorem c_M_put (l : Launch) (X : am_X) (h : am_H) (nx : Nat) (y : Nat) (M : MS) (f d v w b : Int) (hM : RepM y M h) (hme : 0 ≤ M 7 0 ∧ M 7 0 ≤ 60) (hrd : ∀ f : Int, 0 ≤ f → f < M 7 0 → 0 ≤ M 13 f ∧ M 13 f ≤ 40) (hda : ∀ i : Int, 0 ≤ i → i < 2400 → 0 ≤ M 14 i ∧ M 14 i ≤ 3649) (hgo : ∀ i : Int, 0 ≤ i → i < 2400 → 0 ≤ M 16 i ∧ M 16 i ≤ 10000000) (rf : -2147483648 ≤ f ∧ f < 2147483648) (rd : -2147483648 ≤ d ∧ d < 2147483648) (rv : -2147483648 ≤ v ∧ v < 2147483648) (rw : -2147483648 ≤ w ∧ w < 2147483648) (hb : b = 0 ∨ b = 1) : Cn l X y_M_put ({ frames := 2, cells := 0, slots := 0, locals := 42 }) [.ref y, iV f, iV d, iV v, iV w, iV b] h nx (mpost y h nx iV (sp_put M f d v w b)) := by
  refine cn_of (k := 2) (L0 := [some (.ref y), some (iV f), some (iV d), some (iV v), some (iV w), some (iV b), none, none]) rfl wx_777 (Nat.le_of_ble_eq_true rfl) rfl (fun p e s m args below meth c F => ?_)
  refine v_aload_n (pc' := 1) (j := 0) F d_M_put_0 rfl rfl rfl ?_
  refine v_iload_n (pc' := 2) (j := 1) F d_M_put_1 rfl rfl rfl ?_
  refine v_callVP (pc' := 5) (C := zR_M) (T9 := zF_M) (N := 28) F d_M_put_2 rfl cal_M_isMeter wx_778 wx_780 wp_19 rfl hM.1 (c_M_isMeter l X _ _ _ _ _ hM hme (by omega)) rfl ⟨by decide, by decide, by decide, by decide⟩ (Nat.le_of_ble_eq_true rfl) rfl rfl ?_
  refine v_zif_eq (tgt := 24) (pc' := 8) F d_M_put_5 (by decide) rfl (fun c5 => ?_) (fun c5 => ?_)
  · refine v_iconst (pc' := 25) F d_M_put_24 rfl ?_
    refine v_istore_6 (pc' := 27) F d_M_put_25 rfl rfl (by decide) ?_
    refine v_aload_n (pc' := 28) (j := 0) F d_M_put_27 rfl rfl rfl ?_
    refine v_iload_n (pc' := 29) (j := 1) F d_M_put_28 rfl rfl rfl ?_
    refine v_callVP (pc' := 32) (C := zR_M) (T9 := zF_M) (N := 28) F d_M_put_29 rfl cal_M_isMeter wx_778 wx_780 wp_19 rfl hM.1 (c_M_isMeter l X _ _ _ _ _ hM hme (by omega)) rfl ⟨by decide, by decide, by decide, by decide⟩ (Nat.le_of_ble_eq_true rfl) rfl rfl ?_
    refine v_zif_eq (tgt := 65) (pc' := 35) F d_M_put_32 (by decide) rfl (fun c32 => ?_) (fun c32 => ?_)
    · refine v_iconst (pc' := 66) F d_M_put_65 rfl ?_
      refine v_istore_7 (pc' := 68) F d_M_put_66 rfl rfl (by decide) ?_
      refine v_iload (pc' := 70) F d_M_put_68 rfl rfl ?_
      refine v_if_eq (tgt := 108) (pc' := 73) F d_M_put_70 (by decide) rfl (by omega) (fun c70 => ?_) (fun c70 => by exfalso; omega)
      refine v_iconst (pc' := 109) F d_M_put_108 rfl ?_
      refine v_istore_7 (pc' := 111) F d_M_put_109 rfl rfl (by decide) ?_
      refine v_aload_n (pc' := 112) (j := 0) F d_M_put_111 rfl rfl rfl ?_
      refine v_iload (pc' := 114) F d_M_put_112 rfl rfl ?_
      refine v_iload (pc' := 116) F d_M_put_114 rfl rfl ?_
      refine v_if_eq (tgt := 134) (pc' := 119) F d_M_put_116 (by decide) rfl (by omega) (fun c116 => ?_) (fun c116 => by exfalso; omega)
      refine v_iconst (pc' := 135) F d_M_put_134 rfl ?_
      refine v_callVM (pc' := 138) (C := zR_M) (T9 := zF_M) (N := 28) F d_M_put_135 rfl cal_M_allows wx_758 wx_760 wp_16 rfl hM.1 (c_allows_1 l X _ _ _ _ _ hM (by omega)) rfl ⟨by decide, by decide, by decide, by decide⟩ (Nat.le_of_ble_eq_true rfl) rfl rfl (fun h1 hM1 hF1 => ?_)
      refine v_if_ne (tgt := 143) (pc' := 141) F d_M_put_138 (by decide) rfl (by omega) (fun c138 => by exfalso; omega) (fun c138 => ?_)
      refine v_iconst (pc' := 142) F d_M_put_141 rfl ?_
      refine v_ireturn F rfl d_M_put_142 rfl rfl (Nat.le_refl _) (Nat.le_refl _) ?_
      first | (exfalso; omega) | (rw [show sp_put M f d v w b = (1, 0, M) from if_neg (by omega)]; exact ⟨_, hM1, ((MF.rf).tr hF1), rfl, upM_ss, eqv.note (Or.inl rfl), 0, rfl, fun q => absurd (show (1 : Int) = 0 from q) (by decide)⟩) | (rw [show sp_put M f d v w b = (2, 0, M) from (if_pos (by omega)).trans (if_neg (by omega))]; exact ⟨_, hM1, ((MF.rf).tr hF1), rfl, upM_ss, eqv.note (Or.inl rfl), 0, rfl, fun q => absurd (show (2 : Int) = 0 from q) (by decide)⟩) | (rw [show sp_put M f d v w b = _ from (if_pos (by omega)).trans (if_pos (by omega))]; exact ⟨_, hM1, ((MF.rf).tr hF1), rfl, (by rw [upM_n (by decide)]; rw [upM_n (by decide)]; rw [upM_n (by decide)]; rw [upM_n (by decide)]; rw [upM_n (by decide)]; exact upM_ss), (((((eqv.note (Or.inl rfl)).up 14 _ _).up 15 _ _).up 16 _ _).up 17 _ _).up 13 _ _, _, rfl, fun _ => rfl⟩)
    · refine v_iload_n (pc' := 36) (j := 2) F d_M_put_35 rfl rfl rfl ?_
      refine v_iconst (pc' := 37) F d_M_put_36 rfl ?_
      refine v_sipush (pc' := 40) F d_M_put_37 rfl (by decide) ?_
      refine v_callSP (pc' := 43) F d_M_put_40 rfl cal_M_isIn wx_755 wx_756 (c_M_isIn l X _ _ _ _ _ (by omega) (by omega) (by omega)) rfl ⟨by decide, by decide, by decide, by decide⟩ (Nat.le_of_ble_eq_true rfl) rfl rfl ?_
      refine v_zif_eq (tgt := 65) (pc' := 46) F d_M_put_43 (by decide) rfl (fun c43 => ?_) (fun c43 => ?_)
      · refine v_iconst (pc' := 66) F d_M_put_65 rfl ?_
        refine v_istore_7 (pc' := 68) F d_M_put_66 rfl rfl (by decide) ?_
        refine v_iload (pc' := 70) F d_M_put_68 rfl rfl ?_
        refine v_if_eq (tgt := 108) (pc' := 73) F d_M_put_70 (by decide) rfl (by omega) (fun c70 => ?_) (fun c70 => by exfalso; omega)
        refine v_iconst (pc' := 109) F d_M_put_108 rfl ?_
        refine v_istore_7 (pc' := 111) F d_M_put_109 rfl rfl (by decide) ?_
        refine v_aload_n (pc' := 112) (j := 0) F d_M_put_111 rfl rfl rfl ?_
        refine v_iload (pc' := 114) F d_M_put_112 rfl rfl ?_
        refine v_iload (pc' := 116) F d_M_put_114 rfl rfl ?_
        refine v_if_eq (tgt := 134) (pc' := 119) F d_M_put_116 (by decide) rfl (by omega) (fun c116 => ?_) (fun c116 => by exfalso; omega)
        refine v_iconst (pc' := 135) F d_M_put_134 rfl ?_
        refine v_callVM (pc' := 138) (C := zR_M) (T9 := zF_M) (N := 28) F d_M_put_135 rfl cal_M_allows wx_758 wx_760 wp_16 rfl hM.1 (c_allows_1 l X _ _ _ _ _ hM (by omega)) rfl ⟨by decide, by decide, by decide, by decide⟩ (Nat.le_of_ble_eq_true rfl) rfl rfl (fun h2 hM2 hF2 => ?_)
        refine v_if_ne (tgt := 143) (pc' := 141) F d_M_put_138 (by decide) rfl (by omega) (fun c138 => by exfalso; omega) (fun c138 => ?_)
        refine v_iconst (pc' := 142) F d_M_put_141 rfl ?_
        refine v_ireturn F rfl d_M_put_142 rfl rfl (Nat.le_refl _) (Nat.le_refl _) ?_
        first | (exfalso; omega) | (rw [show sp_put M f d v w b = (1, 0, M) from if_neg (by omega)]; exact ⟨_, hM2, ((MF.rf).tr hF2), rfl, upM_ss, eqv.note (Or.inl rfl), 0, rfl, fun q => absurd (show (1 : Int) = 0 from q) (by decide)⟩) | (rw [show sp_put M f d v w b = (2, 0, M) from (if_pos (by omega)).trans (if_neg (by omega))]; exact ⟨_, hM2, ((MF.rf).tr hF2), rfl, upM_ss, eqv.note (Or.inl rfl), 0, rfl, fun q => absurd (show (2 : Int) = 0 from q) (by decide)⟩) | (rw [show sp_put M f d v w b = _ from (if_pos (by omega)).trans (if_pos (by omega))]; exact ⟨_, hM2, ((MF.rf).tr hF2), rfl, (by rw [upM_n (by decide)]; rw [upM_n (by decide)]; rw [upM_n (by decide)]; rw [upM_n (by decide)]; rw [upM_n (by decide)]; exact upM_ss), (((((eqv.note (Or.inl rfl)).up 14 _ _).up 15 _ _).up 16 _ _).up 17 _ _).up 13 _ _, _, rfl, fun _ => rfl⟩)
      · refine v_iload_n (pc' := 47) (j := 3) F d_M_put_46 rfl rfl rfl ?_
        refine v_callSP (pc' := 50) F d_M_put_47 rfl cal_M_isValue wx_782 wx_783 (c_M_isValue l X _ _ _ (by omega)) rfl ⟨by decide, by decide, by decide, by decide⟩ (Nat.le_of_ble_eq_true rfl) rfl rfl ?_
        refine v_zif_eq (tgt := 65) (pc' := 53) F d_M_put_50 (by decide) rfl (fun c50 => ?_) (fun c50 => ?_)
        · refine v_iconst (pc' := 66) F d_M_put_65 rfl ?_
          refine v_istore_7 (pc' := 68) F d_M_put_66 rfl rfl (by decide) ?_
          refine v_iload (pc' := 70) F d_M_put_68 rfl rfl ?_
          refine v_if_eq (tgt := 108) (pc' := 73) F d_M_put_70 (by decide) rfl (by omega) (fun c70 => ?_) (fun c70 => by exfalso; omega)
          refine v_iconst (pc' := 109) F d_M_put_108 rfl ?_
          refine v_istore_7 (pc' := 111) F d_M_put_109 rfl rfl (by decide) ?_
          refine v_aload_n (pc' := 112) (j := 0) F d_M_put_111 rfl rfl rfl ?_
          refine v_iload (pc' := 114) F d_M_put_112 rfl rfl ?_
          refine v_iload (pc' := 116) F d_M_put_114 rfl rfl ?_
          refine v_if_eq (tgt := 134) (pc' := 119) F d_M_put_116 (by decide) rfl (by omega) (fun c116 => ?_) (fun c116 => by exfalso; omega)
          refine v_iconst (pc' := 135) F d_M_put_134 rfl ?_
          refine v_callVM (pc' := 138) (C := zR_M) (T9 := zF_M) (N := 28) F d_M_put_135 rfl cal_M_allows wx_758 wx_760 wp_16 rfl hM.1 (c_allows_1 l X _ _ _ _ _ hM (by omega)) rfl ⟨by decide, by decide, by decide, by decide⟩ (Nat.le_of_ble_eq_true rfl) rfl rfl (fun h3 hM3 hF3 => ?_)
          refine v_if_ne (tgt := 143) (pc' := 141) F d_M_put_138 (by decide) rfl (by omega) (fun c138 => by exfalso; omega) (fun c138 => ?_)
          refine v_iconst (pc' := 142) F d_M_put_141 rfl ?_
          refine v_ireturn F rfl d_M_put_142 rfl rfl (Nat.le_refl _) (Nat.le_refl _) ?_
          first | (exfalso; omega) | (rw [show sp_put M f d v w b = (1, 0, M) from if_neg (by omega)]; exact ⟨_, hM3, ((MF.rf).tr hF3), rfl, upM_ss, eqv.note (Or.inl rfl), 0, rfl, fun q => absurd (show (1 : Int) = 0 from q) (by decide)⟩) | (rw [show sp_put M f d v w b = (2, 0, M) from (if_pos (by omega)).trans (if_neg (by omega))]; exact ⟨_, hM3, ((MF.rf).tr hF3), rfl, upM_ss, eqv.note (Or.inl rfl), 0, rfl, fun q => absurd (show (2 : Int) = 0 from q) (by decide)⟩) | (rw [show sp_put M f d v w b = _ from (if_pos (by omega)).trans (if_pos (by omega))]; exact ⟨_, hM3, ((MF.rf).tr hF3), rfl, (by rw [upM_n (by decide)]; rw [upM_n (by decide)]; rw [upM_n (by decide)]; rw [upM_n (by decide)]; rw [upM_n (by decide)]; exact upM_ss), (((((eqv.note (Or.inl rfl)).up 14 _ _).up 15 _ _).up 16 _ _).up 17 _ _).up 13 _ _, _, rfl, fun _ => rfl⟩)
        · refine v_iload (pc' := 55) F d_M_put_53 rfl rfl ?_
          refine v_callSP (pc' := 58) F d_M_put_55 rfl cal_M_isValue wx_782 wx_783 (c_M_isValue l X _ _ _ (by omega)) rfl ⟨by decide, by decide, by decide, by decide⟩ (Nat.le_of_ble_eq_true rfl) rfl rfl ?_
          refine v_zif_eq (tgt := 65) (pc' := 61) F d_M_put_58 (by decide) rfl (fun c58 => ?_) (fun c58 => ?_)
          · refine v_iconst (pc' := 66) F d_M_put_65 rfl ?_
            refine v_istore_7 (pc' := 68) F d_M_put_66 rfl rfl (by decide) ?_
            refine v_iload (pc' := 70) F d_M_put_68 rfl rfl ?_
            refine v_if_eq (tgt := 108) (pc' := 73) F d_M_put_70 (by decide) rfl (by omega) (fun c70 => ?_) (fun c70 => by exfalso; omega)
            refine v_iconst (pc' := 109) F d_M_put_108 rfl ?_
            refine v_istore_7 (pc' := 111) F d_M_put_109 rfl rfl (by decide) ?_
            refine v_aload_n (pc' := 112) (j := 0) F d_M_put_111 rfl rfl rfl ?_
            refine v_iload (pc' := 114) F d_M_put_112 rfl rfl ?_
            refine v_iload (pc' := 116) F d_M_put_114 rfl rfl ?_
            refine v_if_eq (tgt := 134) (pc' := 119) F d_M_put_116 (by decide) rfl (by omega) (fun c116 => ?_) (fun c116 => by exfalso; omega)
            refine v_iconst (pc' := 135) F d_M_put_134 rfl ?_
            refine v_callVM (pc' := 138) (C := zR_M) (T9 := zF_M) (N := 28) F d_M_put_135 rfl cal_M_allows wx_758 wx_760 wp_16 rfl hM.1 (c_allows_1 l X _ _ _ _ _ hM (by omega)) rfl ⟨by decide, by decide, by decide, by decide⟩ (Nat.le_of_ble_eq_true rfl) rfl rfl (fun h4 hM4 hF4 => ?_)
            refine v_if_ne (tgt := 143) (pc' := 141) F d_M_put_138 (by decide) rfl (by omega) (fun c138 => by exfalso; omega) (fun c138 => ?_)
            refine v_iconst (pc' := 142) F d_M_put_141 rfl ?_
            refine v_ireturn F rfl d_M_put_142 rfl rfl (Nat.le_refl _) (Nat.le_refl _) ?_
            first | (exfalso; omega) | (rw [show sp_put M f d v w b = (1, 0, M) from if_neg (by omega)]; exact ⟨_, hM4, ((MF.rf).tr hF4), rfl, upM_ss, eqv.note (Or.inl rfl), 0, rfl, fun q => absurd (show (1 : Int) = 0 from q) (by decide)⟩) | (rw [show sp_put M f d v w b = (2, 0, M) from (if_pos (by omega)).trans (if_neg (by omega))]; exact ⟨_, hM4, ((MF.rf).tr hF4), rfl, upM_ss, eqv.note (Or.inl rfl), 0, rfl, fun q => absurd (show (2 : Int) = 0 from q) (by decide)⟩) | (rw [show sp_put M f d v w b = _ from (if_pos (by omega)).trans (if_pos (by omega))]; exact ⟨_, hM4, ((MF.rf).tr hF4), rfl, (by rw [upM_n (by decide)]; rw [upM_n (by decide)]; rw [upM_n (by decide)]; rw [upM_n (by decide)]; rw [upM_n (by decide)]; exact upM_ss), (((((eqv.note (Or.inl rfl)).up 14 _ _).up 15 _ _).up 16 _ _).up 17 _ _).up 13 _ _, _, rfl, fun _ => rfl⟩)
          · refine v_iconst (pc' := 62) F d_M_put_61 rfl ?_
            refine v_goto (tgt := 66) F d_M_put_62 (by decide) ?_
            refine v_istore_7 (pc' := 68) F d_M_put_66 rfl rfl (by decide) ?_
            refine v_iload (pc' := 70) F d_M_put_68 rfl rfl ?_
            refine v_if_eq (tgt := 108) (pc' := 73) F d_M_put_70 (by decide) rfl (by omega) (fun c70 => by exfalso; omega) (fun c70 => ?_)
            refine v_aload_n (pc' := 74) (j := 0) F d_M_put_73 rfl rfl rfl ?_
            refine v_getf (pc' := 77) (C := zR_M) (T := zF_M) (N := 28) (ref := "BillSharesModel") F d_M_put_74 rfl zi_M rfl 13 (by decide) wx_674 (Or.inl rfl) hM.1 rfl ?_
            refine v_iload_n (pc' := 78) (j := 1) F d_M_put_77 rfl rfl rfl ?_
            have q1 := hrd f (by omega) (by omega)
            refine mg_13 (pc' := 79) F hM d_M_put_78 rfl (by omega) (by omega) ?_
            refine v_if_eq (tgt := 104) (pc' := 82) F d_M_put_79 (by decide) rfl (by omega) (fun c79 => ?_) (fun c79 => ?_)
            · refine v_iconst (pc' := 105) F d_M_put_104 rfl ?_
              refine v_goto (tgt := 109) F d_M_put_105 (by decide) ?_
              refine v_istore_7 (pc' := 111) F d_M_put_109 rfl rfl (by decide) ?_
              refine v_aload_n (pc' := 112) (j := 0) F d_M_put_111 rfl rfl rfl ?_
              refine v_iload (pc' := 114) F d_M_put_112 rfl rfl ?_
              refine v_iload (pc' := 116) F d_M_put_114 rfl rfl ?_
              refine v_if_eq (tgt := 134) (pc' := 119) F d_M_put_116 (by decide) rfl (by omega) (fun c116 => by exfalso; omega) (fun c116 => ?_)
              refine v_aload_n (pc' := 120) (j := 0) F d_M_put_119 rfl rfl rfl ?_
              refine v_getf (pc' := 123) (C := zR_M) (T := zF_M) (N := 28) (ref := "BillSharesModel") F d_M_put_120 rfl zi_M rfl 13 (by decide) wx_674 (Or.inl rfl) hM.1 rfl ?_
              refine v_iload_n (pc' := 124) (j := 1) F d_M_put_123 rfl rfl rfl ?_
              refine mg_13 (pc' := 125) F hM d_M_put_124 rfl (by omega) (by omega) ?_
              refine v_bipush (pc' := 127) F d_M_put_125 rfl (by decide) ?_
              refine v_icmp_ge (tgt := 134) (pc' := 130) F d_M_put_127 (by decide) rfl (by omega) (by omega) (fun c127 => ?_) (fun c127 => ?_)
              · refine v_iconst (pc' := 135) F d_M_put_134 rfl ?_
                refine v_callVM (pc' := 138) (C := zR_M) (T9 := zF_M) (N := 28) F d_M_put_135 rfl cal_M_allows wx_758 wx_760 wp_16 rfl hM.1 (c_allows_2 l X _ _ _ _ hM) rfl ⟨by decide, by decide, by decide, by decide⟩ (Nat.le_of_ble_eq_true rfl) rfl rfl (fun h5 hM5 hF5 => ?_)
                refine v_if_ne (tgt := 143) (pc' := 141) F d_M_put_138 (by decide) rfl (by omega) (fun c138 => by exfalso; omega) (fun c138 => ?_)
                refine v_iconst (pc' := 142) F d_M_put_141 rfl ?_
                refine v_ireturn F rfl d_M_put_142 rfl rfl (Nat.le_refl _) (Nat.le_refl _) ?_
                first | (exfalso; omega) | (rw [show sp_put M f d v w b = (1, 0, M) from if_neg (by omega)]; exact ⟨_, hM5, ((MF.rf).tr hF5), rfl, upM_ss, eqv.note (Or.inl rfl), 0, rfl, fun q => absurd (show (1 : Int) = 0 from q) (by decide)⟩) | (rw [show sp_put M f d v w b = (2, 0, M) from (if_pos (by omega)).trans (if_neg (by omega))]; exact ⟨_, hM5, ((MF.rf).tr hF5), rfl, upM_ss, eqv.note (Or.inl rfl), 0, rfl, fun q => absurd (show (2 : Int) = 0 from q) (by decide)⟩) | (rw [show sp_put M f d v w b = _ from (if_pos (by omega)).trans (if_pos (by omega))]; exact ⟨_, hM5, ((MF.rf).tr hF5), rfl, (by rw [upM_n (by decide)]; rw [upM_n (by decide)]; rw [upM_n (by decide)]; rw [upM_n (by decide)]; rw [upM_n (by decide)]; exact upM_ss), (((((eqv.note (Or.inl rfl)).up 14 _ _).up 15 _ _).up 16 _ _).up 17 _ _).up 13 _ _, _, rfl, fun _ => rfl⟩)
              · refine v_iconst (pc' := 131) F d_M_put_130 rfl ?_
                refine v_goto (tgt := 135) F d_M_put_131 (by decide) ?_
                refine v_callVM (pc' := 138) (C := zR_M) (T9 := zF_M) (N := 28) F d_M_put_135 rfl cal_M_allows wx_758 wx_760 wp_16 rfl hM.1 (c_allows_0 l X _ _ _ _ hM) rfl ⟨by decide, by decide, by decide, by decide⟩ (Nat.le_of_ble_eq_true rfl) rfl rfl (fun h6 hM6 hF6 => ?_)
                refine v_if_ne (tgt := 143) (pc' := 141) F d_M_put_138 (by decide) rfl (by omega) (fun c138 => ?_) (fun c138 => by exfalso; omega)
                refine v_aload_n (pc' := 144) (j := 0) F d_M_put_143 rfl rfl rfl ?_
                refine v_getf (pc' := 147) (C := zR_M) (T := zF_M) (N := 28) (ref := "BillSharesModel") F d_M_put_144 rfl zi_M rfl 14 (by decide) wx_675 (Or.inl rfl) hM6.1 rfl ?_
                refine v_iload (pc' := 149) F d_M_put_147 rfl rfl ?_
                refine v_iconst (pc' := 150) F d_M_put_149 rfl ?_
                refine v_iadd (pc' := 151) F d_M_put_150 rfl ?_
                refine v_topi (b := 40 * f + M 13 f) (by omega) ?_
                refine v_iload_n (pc' := 152) (j := 2) F d_M_put_151 rfl rfl rfl ?_
                refine mp_14 (pc' := 153) F hM6 d_M_put_152 rfl (by omega) (by omega) (fun h7 hM7 hF7 => ?_)
                refine v_aload_n (pc' := 154) (j := 0) F d_M_put_153 rfl rfl rfl ?_
                refine v_getf (pc' := 157) (C := zR_M) (T := zF_M) (N := 28) (ref := "BillSharesModel") F d_M_put_154 rfl zi_M rfl 15 (by decide) wx_676 (Or.inl rfl) hM7.1 rfl ?_
                refine v_iload (pc' := 159) F d_M_put_157 rfl rfl ?_
                refine v_iconst (pc' := 160) F d_M_put_159 rfl ?_
                refine v_iadd (pc' := 161) F d_M_put_160 rfl ?_
                refine v_topi (b := 40 * f + M 13 f) (by omega) ?_
                refine v_iload_n (pc' := 162) (j := 3) F d_M_put_161 rfl rfl rfl ?_
                refine mp_15 (pc' := 163) F hM7 d_M_put_162 rfl (by omega) (by omega) (fun h8 hM8 hF8 => ?_)
                refine v_aload_n (pc' := 164) (j := 0) F d_M_put_163 rfl rfl rfl ?_
                refine v_getf (pc' := 167) (C := zR_M) (T := zF_M) (N := 28) (ref := "BillSharesModel") F d_M_put_164 rfl zi_M rfl 16 (by decide) wx_677 (Or.inl rfl) hM8.1 rfl ?_
                refine v_iload (pc' := 169) F d_M_put_167 rfl rfl ?_
                refine v_iconst (pc' := 170) F d_M_put_169 rfl ?_
                refine v_iadd (pc' := 171) F d_M_put_170 rfl ?_
                refine v_topi (b := 40 * f + M 13 f) (by omega) ?_
                refine v_iload (pc' := 173) F d_M_put_171 rfl rfl ?_
                refine mp_16 (pc' := 174) F hM8 d_M_put_173 rfl (by omega) (by omega) (fun h9 hM9 hF9 => ?_)
                refine v_aload_n (pc' := 175) (j := 0) F d_M_put_174 rfl rfl rfl ?_
                refine v_getf (pc' := 178) (C := zR_M) (T := zF_M) (N := 28) (ref := "BillSharesModel") F d_M_put_175 rfl zi_M rfl 17 (by decide) wx_678 (Or.inl rfl) hM9.1 rfl ?_
                refine v_iload (pc' := 180) F d_M_put_178 rfl rfl ?_
                refine v_iconst (pc' := 181) F d_M_put_180 rfl ?_
                refine v_iadd (pc' := 182) F d_M_put_181 rfl ?_
                refine v_topi (b := 40 * f + M 13 f) (by omega) ?_
                refine v_iload (pc' := 184) F d_M_put_182 rfl rfl ?_
                refine mp_17 (pc' := 185) F hM9 d_M_put_184 rfl (by omega) (by omega) hb (fun h10 hM10 hF10 => ?_)
                refine v_aload_n (pc' := 186) (j := 0) F d_M_put_185 rfl rfl rfl ?_
                refine v_getf (pc' := 189) (C := zR_M) (T := zF_M) (N := 28) (ref := "BillSharesModel") F d_M_put_186 rfl zi_M rfl 13 (by decide) wx_674 (Or.inl rfl) hM10.1 rfl ?_
                refine v_iload_n (pc' := 190) (j := 1) F d_M_put_189 rfl rfl rfl ?_
                refine v_dup2 (pc' := 191) F d_M_put_190 rfl rfl rfl ?_
                refine mg_13 (pc' := 192) F hM10 d_M_put_191 rfl (by omega) (by omega) ?_
                refine v_un (by decide) ?_
                refine v_un (by decide) ?_
                refine v_un (by decide) ?_
                refine v_un (by decide) ?_
                refine v_un (by decide) ?_
                refine v_iconst (pc' := 193) F d_M_put_192 rfl ?_
                refine v_iadd (pc' := 194) F d_M_put_193 rfl ?_
                refine mp_13 (pc' := 195) F hM10 d_M_put_194 rfl (by omega) (by omega) (fun h11 hM11 hF11 => ?_)
                refine v_aload_n (pc' := 196) (j := 0) F d_M_put_195 rfl rfl rfl ?_
                refine v_getf (pc' := 199) (C := zR_M) (T := zF_M) (N := 28) (ref := "BillSharesModel") F d_M_put_196 rfl zi_M rfl 13 (by decide) wx_674 (Or.inl rfl) hM11.1 rfl ?_
                refine v_iload_n (pc' := 200) (j := 1) F d_M_put_199 rfl rfl rfl ?_
                refine mg_13 (pc' := 201) F hM11 d_M_put_200 rfl (by omega) (by omega) ?_
                refine v_us ?_
                refine v_ireturn F rfl d_M_put_201 rfl rfl (Nat.le_refl _) (Nat.le_refl _) ?_
                first | (exfalso; omega) | (rw [show sp_put M f d v w b = (1, 0, M) from if_neg (by omega)]; exact ⟨_, hM11, ((((((((((((MF.rf).tr hF6)).tr hF7)).tr hF8)).tr hF9)).tr hF10)).tr hF11), rfl, upM_ss, eqv.note (Or.inl rfl), 0, rfl, fun q => absurd (show (1 : Int) = 0 from q) (by decide)⟩) | (rw [show sp_put M f d v w b = (2, 0, M) from (if_pos (by omega)).trans (if_neg (by omega))]; exact ⟨_, hM11, ((((((((((((MF.rf).tr hF6)).tr hF7)).tr hF8)).tr hF9)).tr hF10)).tr hF11), rfl, upM_ss, eqv.note (Or.inl rfl), 0, rfl, fun q => absurd (show (2 : Int) = 0 from q) (by decide)⟩) | (rw [show sp_put M f d v w b = _ from (if_pos (by omega)).trans (if_pos (by omega))]; exact ⟨_, hM11, ((((((((((((MF.rf).tr hF6)).tr hF7)).tr hF8)).tr hF9)).tr hF10)).tr hF11), rfl, (by rw [upM_n (by decide)]; rw [upM_n (by decide)]; rw [upM_n (by decide)]; rw [upM_n (by decide)]; rw [upM_n (by decide)]; exact upM_ss), (((((eqv.note (Or.inl rfl)).up 14 _ _).up 15 _ _).up 16 _ _).up 17 _ _).up 13 _ _, _, rfl, fun _ => rfl⟩)
            · refine v_aload_n (pc' := 83) (j := 0) F d_M_put_82 rfl rfl rfl ?_
              refine v_getf (pc' := 86) (C := zR_M) (T := zF_M) (N := 28) (ref := "BillSharesModel") F d_M_put_83 rfl zi_M rfl 14 (by decide) wx_675 (Or.inl rfl) hM.1 rfl ?_
              refine v_iload (pc' := 88) F d_M_put_86 rfl rfl ?_
              have q2 := hda (40 * f + M 13 f - 1) (by omega) (by omega)
              refine mg_14 (pc' := 89) F hM d_M_put_88 rfl (by omega) (by omega) ?_
              refine v_iload_n (pc' := 90) (j := 2) F d_M_put_89 rfl rfl rfl ?_
              refine v_icmp_ge (tgt := 108) (pc' := 93) F d_M_put_90 (by decide) rfl (by omega) (by omega) (fun c90 => ?_) (fun c90 => ?_)
              · refine v_iconst (pc' := 109) F d_M_put_108 rfl ?_
                refine v_istore_7 (pc' := 111) F d_M_put_109 rfl rfl (by decide) ?_
                refine v_aload_n (pc' := 112) (j := 0) F d_M_put_111 rfl rfl rfl ?_
                refine v_iload (pc' := 114) F d_M_put_112 rfl rfl ?_
                refine v_iload (pc' := 116) F d_M_put_114 rfl rfl ?_
                refine v_if_eq (tgt := 134) (pc' := 119) F d_M_put_116 (by decide) rfl (by omega) (fun c116 => ?_) (fun c116 => by exfalso; omega)
                refine v_iconst (pc' := 135) F d_M_put_134 rfl ?_
                refine v_callVM (pc' := 138) (C := zR_M) (T9 := zF_M) (N := 28) F d_M_put_135 rfl cal_M_allows wx_758 wx_760 wp_16 rfl hM.1 (c_allows_1 l X _ _ _ _ _ hM (by omega)) rfl ⟨by decide, by decide, by decide, by decide⟩ (Nat.le_of_ble_eq_true rfl) rfl rfl (fun h12 hM12 hF12 => ?_)
                refine v_if_ne (tgt := 143) (pc' := 141) F d_M_put_138 (by decide) rfl (by omega) (fun c138 => by exfalso; omega) (fun c138 => ?_)
                refine v_iconst (pc' := 142) F d_M_put_141 rfl ?_
                refine v_ireturn F rfl d_M_put_142 rfl rfl (Nat.le_refl _) (Nat.le_refl _) ?_
                first | (exfalso; omega) | (rw [show sp_put M f d v w b = (1, 0, M) from if_neg (by omega)]; exact ⟨_, hM12, ((MF.rf).tr hF12), rfl, upM_ss, eqv.note (Or.inl rfl), 0, rfl, fun q => absurd (show (1 : Int) = 0 from q) (by decide)⟩) | (rw [show sp_put M f d v w b = (2, 0, M) from (if_pos (by omega)).trans (if_neg (by omega))]; exact ⟨_, hM12, ((MF.rf).tr hF12), rfl, upM_ss, eqv.note (Or.inl rfl), 0, rfl, fun q => absurd (show (2 : Int) = 0 from q) (by decide)⟩) | (rw [show sp_put M f d v w b = _ from (if_pos (by omega)).trans (if_pos (by omega))]; exact ⟨_, hM12, ((MF.rf).tr hF12), rfl, (by rw [upM_n (by decide)]; rw [upM_n (by decide)]; rw [upM_n (by decide)]; rw [upM_n (by decide)]; rw [upM_n (by decide)]; exact upM_ss), (((((eqv.note (Or.inl rfl)).up 14 _ _).up 15 _ _).up 16 _ _).up 17 _ _).up 13 _ _, _, rfl, fun _ => rfl⟩)
              · refine v_aload_n (pc' := 94) (j := 0) F d_M_put_93 rfl rfl rfl ?_
                refine v_getf (pc' := 97) (C := zR_M) (T := zF_M) (N := 28) (ref := "BillSharesModel") F d_M_put_94 rfl zi_M rfl 16 (by decide) wx_677 (Or.inl rfl) hM.1 rfl ?_
                refine v_iload (pc' := 99) F d_M_put_97 rfl rfl ?_
                have q3 := hgo (40 * f + M 13 f - 1) (by omega) (by omega)
                refine mg_16 (pc' := 100) F hM d_M_put_99 rfl (by omega) (by omega) ?_
                refine v_iload_n (pc' := 101) (j := 3) F d_M_put_100 rfl rfl rfl ?_
                refine v_icmp_gt (tgt := 108) (pc' := 104) F d_M_put_101 (by decide) rfl (by omega) (by omega) (fun c101 => ?_) (fun c101 => ?_)
                · refine v_iconst (pc' := 109) F d_M_put_108 rfl ?_
                  refine v_istore_7 (pc' := 111) F d_M_put_109 rfl rfl (by decide) ?_
                  refine v_aload_n (pc' := 112) (j := 0) F d_M_put_111 rfl rfl rfl ?_
                  refine v_iload (pc' := 114) F d_M_put_112 rfl rfl ?_
                  refine v_iload (pc' := 116) F d_M_put_114 rfl rfl ?_
                  refine v_if_eq (tgt := 134) (pc' := 119) F d_M_put_116 (by decide) rfl (by omega) (fun c116 => ?_) (fun c116 => by exfalso; omega)
                  refine v_iconst (pc' := 135) F d_M_put_134 rfl ?_
                  refine v_callVM (pc' := 138) (C := zR_M) (T9 := zF_M) (N := 28) F d_M_put_135 rfl cal_M_allows wx_758 wx_760 wp_16 rfl hM.1 (c_allows_1 l X _ _ _ _ _ hM (by omega)) rfl ⟨by decide, by decide, by decide, by decide⟩ (Nat.le_of_ble_eq_true rfl) rfl rfl (fun h13 hM13 hF13 => ?_)
                  refine v_if_ne (tgt := 143) (pc' := 141) F d_M_put_138 (by decide) rfl (by omega) (fun c138 => by exfalso; omega) (fun c138 => ?_)
                  refine v_iconst (pc' := 142) F d_M_put_141 rfl ?_
                  refine v_ireturn F rfl d_M_put_142 rfl rfl (Nat.le_refl _) (Nat.le_refl _) ?_
                  first | (exfalso; omega) | (rw [show sp_put M f d v w b = (1, 0, M) from if_neg (by omega)]; exact ⟨_, hM13, ((MF.rf).tr hF13), rfl, upM_ss, eqv.note (Or.inl rfl), 0, rfl, fun q => absurd (show (1 : Int) = 0 from q) (by decide)⟩) | (rw [show sp_put M f d v w b = (2, 0, M) from (if_pos (by omega)).trans (if_neg (by omega))]; exact ⟨_, hM13, ((MF.rf).tr hF13), rfl, upM_ss, eqv.note (Or.inl rfl), 0, rfl, fun q => absurd (show (2 : Int) = 0 from q) (by decide)⟩) | (rw [show sp_put M f d v w b = _ from (if_pos (by omega)).trans (if_pos (by omega))]; exact ⟨_, hM13, ((MF.rf).tr hF13), rfl, (by rw [upM_n (by decide)]; rw [upM_n (by decide)]; rw [upM_n (by decide)]; rw [upM_n (by decide)]; rw [upM_n (by decide)]; exact upM_ss), (((((eqv.note (Or.inl rfl)).up 14 _ _).up 15 _ _).up 16 _ _).up 17 _ _).up 13 _ _, _, rfl, fun _ => rfl⟩)
                · refine v_iconst (pc' := 105) F d_M_put_104 rfl ?_
                  refine v_goto (tgt := 109) F d_M_put_105 (by decide) ?_
                  refine v_istore_7 (pc' := 111) F d_M_put_109 rfl rfl (by decide) ?_
                  refine v_aload_n (pc' := 112) (j := 0) F d_M_put_111 rfl rfl rfl ?_
                  refine v_iload (pc' := 114) F d_M_put_112 rfl rfl ?_
                  refine v_iload (pc' := 116) F d_M_put_114 rfl rfl ?_
                  refine v_if_eq (tgt := 134) (pc' := 119) F d_M_put_116 (by decide) rfl (by omega) (fun c116 => by exfalso; omega) (fun c116 => ?_)
                  refine v_aload_n (pc' := 120) (j := 0) F d_M_put_119 rfl rfl rfl ?_
                  refine v_getf (pc' := 123) (C := zR_M) (T := zF_M) (N := 28) (ref := "BillSharesModel") F d_M_put_120 rfl zi_M rfl 13 (by decide) wx_674 (Or.inl rfl) hM.1 rfl ?_
                  refine v_iload_n (pc' := 124) (j := 1) F d_M_put_123 rfl rfl rfl ?_
                  refine mg_13 (pc' := 125) F hM d_M_put_124 rfl (by omega) (by omega) ?_
                  refine v_bipush (pc' := 127) F d_M_put_125 rfl (by decide) ?_
                  refine v_icmp_ge (tgt := 134) (pc' := 130) F d_M_put_127 (by decide) rfl (by omega) (by omega) (fun c127 => ?_) (fun c127 => ?_)
                  · refine v_iconst (pc' := 135) F d_M_put_134 rfl ?_
                    refine v_callVM (pc' := 138) (C := zR_M) (T9 := zF_M) (N := 28) F d_M_put_135 rfl cal_M_allows wx_758 wx_760 wp_16 rfl hM.1 (c_allows_2 l X _ _ _ _ hM) rfl ⟨by decide, by decide, by decide, by decide⟩ (Nat.le_of_ble_eq_true rfl) rfl rfl (fun h14 hM14 hF14 => ?_)
                    refine v_if_ne (tgt := 143) (pc' := 141) F d_M_put_138 (by decide) rfl (by omega) (fun c138 => by exfalso; omega) (fun c138 => ?_)
                    refine v_iconst (pc' := 142) F d_M_put_141 rfl ?_
                    refine v_ireturn F rfl d_M_put_142 rfl rfl (Nat.le_refl _) (Nat.le_refl _) ?_
                    first | (exfalso; omega) | (rw [show sp_put M f d v w b = (1, 0, M) from if_neg (by omega)]; exact ⟨_, hM14, ((MF.rf).tr hF14), rfl, upM_ss, eqv.note (Or.inl rfl), 0, rfl, fun q => absurd (show (1 : Int) = 0 from q) (by decide)⟩) | (rw [show sp_put M f d v w b = (2, 0, M) from (if_pos (by omega)).trans (if_neg (by omega))]; exact ⟨_, hM14, ((MF.rf).tr hF14), rfl, upM_ss, eqv.note (Or.inl rfl), 0, rfl, fun q => absurd (show (2 : Int) = 0 from q) (by decide)⟩) | (rw [show sp_put M f d v w b = _ from (if_pos (by omega)).trans (if_pos (by omega))]; exact ⟨_, hM14, ((MF.rf).tr hF14), rfl, (by rw [upM_n (by decide)]; rw [upM_n (by decide)]; rw [upM_n (by decide)]; rw [upM_n (by decide)]; rw [upM_n (by decide)]; exact upM_ss), (((((eqv.note (Or.inl rfl)).up 14 _ _).up 15 _ _).up 16 _ _).up 17 _ _).up 13 _ _, _, rfl, fun _ => rfl⟩)
                  · refine v_iconst (pc' := 131) F d_M_put_130 rfl ?_
                    refine v_goto (tgt := 135) F d_M_put_131 (by decide) ?_
                    refine v_callVM (pc' := 138) (C := zR_M) (T9 := zF_M) (N := 28) F d_M_put_135 rfl cal_M_allows wx_758 wx_760 wp_16 rfl hM.1 (c_allows_0 l X _ _ _ _ hM) rfl ⟨by decide, by decide, by decide, by decide⟩ (Nat.le_of_ble_eq_true rfl) rfl rfl (fun h15 hM15 hF15 => ?_)
                    refine v_if_ne (tgt := 143) (pc' := 141) F d_M_put_138 (by decide) rfl (by omega) (fun c138 => ?_) (fun c138 => by exfalso; omega)
                    refine v_aload_n (pc' := 144) (j := 0) F d_M_put_143 rfl rfl rfl ?_
                    refine v_getf (pc' := 147) (C := zR_M) (T := zF_M) (N := 28) (ref := "BillSharesModel") F d_M_put_144 rfl zi_M rfl 14 (by decide) wx_675 (Or.inl rfl) hM15.1 rfl ?_
                    refine v_iload (pc' := 149) F d_M_put_147 rfl rfl ?_
                    refine v_iconst (pc' := 150) F d_M_put_149 rfl ?_
                    refine v_iadd (pc' := 151) F d_M_put_150 rfl ?_
                    refine v_topi (b := 40 * f + M 13 f) (by omega) ?_
                    refine v_iload_n (pc' := 152) (j := 2) F d_M_put_151 rfl rfl rfl ?_
                    refine mp_14 (pc' := 153) F hM15 d_M_put_152 rfl (by omega) (by omega) (fun h16 hM16 hF16 => ?_)
                    refine v_aload_n (pc' := 154) (j := 0) F d_M_put_153 rfl rfl rfl ?_
                    refine v_getf (pc' := 157) (C := zR_M) (T := zF_M) (N := 28) (ref := "BillSharesModel") F d_M_put_154 rfl zi_M rfl 15 (by decide) wx_676 (Or.inl rfl) hM16.1 rfl ?_
                    refine v_iload (pc' := 159) F d_M_put_157 rfl rfl ?_
                    refine v_iconst (pc' := 160) F d_M_put_159 rfl ?_
                    refine v_iadd (pc' := 161) F d_M_put_160 rfl ?_
                    refine v_topi (b := 40 * f + M 13 f) (by omega) ?_
                    refine v_iload_n (pc' := 162) (j := 3) F d_M_put_161 rfl rfl rfl ?_
                    refine mp_15 (pc' := 163) F hM16 d_M_put_162 rfl (by omega) (by omega) (fun h17 hM17 hF17 => ?_)
                    refine v_aload_n (pc' := 164) (j := 0) F d_M_put_163 rfl rfl rfl ?_
                    refine v_getf (pc' := 167) (C := zR_M) (T := zF_M) (N := 28) (ref := "BillSharesModel") F d_M_put_164 rfl zi_M rfl 16 (by decide) wx_677 (Or.inl rfl) hM17.1 rfl ?_
                    refine v_iload (pc' := 169) F d_M_put_167 rfl rfl ?_
                    refine v_iconst (pc' := 170) F d_M_put_169 rfl ?_
                    refine v_iadd (pc' := 171) F d_M_put_170 rfl ?_
                    refine v_topi (b := 40 * f + M 13 f) (by omega) ?_
                    refine v_iload (pc' := 173) F d_M_put_171 rfl rfl ?_
                    refine mp_16 (pc' := 174) F hM17 d_M_put_173 rfl (by omega) (by omega) (fun h18 hM18 hF18 => ?_)
                    refine v_aload_n (pc' := 175) (j := 0) F d_M_put_174 rfl rfl rfl ?_
                    refine v_getf (pc' := 178) (C := zR_M) (T := zF_M) (N := 28) (ref := "BillSharesModel") F d_M_put_175 rfl zi_M rfl 17 (by decide) wx_678 (Or.inl rfl) hM18.1 rfl ?_
                    refine v_iload (pc' := 180) F d_M_put_178 rfl rfl ?_
                    refine v_iconst (pc' := 181) F d_M_put_180 rfl ?_
                    refine v_iadd (pc' := 182) F d_M_put_181 rfl ?_
                    refine v_topi (b := 40 * f + M 13 f) (by omega) ?_
                    refine v_iload (pc' := 184) F d_M_put_182 rfl rfl ?_
                    refine mp_17 (pc' := 185) F hM18 d_M_put_184 rfl (by omega) (by omega) hb (fun h19 hM19 hF19 => ?_)
                    refine v_aload_n (pc' := 186) (j := 0) F d_M_put_185 rfl rfl rfl ?_
                    refine v_getf (pc' := 189) (C := zR_M) (T := zF_M) (N := 28) (ref := "BillSharesModel") F d_M_put_186 rfl zi_M rfl 13 (by decide) wx_674 (Or.inl rfl) hM19.1 rfl ?_
                    refine v_iload_n (pc' := 190) (j := 1) F d_M_put_189 rfl rfl rfl ?_
                    refine v_dup2 (pc' := 191) F d_M_put_190 rfl rfl rfl ?_
                    refine mg_13 (pc' := 192) F hM19 d_M_put_191 rfl (by omega) (by omega) ?_
                    refine v_un (by decide) ?_
                    refine v_un (by decide) ?_
                    refine v_un (by decide) ?_
                    refine v_un (by decide) ?_
                    refine v_un (by decide) ?_
                    refine v_iconst (pc' := 193) F d_M_put_192 rfl ?_
                    refine v_iadd (pc' := 194) F d_M_put_193 rfl ?_
                    refine mp_13 (pc' := 195) F hM19 d_M_put_194 rfl (by omega) (by omega) (fun h20 hM20 hF20 => ?_)
                    refine v_aload_n (pc' := 196) (j := 0) F d_M_put_195 rfl rfl rfl ?_
                    refine v_getf (pc' := 199) (C := zR_M) (T := zF_M) (N := 28) (ref := "BillSharesModel") F d_M_put_196 rfl zi_M rfl 13 (by decide) wx_674 (Or.inl rfl) hM20.1 rfl ?_
                    refine v_iload_n (pc' := 200) (j := 1) F d_M_put_199 rfl rfl rfl ?_
                    refine mg_13 (pc' := 201) F hM20 d_M_put_200 rfl (by omega) (by omega) ?_
                    refine v_us ?_
                    refine v_ireturn F rfl d_M_put_201 rfl rfl (Nat.le_refl _) (Nat.le_refl _) ?_
                    first | (exfalso; omega) | (rw [show sp_put M f d v w b = (1, 0, M) from if_neg (by omega)]; exact ⟨_, hM20, ((((((((((((MF.rf).tr hF15)).tr hF16)).tr hF17)).tr hF18)).tr hF19)).tr hF20), rfl, upM_ss, eqv.note (Or.inl rfl), 0, rfl, fun q => absurd (show (1 : Int) = 0 from q) (by decide)⟩) | (rw [show sp_put M f d v w b = (2, 0, M) from (if_pos (by omega)).trans (if_neg (by omega))]; exact ⟨_, hM20, ((((((((((((MF.rf).tr hF15)).tr hF16)).tr hF17)).tr hF18)).tr hF19)).tr hF20), rfl, upM_ss, eqv.note (Or.inl rfl), 0, rfl, fun q => absurd (show (2 : Int) = 0 from q) (by decide)⟩) | (rw [show sp_put M f d v w b = _ from (if_pos (by omega)).trans (if_pos (by omega))]; exact ⟨_, hM20, ((((((((((((MF.rf).tr hF15)).tr hF16)).tr hF17)).tr hF18)).tr hF19)).tr hF20), rfl, (by rw [upM_n (by decide)]; rw [upM_n (by decide)]; rw [upM_n (by decide)]; rw [upM_n (by decide)]; rw [upM_n (by decide)]; exact upM_ss), (((((eqv.note (Or.inl rfl)).up 14 _ _).up 15 _ _).up 16 _ _).up 17 _ _).up 13 _ _, _, rfl, fun _ => rfl⟩)
  · refine v_bipush (pc' := 10) F d_M_put_8 rfl (by decide) ?_
    refine v_iload_n (pc' := 11) (j := 1) F d_M_put_10 rfl rfl rfl ?_
    refine v_imul (pc' := 12) F d_M_put_11 rfl ?_
    refine v_aload_n (pc' := 13) (j := 0) F d_M_put_12 rfl rfl rfl ?_
    refine v_getf (pc' := 16) (C := zR_M) (T := zF_M) (N := 28) (ref := "BillSharesModel") F d_M_put_13 rfl zi_M rfl 13 (by decide) wx_674 (Or.inl rfl) hM.1 rfl ?_
    refine v_iload_n (pc' := 17) (j := 1) F d_M_put_16 rfl rfl rfl ?_
    have q1 := hrd f (by omega) (by omega)
    refine mg_13 (pc' := 18) F hM d_M_put_17 rfl (by omega) (by omega) ?_
    refine v_iadd (pc' := 19) F d_M_put_18 rfl ?_
    refine v_iconst (pc' := 20) F d_M_put_19 rfl ?_
    refine v_isub (pc' := 21) F d_M_put_20 rfl ?_
    refine v_goto (tgt := 25) F d_M_put_21 (by decide) ?_
    refine v_istore_6 (pc' := 27) F d_M_put_25 rfl rfl (by decide) ?_
    refine v_aload_n (pc' := 28) (j := 0) F d_M_put_27 rfl rfl rfl ?_
    refine v_iload_n (pc' := 29) (j := 1) F d_M_put_28 rfl rfl rfl ?_
    refine v_callVP (pc' := 32) (C := zR_M) (T9 := zF_M) (N := 28) F d_M_put_29 rfl cal_M_isMeter wx_778 wx_780 wp_19 rfl hM.1 (c_M_isMeter l X _ _ _ _ _ hM hme (by omega)) rfl ⟨by decide, by decide, by decide, by decide⟩ (Nat.le_of_ble_eq_true rfl) rfl rfl ?_
    refine v_zif_eq (tgt := 65) (pc' := 35) F d_M_put_32 (by decide) rfl (fun c32 => ?_) (fun c32 => ?_)
    · refine v_iconst (pc' := 66) F d_M_put_65 rfl ?_
      refine v_istore_7 (pc' := 68) F d_M_put_66 rfl rfl (by decide) ?_
      refine v_iload (pc' := 70) F d_M_put_68 rfl rfl ?_
      refine v_if_eq (tgt := 108) (pc' := 73) F d_M_put_70 (by decide) rfl (by omega) (fun c70 => ?_) (fun c70 => by exfalso; omega)
      refine v_iconst (pc' := 109) F d_M_put_108 rfl ?_
      refine v_istore_7 (pc' := 111) F d_M_put_109 rfl rfl (by decide) ?_
      refine v_aload_n (pc' := 112) (j := 0) F d_M_put_111 rfl rfl rfl ?_
      refine v_iload (pc' := 114) F d_M_put_112 rfl rfl ?_
      refine v_iload (pc' := 116) F d_M_put_114 rfl rfl ?_
      refine v_if_eq (tgt := 134) (pc' := 119) F d_M_put_116 (by decide) rfl (by omega) (fun c116 => ?_) (fun c116 => by exfalso; omega)
      refine v_iconst (pc' := 135) F d_M_put_134 rfl ?_
      refine v_callVM (pc' := 138) (C := zR_M) (T9 := zF_M) (N := 28) F d_M_put_135 rfl cal_M_allows wx_758 wx_760 wp_16 rfl hM.1 (c_allows_1 l X _ _ _ _ _ hM (by omega)) rfl ⟨by decide, by decide, by decide, by decide⟩ (Nat.le_of_ble_eq_true rfl) rfl rfl (fun h21 hM21 hF21 => ?_)
      refine v_if_ne (tgt := 143) (pc' := 141) F d_M_put_138 (by decide) rfl (by omega) (fun c138 => by exfalso; omega) (fun c138 => ?_)
      refine v_iconst (pc' := 142) F d_M_put_141 rfl ?_
      refine v_ireturn F rfl d_M_put_142 rfl rfl (Nat.le_refl _) (Nat.le_refl _) ?_
      first | (exfalso; omega) | (rw [show sp_put M f d v w b = (1, 0, M) from if_neg (by omega)]; exact ⟨_, hM21, ((MF.rf).tr hF21), rfl, upM_ss, eqv.note (Or.inl rfl), 0, rfl, fun q => absurd (show (1 : Int) = 0 from q) (by decide)⟩) | (rw [show sp_put M f d v w b = (2, 0, M) from (if_pos (by omega)).trans (if_neg (by omega))]; exact ⟨_, hM21, ((MF.rf).tr hF21), rfl, upM_ss, eqv.note (Or.inl rfl), 0, rfl, fun q => absurd (show (2 : Int) = 0 from q) (by decide)⟩) | (rw [show sp_put M f d v w b = _ from (if_pos (by omega)).trans (if_pos (by omega))]; exact ⟨_, hM21, ((MF.rf).tr hF21), rfl, (by rw [upM_n (by decide)]; rw [upM_n (by decide)]; rw [upM_n (by decide)]; rw [upM_n (by decide)]; rw [upM_n (by decide)]; exact upM_ss), (((((eqv.note (Or.inl rfl)).up 14 _ _).up 15 _ _).up 16 _ _).up 17 _ _).up 13 _ _, _, rfl, fun _ => rfl⟩)
    · refine v_iload_n (pc' := 36) (j := 2) F d_M_put_35 rfl rfl rfl ?_
      refine v_iconst (pc' := 37) F d_M_put_36 rfl ?_
      refine v_sipush (pc' := 40) F d_M_put_37 rfl (by decide) ?_
      refine v_callSP (pc' := 43) F d_M_put_40 rfl cal_M_isIn wx_755 wx_756 (c_M_isIn l X _ _ _ _ _ (by omega) (by omega) (by omega)) rfl ⟨by decide, by decide, by decide, by decide⟩ (Nat.le_of_ble_eq_true rfl) rfl rfl ?_
      refine v_zif_eq (tgt := 65) (pc' := 46) F d_M_put_43 (by decide) rfl (fun c43 => ?_) (fun c43 => ?_)
      · refine v_iconst (pc' := 66) F d_M_put_65 rfl ?_
        refine v_istore_7 (pc' := 68) F d_M_put_66 rfl rfl (by decide) ?_
        refine v_iload (pc' := 70) F d_M_put_68 rfl rfl ?_
        refine v_if_eq (tgt := 108) (pc' := 73) F d_M_put_70 (by decide) rfl (by omega) (fun c70 => ?_) (fun c70 => by exfalso; omega)
        refine v_iconst (pc' := 109) F d_M_put_108 rfl ?_
        refine v_istore_7 (pc' := 111) F d_M_put_109 rfl rfl (by decide) ?_
        refine v_aload_n (pc' := 112) (j := 0) F d_M_put_111 rfl rfl rfl ?_
        refine v_iload (pc' := 114) F d_M_put_112 rfl rfl ?_
        refine v_iload (pc' := 116) F d_M_put_114 rfl rfl ?_
        refine v_if_eq (tgt := 134) (pc' := 119) F d_M_put_116 (by decide) rfl (by omega) (fun c116 => ?_) (fun c116 => by exfalso; omega)
        refine v_iconst (pc' := 135) F d_M_put_134 rfl ?_
        refine v_callVM (pc' := 138) (C := zR_M) (T9 := zF_M) (N := 28) F d_M_put_135 rfl cal_M_allows wx_758 wx_760 wp_16 rfl hM.1 (c_allows_1 l X _ _ _ _ _ hM (by omega)) rfl ⟨by decide, by decide, by decide, by decide⟩ (Nat.le_of_ble_eq_true rfl) rfl rfl (fun h22 hM22 hF22 => ?_)
        refine v_if_ne (tgt := 143) (pc' := 141) F d_M_put_138 (by decide) rfl (by omega) (fun c138 => by exfalso; omega) (fun c138 => ?_)
        refine v_iconst (pc' := 142) F d_M_put_141 rfl ?_
        refine v_ireturn F rfl d_M_put_142 rfl rfl (Nat.le_refl _) (Nat.le_refl _) ?_
        first | (exfalso; omega) | (rw [show sp_put M f d v w b = (1, 0, M) from if_neg (by omega)]; exact ⟨_, hM22, ((MF.rf).tr hF22), rfl, upM_ss, eqv.note (Or.inl rfl), 0, rfl, fun q => absurd (show (1 : Int) = 0 from q) (by decide)⟩) | (rw [show sp_put M f d v w b = (2, 0, M) from (if_pos (by omega)).trans (if_neg (by omega))]; exact ⟨_, hM22, ((MF.rf).tr hF22), rfl, upM_ss, eqv.note (Or.inl rfl), 0, rfl, fun q => absurd (show (2 : Int) = 0 from q) (by decide)⟩) | (rw [show sp_put M f d v w b = _ from (if_pos (by omega)).trans (if_pos (by omega))]; exact ⟨_, hM22, ((MF.rf).tr hF22), rfl, (by rw [upM_n (by decide)]; rw [upM_n (by decide)]; rw [upM_n (by decide)]; rw [upM_n (by decide)]; rw [upM_n (by decide)]; exact upM_ss), (((((eqv.note (Or.inl rfl)).up 14 _ _).up 15 _ _).up 16 _ _).up 17 _ _).up 13 _ _, _, rfl, fun _ => rfl⟩)
      · refine v_iload_n (pc' := 47) (j := 3) F d_M_put_46 rfl rfl rfl ?_
        refine v_callSP (pc' := 50) F d_M_put_47 rfl cal_M_isValue wx_782 wx_783 (c_M_isValue l X _ _ _ (by omega)) rfl ⟨by decide, by decide, by decide, by decide⟩ (Nat.le_of_ble_eq_true rfl) rfl rfl ?_
        refine v_zif_eq (tgt := 65) (pc' := 53) F d_M_put_50 (by decide) rfl (fun c50 => ?_) (fun c50 => ?_)
        · refine v_iconst (pc' := 66) F d_M_put_65 rfl ?_
          refine v_istore_7 (pc' := 68) F d_M_put_66 rfl rfl (by decide) ?_
          refine v_iload (pc' := 70) F d_M_put_68 rfl rfl ?_
          refine v_if_eq (tgt := 108) (pc' := 73) F d_M_put_70 (by decide) rfl (by omega) (fun c70 => ?_) (fun c70 => by exfalso; omega)
          refine v_iconst (pc' := 109) F d_M_put_108 rfl ?_
          refine v_istore_7 (pc' := 111) F d_M_put_109 rfl rfl (by decide) ?_
          refine v_aload_n (pc' := 112) (j := 0) F d_M_put_111 rfl rfl rfl ?_
          refine v_iload (pc' := 114) F d_M_put_112 rfl rfl ?_
          refine v_iload (pc' := 116) F d_M_put_114 rfl rfl ?_
          refine v_if_eq (tgt := 134) (pc' := 119) F d_M_put_116 (by decide) rfl (by omega) (fun c116 => ?_) (fun c116 => by exfalso; omega)
          refine v_iconst (pc' := 135) F d_M_put_134 rfl ?_
          refine v_callVM (pc' := 138) (C := zR_M) (T9 := zF_M) (N := 28) F d_M_put_135 rfl cal_M_allows wx_758 wx_760 wp_16 rfl hM.1 (c_allows_1 l X _ _ _ _ _ hM (by omega)) rfl ⟨by decide, by decide, by decide, by decide⟩ (Nat.le_of_ble_eq_true rfl) rfl rfl (fun h23 hM23 hF23 => ?_)
          refine v_if_ne (tgt := 143) (pc' := 141) F d_M_put_138 (by decide) rfl (by omega) (fun c138 => by exfalso; omega) (fun c138 => ?_)
          refine v_iconst (pc' := 142) F d_M_put_141 rfl ?_
          refine v_ireturn F rfl d_M_put_142 rfl rfl (Nat.le_refl _) (Nat.le_refl _) ?_
          first | (exfalso; omega) | (rw [show sp_put M f d v w b = (1, 0, M) from if_neg (by omega)]; exact ⟨_, hM23, ((MF.rf).tr hF23), rfl, upM_ss, eqv.note (Or.inl rfl), 0, rfl, fun q => absurd (show (1 : Int) = 0 from q) (by decide)⟩) | (rw [show sp_put M f d v w b = (2, 0, M) from (if_pos (by omega)).trans (if_neg (by omega))]; exact ⟨_, hM23, ((MF.rf).tr hF23), rfl, upM_ss, eqv.note (Or.inl rfl), 0, rfl, fun q => absurd (show (2 : Int) = 0 from q) (by decide)⟩) | (rw [show sp_put M f d v w b = _ from (if_pos (by omega)).trans (if_pos (by omega))]; exact ⟨_, hM23, ((MF.rf).tr hF23), rfl, (by rw [upM_n (by decide)]; rw [upM_n (by decide)]; rw [upM_n (by decide)]; rw [upM_n (by decide)]; rw [upM_n (by decide)]; exact upM_ss), (((((eqv.note (Or.inl rfl)).up 14 _ _).up 15 _ _).up 16 _ _).up 17 _ _).up 13 _ _, _, rfl, fun _ => rfl⟩)
        · refine v_iload (pc' := 55) F d_M_put_53 rfl rfl ?_
          refine v_callSP (pc' := 58) F d_M_put_55 rfl cal_M_isValue wx_782 wx_783 (c_M_isValue l X _ _ _ (by omega)) rfl ⟨by decide, by decide, by decide, by decide⟩ (Nat.le_of_ble_eq_true rfl) rfl rfl ?_
          refine v_zif_eq (tgt := 65) (pc' := 61) F d_M_put_58 (by decide) rfl (fun c58 => ?_) (fun c58 => ?_)
          · refine v_iconst (pc' := 66) F d_M_put_65 rfl ?_
            refine v_istore_7 (pc' := 68) F d_M_put_66 rfl rfl (by decide) ?_
            refine v_iload (pc' := 70) F d_M_put_68 rfl rfl ?_
            refine v_if_eq (tgt := 108) (pc' := 73) F d_M_put_70 (by decide) rfl (by omega) (fun c70 => ?_) (fun c70 => by exfalso; omega)
            refine v_iconst (pc' := 109) F d_M_put_108 rfl ?_
            refine v_istore_7 (pc' := 111) F d_M_put_109 rfl rfl (by decide) ?_
            refine v_aload_n (pc' := 112) (j := 0) F d_M_put_111 rfl rfl rfl ?_
            refine v_iload (pc' := 114) F d_M_put_112 rfl rfl ?_
            refine v_iload (pc' := 116) F d_M_put_114 rfl rfl ?_
            refine v_if_eq (tgt := 134) (pc' := 119) F d_M_put_116 (by decide) rfl (by omega) (fun c116 => ?_) (fun c116 => by exfalso; omega)
            refine v_iconst (pc' := 135) F d_M_put_134 rfl ?_
            refine v_callVM (pc' := 138) (C := zR_M) (T9 := zF_M) (N := 28) F d_M_put_135 rfl cal_M_allows wx_758 wx_760 wp_16 rfl hM.1 (c_allows_1 l X _ _ _ _ _ hM (by omega)) rfl ⟨by decide, by decide, by decide, by decide⟩ (Nat.le_of_ble_eq_true rfl) rfl rfl (fun h24 hM24 hF24 => ?_)
            refine v_if_ne (tgt := 143) (pc' := 141) F d_M_put_138 (by decide) rfl (by omega) (fun c138 => by exfalso; omega) (fun c138 => ?_)
            refine v_iconst (pc' := 142) F d_M_put_141 rfl ?_
            refine v_ireturn F rfl d_M_put_142 rfl rfl (Nat.le_refl _) (Nat.le_refl _) ?_
            first | (exfalso; omega) | (rw [show sp_put M f d v w b = (1, 0, M) from if_neg (by omega)]; exact ⟨_, hM24, ((MF.rf).tr hF24), rfl, upM_ss, eqv.note (Or.inl rfl), 0, rfl, fun q => absurd (show (1 : Int) = 0 from q) (by decide)⟩) | (rw [show sp_put M f d v w b = (2, 0, M) from (if_pos (by omega)).trans (if_neg (by omega))]; exact ⟨_, hM24, ((MF.rf).tr hF24), rfl, upM_ss, eqv.note (Or.inl rfl), 0, rfl, fun q => absurd (show (2 : Int) = 0 from q) (by decide)⟩) | (rw [show sp_put M f d v w b = _ from (if_pos (by omega)).trans (if_pos (by omega))]; exact ⟨_, hM24, ((MF.rf).tr hF24), rfl, (by rw [upM_n (by decide)]; rw [upM_n (by decide)]; rw [upM_n (by decide)]; rw [upM_n (by decide)]; rw [upM_n (by decide)]; exact upM_ss), (((((eqv.note (Or.inl rfl)).up 14 _ _).up 15 _ _).up 16 _ _).up 17 _ _).up 13 _ _, _, rfl, fun _ => rfl⟩)
          · refine v_iconst (pc' := 62) F d_M_put_61 rfl ?_
            refine v_goto (tgt := 66) F d_M_put_62 (by decide) ?_
            refine v_istore_7 (pc' := 68) F d_M_put_66 rfl rfl (by decide) ?_
            refine v_iload (pc' := 70) F d_M_put_68 rfl rfl ?_
            refine v_if_eq (tgt := 108) (pc' := 73) F d_M_put_70 (by decide) rfl (by omega) (fun c70 => by exfalso; omega) (fun c70 => ?_)
            refine v_aload_n (pc' := 74) (j := 0) F d_M_put_73 rfl rfl rfl ?_
            refine v_getf (pc' := 77) (C := zR_M) (T := zF_M) (N := 28) (ref := "BillSharesModel") F d_M_put_74 rfl zi_M rfl 13 (by decide) wx_674 (Or.inl rfl) hM.1 rfl ?_
            refine v_iload_n (pc' := 78) (j := 1) F d_M_put_77 rfl rfl rfl ?_
            have q1 := hrd f (by omega) (by omega)
            refine mg_13 (pc' := 79) F hM d_M_put_78 rfl (by omega) (by omega) ?_
            refine v_if_eq (tgt := 104) (pc' := 82) F d_M_put_79 (by decide) rfl (by omega) (fun c79 => ?_) (fun c79 => ?_)
            · refine v_iconst (pc' := 105) F d_M_put_104 rfl ?_
              refine v_goto (tgt := 109) F d_M_put_105 (by decide) ?_
              refine v_istore_7 (pc' := 111) F d_M_put_109 rfl rfl (by decide) ?_
              refine v_aload_n (pc' := 112) (j := 0) F d_M_put_111 rfl rfl rfl ?_
              refine v_iload (pc' := 114) F d_M_put_112 rfl rfl ?_
              refine v_iload (pc' := 116) F d_M_put_114 rfl rfl ?_
              refine v_if_eq (tgt := 134) (pc' := 119) F d_M_put_116 (by decide) rfl (by omega) (fun c116 => by exfalso; omega) (fun c116 => ?_)
              refine v_aload_n (pc' := 120) (j := 0) F d_M_put_119 rfl rfl rfl ?_
              refine v_getf (pc' := 123) (C := zR_M) (T := zF_M) (N := 28) (ref := "BillSharesModel") F d_M_put_120 rfl zi_M rfl 13 (by decide) wx_674 (Or.inl rfl) hM.1 rfl ?_
              refine v_iload_n (pc' := 124) (j := 1) F d_M_put_123 rfl rfl rfl ?_
              refine mg_13 (pc' := 125) F hM d_M_put_124 rfl (by omega) (by omega) ?_
              refine v_bipush (pc' := 127) F d_M_put_125 rfl (by decide) ?_
              refine v_icmp_ge (tgt := 134) (pc' := 130) F d_M_put_127 (by decide) rfl (by omega) (by omega) (fun c127 => ?_) (fun c127 => ?_)
              · refine v_iconst (pc' := 135) F d_M_put_134 rfl ?_
                refine v_callVM (pc' := 138) (C := zR_M) (T9 := zF_M) (N := 28) F d_M_put_135 rfl cal_M_allows wx_758 wx_760 wp_16 rfl hM.1 (c_allows_2 l X _ _ _ _ hM) rfl ⟨by decide, by decide, by decide, by decide⟩ (Nat.le_of_ble_eq_true rfl) rfl rfl (fun h25 hM25 hF25 => ?_)
                refine v_if_ne (tgt := 143) (pc' := 141) F d_M_put_138 (by decide) rfl (by omega) (fun c138 => by exfalso; omega) (fun c138 => ?_)
                refine v_iconst (pc' := 142) F d_M_put_141 rfl ?_
                refine v_ireturn F rfl d_M_put_142 rfl rfl (Nat.le_refl _) (Nat.le_refl _) ?_
                first | (exfalso; omega) | (rw [show sp_put M f d v w b = (1, 0, M) from if_neg (by omega)]; exact ⟨_, hM25, ((MF.rf).tr hF25), rfl, upM_ss, eqv.note (Or.inl rfl), 0, rfl, fun q => absurd (show (1 : Int) = 0 from q) (by decide)⟩) | (rw [show sp_put M f d v w b = (2, 0, M) from (if_pos (by omega)).trans (if_neg (by omega))]; exact ⟨_, hM25, ((MF.rf).tr hF25), rfl, upM_ss, eqv.note (Or.inl rfl), 0, rfl, fun q => absurd (show (2 : Int) = 0 from q) (by decide)⟩) | (rw [show sp_put M f d v w b = _ from (if_pos (by omega)).trans (if_pos (by omega))]; exact ⟨_, hM25, ((MF.rf).tr hF25), rfl, (by rw [upM_n (by decide)]; rw [upM_n (by decide)]; rw [upM_n (by decide)]; rw [upM_n (by decide)]; rw [upM_n (by decide)]; exact upM_ss), (((((eqv.note (Or.inl rfl)).up 14 _ _).up 15 _ _).up 16 _ _).up 17 _ _).up 13 _ _, _, rfl, fun _ => rfl⟩)
              · refine v_iconst (pc' := 131) F d_M_put_130 rfl ?_
                refine v_goto (tgt := 135) F d_M_put_131 (by decide) ?_
                refine v_callVM (pc' := 138) (C := zR_M) (T9 := zF_M) (N := 28) F d_M_put_135 rfl cal_M_allows wx_758 wx_760 wp_16 rfl hM.1 (c_allows_0 l X _ _ _ _ hM) rfl ⟨by decide, by decide, by decide, by decide⟩ (Nat.le_of_ble_eq_true rfl) rfl rfl (fun h26 hM26 hF26 => ?_)
                refine v_if_ne (tgt := 143) (pc' := 141) F d_M_put_138 (by decide) rfl (by omega) (fun c138 => ?_) (fun c138 => by exfalso; omega)
                refine v_aload_n (pc' := 144) (j := 0) F d_M_put_143 rfl rfl rfl ?_
                refine v_getf (pc' := 147) (C := zR_M) (T := zF_M) (N := 28) (ref := "BillSharesModel") F d_M_put_144 rfl zi_M rfl 14 (by decide) wx_675 (Or.inl rfl) hM26.1 rfl ?_
                refine v_iload (pc' := 149) F d_M_put_147 rfl rfl ?_
                refine v_iconst (pc' := 150) F d_M_put_149 rfl ?_
                refine v_iadd (pc' := 151) F d_M_put_150 rfl ?_
                refine v_topi (b := 40 * f + M 13 f) (by omega) ?_
                refine v_iload_n (pc' := 152) (j := 2) F d_M_put_151 rfl rfl rfl ?_
                refine mp_14 (pc' := 153) F hM26 d_M_put_152 rfl (by omega) (by omega) (fun h27 hM27 hF27 => ?_)
                refine v_aload_n (pc' := 154) (j := 0) F d_M_put_153 rfl rfl rfl ?_
                refine v_getf (pc' := 157) (C := zR_M) (T := zF_M) (N := 28) (ref := "BillSharesModel") F d_M_put_154 rfl zi_M rfl 15 (by decide) wx_676 (Or.inl rfl) hM27.1 rfl ?_
                refine v_iload (pc' := 159) F d_M_put_157 rfl rfl ?_
                refine v_iconst (pc' := 160) F d_M_put_159 rfl ?_
                refine v_iadd (pc' := 161) F d_M_put_160 rfl ?_
                refine v_topi (b := 40 * f + M 13 f) (by omega) ?_
                refine v_iload_n (pc' := 162) (j := 3) F d_M_put_161 rfl rfl rfl ?_
                refine mp_15 (pc' := 163) F hM27 d_M_put_162 rfl (by omega) (by omega) (fun h28 hM28 hF28 => ?_)
                refine v_aload_n (pc' := 164) (j := 0) F d_M_put_163 rfl rfl rfl ?_
                refine v_getf (pc' := 167) (C := zR_M) (T := zF_M) (N := 28) (ref := "BillSharesModel") F d_M_put_164 rfl zi_M rfl 16 (by decide) wx_677 (Or.inl rfl) hM28.1 rfl ?_
                refine v_iload (pc' := 169) F d_M_put_167 rfl rfl ?_
                refine v_iconst (pc' := 170) F d_M_put_169 rfl ?_
                refine v_iadd (pc' := 171) F d_M_put_170 rfl ?_
                refine v_topi (b := 40 * f + M 13 f) (by omega) ?_
                refine v_iload (pc' := 173) F d_M_put_171 rfl rfl ?_
                refine mp_16 (pc' := 174) F hM28 d_M_put_173 rfl (by omega) (by omega) (fun h29 hM29 hF29 => ?_)
                refine v_aload_n (pc' := 175) (j := 0) F d_M_put_174 rfl rfl rfl ?_
                refine v_getf (pc' := 178) (C := zR_M) (T := zF_M) (N := 28) (ref := "BillSharesModel") F d_M_put_175 rfl zi_M rfl 17 (by decide) wx_678 (Or.inl rfl) hM29.1 rfl ?_
                refine v_iload (pc' := 180) F d_M_put_178 rfl rfl ?_
                refine v_iconst (pc' := 181) F d_M_put_180 rfl ?_
                refine v_iadd (pc' := 182) F d_M_put_181 rfl ?_
                refine v_topi (b := 40 * f + M 13 f) (by omega) ?_
                refine v_iload (pc' := 184) F d_M_put_182 rfl rfl ?_
                refine mp_17 (pc' := 185) F hM29 d_M_put_184 rfl (by omega) (by omega) hb (fun h30 hM30 hF30 => ?_)
                refine v_aload_n (pc' := 186) (j := 0) F d_M_put_185 rfl rfl rfl ?_
                refine v_getf (pc' := 189) (C := zR_M) (T := zF_M) (N := 28) (ref := "BillSharesModel") F d_M_put_186 rfl zi_M rfl 13 (by decide) wx_674 (Or.inl rfl) hM30.1 rfl ?_
                refine v_iload_n (pc' := 190) (j := 1) F d_M_put_189 rfl rfl rfl ?_
                refine v_dup2 (pc' := 191) F d_M_put_190 rfl rfl rfl ?_
                refine mg_13 (pc' := 192) F hM30 d_M_put_191 rfl (by omega) (by omega) ?_
                refine v_un (by decide) ?_
                refine v_un (by decide) ?_
                refine v_un (by decide) ?_
                refine v_un (by decide) ?_
                refine v_un (by decide) ?_
                refine v_iconst (pc' := 193) F d_M_put_192 rfl ?_
                refine v_iadd (pc' := 194) F d_M_put_193 rfl ?_
                refine mp_13 (pc' := 195) F hM30 d_M_put_194 rfl (by omega) (by omega) (fun h31 hM31 hF31 => ?_)
                refine v_aload_n (pc' := 196) (j := 0) F d_M_put_195 rfl rfl rfl ?_
                refine v_getf (pc' := 199) (C := zR_M) (T := zF_M) (N := 28) (ref := "BillSharesModel") F d_M_put_196 rfl zi_M rfl 13 (by decide) wx_674 (Or.inl rfl) hM31.1 rfl ?_
                refine v_iload_n (pc' := 200) (j := 1) F d_M_put_199 rfl rfl rfl ?_
                refine mg_13 (pc' := 201) F hM31 d_M_put_200 rfl (by omega) (by omega) ?_
                refine v_us ?_
                refine v_ireturn F rfl d_M_put_201 rfl rfl (Nat.le_refl _) (Nat.le_refl _) ?_
                first | (exfalso; omega) | (rw [show sp_put M f d v w b = (1, 0, M) from if_neg (by omega)]; exact ⟨_, hM31, ((((((((((((MF.rf).tr hF26)).tr hF27)).tr hF28)).tr hF29)).tr hF30)).tr hF31), rfl, upM_ss, eqv.note (Or.inl rfl), 0, rfl, fun q => absurd (show (1 : Int) = 0 from q) (by decide)⟩) | (rw [show sp_put M f d v w b = (2, 0, M) from (if_pos (by omega)).trans (if_neg (by omega))]; exact ⟨_, hM31, ((((((((((((MF.rf).tr hF26)).tr hF27)).tr hF28)).tr hF29)).tr hF30)).tr hF31), rfl, upM_ss, eqv.note (Or.inl rfl), 0, rfl, fun q => absurd (show (2 : Int) = 0 from q) (by decide)⟩) | (rw [show sp_put M f d v w b = _ from (if_pos (by omega)).trans (if_pos (by omega))]; exact ⟨_, hM31, ((((((((((((MF.rf).tr hF26)).tr hF27)).tr hF28)).tr hF29)).tr hF30)).tr hF31), rfl, (by rw [upM_n (by decide)]; rw [upM_n (by decide)]; rw [upM_n (by decide)]; rw [upM_n (by decide)]; rw [upM_n (by decide)]; exact upM_ss), (((((eqv.note (Or.inl rfl)).up 14 _ _).up 15 _ _).up 16 _ _).up 17 _ _).up 13 _ _, _, rfl, fun _ => rfl⟩)
            · refine v_aload_n (pc' := 83) (j := 0) F d_M_put_82 rfl rfl rfl ?_
              refine v_getf (pc' := 86) (C := zR_M) (T := zF_M) (N := 28) (ref := "BillSharesModel") F d_M_put_83 rfl zi_M rfl 14 (by decide) wx_675 (Or.inl rfl) hM.1 rfl ?_
              refine v_iload (pc' := 88) F d_M_put_86 rfl rfl ?_
              have q2 := hda (40 * f + M 13 f - 1) (by omega) (by omega)
              refine mg_14 (pc' := 89) F hM d_M_put_88 rfl (by omega) (by omega) ?_
              refine v_iload_n (pc' := 90) (j := 2) F d_M_put_89 rfl rfl rfl ?_
              refine v_icmp_ge (tgt := 108) (pc' := 93) F d_M_put_90 (by decide) rfl (by omega) (by omega) (fun c90 => ?_) (fun c90 => ?_)
              · refine v_iconst (pc' := 109) F d_M_put_108 rfl ?_
                refine v_istore_7 (pc' := 111) F d_M_put_109 rfl rfl (by decide) ?_
                refine v_aload_n (pc' := 112) (j := 0) F d_M_put_111 rfl rfl rfl ?_
                refine v_iload (pc' := 114) F d_M_put_112 rfl rfl ?_
                refine v_iload (pc' := 116) F d_M_put_114 rfl rfl ?_
                refine v_if_eq (tgt := 134) (pc' := 119) F d_M_put_116 (by decide) rfl (by omega) (fun c116 => ?_) (fun c116 => by exfalso; omega)
                refine v_iconst (pc' := 135) F d_M_put_134 rfl ?_
                refine v_callVM (pc' := 138) (C := zR_M) (T9 := zF_M) (N := 28) F d_M_put_135 rfl cal_M_allows wx_758 wx_760 wp_16 rfl hM.1 (c_allows_1 l X _ _ _ _ _ hM (by omega)) rfl ⟨by decide, by decide, by decide, by decide⟩ (Nat.le_of_ble_eq_true rfl) rfl rfl (fun h32 hM32 hF32 => ?_)
                refine v_if_ne (tgt := 143) (pc' := 141) F d_M_put_138 (by decide) rfl (by omega) (fun c138 => by exfalso; omega) (fun c138 => ?_)
                refine v_iconst (pc' := 142) F d_M_put_141 rfl ?_
                refine v_ireturn F rfl d_M_put_142 rfl rfl (Nat.le_refl _) (Nat.le_refl _) ?_
                first | (exfalso; omega) | (rw [show sp_put M f d v w b = (1, 0, M) from if_neg (by omega)]; exact ⟨_, hM32, ((MF.rf).tr hF32), rfl, upM_ss, eqv.note (Or.inl rfl), 0, rfl, fun q => absurd (show (1 : Int) = 0 from q) (by decide)⟩) | (rw [show sp_put M f d v w b = (2, 0, M) from (if_pos (by omega)).trans (if_neg (by omega))]; exact ⟨_, hM32, ((MF.rf).tr hF32), rfl, upM_ss, eqv.note (Or.inl rfl), 0, rfl, fun q => absurd (show (2 : Int) = 0 from q) (by decide)⟩) | (rw [show sp_put M f d v w b = _ from (if_pos (by omega)).trans (if_pos (by omega))]; exact ⟨_, hM32, ((MF.rf).tr hF32), rfl, (by rw [upM_n (by decide)]; rw [upM_n (by decide)]; rw [upM_n (by decide)]; rw [upM_n (by decide)]; rw [upM_n (by decide)]; exact upM_ss), (((((eqv.note (Or.inl rfl)).up 14 _ _).up 15 _ _).up 16 _ _).up 17 _ _).up 13 _ _, _, rfl, fun _ => rfl⟩)
              · refine v_aload_n (pc' := 94) (j := 0) F d_M_put_93 rfl rfl rfl ?_
                refine v_getf (pc' := 97) (C := zR_M) (T := zF_M) (N := 28) (ref := "BillSharesModel") F d_M_put_94 rfl zi_M rfl 16 (by decide) wx_677 (Or.inl rfl) hM.1 rfl ?_
                refine v_iload (pc' := 99) F d_M_put_97 rfl rfl ?_
                have q3 := hgo (40 * f + M 13 f - 1) (by omega) (by omega)
                refine mg_16 (pc' := 100) F hM d_M_put_99 rfl (by omega) (by omega) ?_
                refine v_iload_n (pc' := 101) (j := 3) F d_M_put_100 rfl rfl rfl ?_
                refine v_icmp_gt (tgt := 108) (pc' := 104) F d_M_put_101 (by decide) rfl (by omega) (by omega) (fun c101 => ?_) (fun c101 => ?_)
                · refine v_iconst (pc' := 109) F d_M_put_108 rfl ?_
                  refine v_istore_7 (pc' := 111) F d_M_put_109 rfl rfl (by decide) ?_
                  refine v_aload_n (pc' := 112) (j := 0) F d_M_put_111 rfl rfl rfl ?_
                  refine v_iload (pc' := 114) F d_M_put_112 rfl rfl ?_
                  refine v_iload (pc' := 116) F d_M_put_114 rfl rfl ?_
                  refine v_if_eq (tgt := 134) (pc' := 119) F d_M_put_116 (by decide) rfl (by omega) (fun c116 => ?_) (fun c116 => by exfalso; omega)
                  refine v_iconst (pc' := 135) F d_M_put_134 rfl ?_
                  refine v_callVM (pc' := 138) (C := zR_M) (T9 := zF_M) (N := 28) F d_M_put_135 rfl cal_M_allows wx_758 wx_760 wp_16 rfl hM.1 (c_allows_1 l X _ _ _ _ _ hM (by omega)) rfl ⟨by decide, by decide, by decide, by decide⟩ (Nat.le_of_ble_eq_true rfl) rfl rfl (fun h33 hM33 hF33 => ?_)
                  refine v_if_ne (tgt := 143) (pc' := 141) F d_M_put_138 (by decide) rfl (by omega) (fun c138 => by exfalso; omega) (fun c138 => ?_)
                  refine v_iconst (pc' := 142) F d_M_put_141 rfl ?_
                  refine v_ireturn F rfl d_M_put_142 rfl rfl (Nat.le_refl _) (Nat.le_refl _) ?_
                  first | (exfalso; omega) | (rw [show sp_put M f d v w b = (1, 0, M) from if_neg (by omega)]; exact ⟨_, hM33, ((MF.rf).tr hF33), rfl, upM_ss, eqv.note (Or.inl rfl), 0, rfl, fun q => absurd (show (1 : Int) = 0 from q) (by decide)⟩) | (rw [show sp_put M f d v w b = (2, 0, M) from (if_pos (by omega)).trans (if_neg (by omega))]; exact ⟨_, hM33, ((MF.rf).tr hF33), rfl, upM_ss, eqv.note (Or.inl rfl), 0, rfl, fun q => absurd (show (2 : Int) = 0 from q) (by decide)⟩) | (rw [show sp_put M f d v w b = _ from (if_pos (by omega)).trans (if_pos (by omega))]; exact ⟨_, hM33, ((MF.rf).tr hF33), rfl, (by rw [upM_n (by decide)]; rw [upM_n (by decide)]; rw [upM_n (by decide)]; rw [upM_n (by decide)]; rw [upM_n (by decide)]; exact upM_ss), (((((eqv.note (Or.inl rfl)).up 14 _ _).up 15 _ _).up 16 _ _).up 17 _ _).up 13 _ _, _, rfl, fun _ => rfl⟩)
                · refine v_iconst (pc' := 105) F d_M_put_104 rfl ?_
                  refine v_goto (tgt := 109) F d_M_put_105 (by decide) ?_
                  refine v_istore_7 (pc' := 111) F d_M_put_109 rfl rfl (by decide) ?_
                  refine v_aload_n (pc' := 112) (j := 0) F d_M_put_111 rfl rfl rfl ?_
                  refine v_iload (pc' := 114) F d_M_put_112 rfl rfl ?_
                  refine v_iload (pc' := 116) F d_M_put_114 rfl rfl ?_
                  refine v_if_eq (tgt := 134) (pc' := 119) F d_M_put_116 (by decide) rfl (by omega) (fun c116 => by exfalso; omega) (fun c116 => ?_)
                  refine v_aload_n (pc' := 120) (j := 0) F d_M_put_119 rfl rfl rfl ?_
                  refine v_getf (pc' := 123) (C := zR_M) (T := zF_M) (N := 28) (ref := "BillSharesModel") F d_M_put_120 rfl zi_M rfl 13 (by decide) wx_674 (Or.inl rfl) hM.1 rfl ?_
                  refine v_iload_n (pc' := 124) (j := 1) F d_M_put_123 rfl rfl rfl ?_
                  refine mg_13 (pc' := 125) F hM d_M_put_124 rfl (by omega) (by omega) ?_
                  refine v_bipush (pc' := 127) F d_M_put_125 rfl (by decide) ?_
                  refine v_icmp_ge (tgt := 134) (pc' := 130) F d_M_put_127 (by decide) rfl (by omega) (by omega) (fun c127 => ?_) (fun c127 => ?_)
                  · refine v_iconst (pc' := 135) F d_M_put_134 rfl ?_
                    refine v_callVM (pc' := 138) (C := zR_M) (T9 := zF_M) (N := 28) F d_M_put_135 rfl cal_M_allows wx_758 wx_760 wp_16 rfl hM.1 (c_allows_2 l X _ _ _ _ hM) rfl ⟨by decide, by decide, by decide, by decide⟩ (Nat.le_of_ble_eq_true rfl) rfl rfl (fun h34 hM34 hF34 => ?_)
                    refine v_if_ne (tgt := 143) (pc' := 141) F d_M_put_138 (by decide) rfl (by omega) (fun c138 => by exfalso; omega) (fun c138 => ?_)
                    refine v_iconst (pc' := 142) F d_M_put_141 rfl ?_
                    refine v_ireturn F rfl d_M_put_142 rfl rfl (Nat.le_refl _) (Nat.le_refl _) ?_
                    first | (exfalso; omega) | (rw [show sp_put M f d v w b = (1, 0, M) from if_neg (by omega)]; exact ⟨_, hM34, ((MF.rf).tr hF34), rfl, upM_ss, eqv.note (Or.inl rfl), 0, rfl, fun q => absurd (show (1 : Int) = 0 from q) (by decide)⟩) | (rw [show sp_put M f d v w b = (2, 0, M) from (if_pos (by omega)).trans (if_neg (by omega))]; exact ⟨_, hM34, ((MF.rf).tr hF34), rfl, upM_ss, eqv.note (Or.inl rfl), 0, rfl, fun q => absurd (show (2 : Int) = 0 from q) (by decide)⟩) | (rw [show sp_put M f d v w b = _ from (if_pos (by omega)).trans (if_pos (by omega))]; exact ⟨_, hM34, ((MF.rf).tr hF34), rfl, (by rw [upM_n (by decide)]; rw [upM_n (by decide)]; rw [upM_n (by decide)]; rw [upM_n (by decide)]; rw [upM_n (by decide)]; exact upM_ss), (((((eqv.note (Or.inl rfl)).up 14 _ _).up 15 _ _).up 16 _ _).up 17 _ _).up 13 _ _, _, rfl, fun _ => rfl⟩)
                  · refine v_iconst (pc' := 131) F d_M_put_130 rfl ?_
                    refine v_goto (tgt := 135) F d_M_put_131 (by decide) ?_
                    refine v_callVM (pc' := 138) (C := zR_M) (T9 := zF_M) (N := 28) F d_M_put_135 rfl cal_M_allows wx_758 wx_760 wp_16 rfl hM.1 (c_allows_0 l X _ _ _ _ hM) rfl ⟨by decide, by decide, by decide, by decide⟩ (Nat.le_of_ble_eq_true rfl) rfl rfl (fun h35 hM35 hF35 => ?_)
                    refine v_if_ne (tgt := 143) (pc' := 141) F d_M_put_138 (by decide) rfl (by omega) (fun c138 => ?_) (fun c138 => by exfalso; omega)
                    refine v_aload_n (pc' := 144) (j := 0) F d_M_put_143 rfl rfl rfl ?_
                    refine v_getf (pc' := 147) (C := zR_M) (T := zF_M) (N := 28) (ref := "BillSharesModel") F d_M_put_144 rfl zi_M rfl 14 (by decide) wx_675 (Or.inl rfl) hM35.1 rfl ?_
                    refine v_iload (pc' := 149) F d_M_put_147 rfl rfl ?_
                    refine v_iconst (pc' := 150) F d_M_put_149 rfl ?_
                    refine v_iadd (pc' := 151) F d_M_put_150 rfl ?_
                    refine v_topi (b := 40 * f + M 13 f) (by omega) ?_
                    refine v_iload_n (pc' := 152) (j := 2) F d_M_put_151 rfl rfl rfl ?_
                    refine mp_14 (pc' := 153) F hM35 d_M_put_152 rfl (by omega) (by omega) (fun h36 hM36 hF36 => ?_)
                    refine v_aload_n (pc' := 154) (j := 0) F d_M_put_153 rfl rfl rfl ?_
                    refine v_getf (pc' := 157) (C := zR_M) (T := zF_M) (N := 28) (ref := "BillSharesModel") F d_M_put_154 rfl zi_M rfl 15 (by decide) wx_676 (Or.inl rfl) hM36.1 rfl ?_
                    refine v_iload (pc' := 159) F d_M_put_157 rfl rfl ?_
                    refine v_iconst (pc' := 160) F d_M_put_159 rfl ?_
                    refine v_iadd (pc' := 161) F d_M_put_160 rfl ?_
                    refine v_topi (b := 40 * f + M 13 f) (by omega) ?_
                    refine v_iload_n (pc' := 162) (j := 3) F d_M_put_161 rfl rfl rfl ?_
                    refine mp_15 (pc' := 163) F hM36 d_M_put_162 rfl (by omega) (by omega) (fun h37 hM37 hF37 => ?_)
                    refine v_aload_n (pc' := 164) (j := 0) F d_M_put_163 rfl rfl rfl ?_
                    refine v_getf (pc' := 167) (C := zR_M) (T := zF_M) (N := 28) (ref := "BillSharesModel") F d_M_put_164 rfl zi_M rfl 16 (by decide) wx_677 (Or.inl rfl) hM37.1 rfl ?_
                    refine v_iload (pc' := 169) F d_M_put_167 rfl rfl ?_
                    refine v_iconst (pc' := 170) F d_M_put_169 rfl ?_
                    refine v_iadd (pc' := 171) F d_M_put_170 rfl ?_
                    refine v_topi (b := 40 * f + M 13 f) (by omega) ?_
                    refine v_iload (pc' := 173) F d_M_put_171 rfl rfl ?_
                    refine mp_16 (pc' := 174) F hM37 d_M_put_173 rfl (by omega) (by omega) (fun h38 hM38 hF38 => ?_)
                    refine v_aload_n (pc' := 175) (j := 0) F d_M_put_174 rfl rfl rfl ?_
                    refine v_getf (pc' := 178) (C := zR_M) (T := zF_M) (N := 28) (ref := "BillSharesModel") F d_M_put_175 rfl zi_M rfl 17 (by decide) wx_678 (Or.inl rfl) hM38.1 rfl ?_
                    refine v_iload (pc' := 180) F d_M_put_178 rfl rfl ?_
                    refine v_iconst (pc' := 181) F d_M_put_180 rfl ?_
                    refine v_iadd (pc' := 182) F d_M_put_181 rfl ?_
                    refine v_topi (b := 40 * f + M 13 f) (by omega) ?_
                    refine v_iload (pc' := 184) F d_M_put_182 rfl rfl ?_
                    refine mp_17 (pc' := 185) F hM38 d_M_put_184 rfl (by omega) (by omega) hb (fun h39 hM39 hF39 => ?_)
                    refine v_aload_n (pc' := 186) (j := 0) F d_M_put_185 rfl rfl rfl ?_
                    refine v_getf (pc' := 189) (C := zR_M) (T := zF_M) (N := 28) (ref := "BillSharesModel") F d_M_put_186 rfl zi_M rfl 13 (by decide) wx_674 (Or.inl rfl) hM39.1 rfl ?_
                    refine v_iload_n (pc' := 190) (j := 1) F d_M_put_189 rfl rfl rfl ?_
                    refine v_dup2 (pc' := 191) F d_M_put_190 rfl rfl rfl ?_
                    refine mg_13 (pc' := 192) F hM39 d_M_put_191 rfl (by omega) (by omega) ?_
                    refine v_un (by decide) ?_
                    refine v_un (by decide) ?_
                    refine v_un (by decide) ?_
                    refine v_un (by decide) ?_
                    refine v_un (by decide) ?_
                    refine v_iconst (pc' := 193) F d_M_put_192 rfl ?_
                    refine v_iadd (pc' := 194) F d_M_put_193 rfl ?_
                    refine mp_13 (pc' := 195) F hM39 d_M_put_194 rfl (by omega) (by omega) (fun h40 hM40 hF40 => ?_)
                    refine v_aload_n (pc' := 196) (j := 0) F d_M_put_195 rfl rfl rfl ?_
                    refine v_getf (pc' := 199) (C := zR_M) (T := zF_M) (N := 28) (ref := "BillSharesModel") F d_M_put_196 rfl zi_M rfl 13 (by decide) wx_674 (Or.inl rfl) hM40.1 rfl ?_
                    refine v_iload_n (pc' := 200) (j := 1) F d_M_put_199 rfl rfl rfl ?_
                    refine mg_13 (pc' := 201) F hM40 d_M_put_200 rfl (by omega) (by omega) ?_
                    refine v_us ?_
                    refine v_ireturn F rfl d_M_put_201 rfl rfl (Nat.le_refl _) (Nat.le_refl _) ?_
                    first | (exfalso; omega) | (rw [show sp_put M f d v w b = (1, 0, M) from if_neg (by omega)]; exact ⟨_, hM40, ((((((((((((MF.rf).tr hF35)).tr hF36)).tr hF37)).tr hF38)).tr hF39)).tr hF40), rfl, upM_ss, eqv.note (Or.inl rfl), 0, rfl, fun q => absurd (show (1 : Int) = 0 from q) (by decide)⟩) | (rw [show sp_put M f d v w b = (2, 0, M) from (if_pos (by omega)).trans (if_neg (by omega))]; exact ⟨_, hM40, ((((((((((((MF.rf).tr hF35)).tr hF36)).tr hF37)).tr hF38)).tr hF39)).tr hF40), rfl, upM_ss, eqv.note (Or.inl rfl), 0, rfl, fun q => absurd (show (2 : Int) = 0 from q) (by decide)⟩) | (rw [show sp_put M f d v w b = _ from (if_pos (by omega)).trans (if_pos (by omega))]; exact ⟨_, hM40, ((((((((((((MF.rf).tr hF35)).tr hF36)).tr hF37)).tr hF38)).tr hF39)).tr hF40), rfl, (by rw [upM_n (by decide)]; rw [upM_n (by decide)]; rw [upM_n (by decide)]; rw [upM_n (by decide)]; rw [upM_n (by decide)]; exact upM_ss), (((((eqv.note (Or.inl rfl)).up 14 _ _).up 15 _ _).up 16 _ _).up 17 _ _).up 13 _ _, _, rfl, fun _ => rfl⟩)
set_option maxRecDepth 100000 in
set_option maxHeartbeats 4000000 in
theorem c_M_reading (l : Launch) (X : am_X) (h : am_H) (nx : Nat) (y : Nat) (M : MS) (f d v : Int) (hM : RepM y M h) (hme : 0 ≤ M 7 0 ∧ M 7 0 ≤ 60) (hrd : ∀ f : Int, 0 ≤ f → f < M 7 0 → 0 ≤ M 13 f ∧ M 13 f ≤ 40) (hda : ∀ i : Int, 0 ≤ i → i < 2400 → 0 ≤ M 14 i ∧ M 14 i ≤ 3649) (hgo : ∀ i : Int, 0 ≤ i → i < 2400 → 0 ≤ M 16 i ∧ M 16 i ≤ 10000000) (rf : -2147483648 ≤ f ∧ f < 2147483648) (rd : -2147483648 ≤ d ∧ d < 2147483648) (rv : -2147483648 ≤ v ∧ v < 2147483648) : Cn l X y_M_reading ({ frames := 3, cells := 0, slots := 0, locals := 69 }) [.ref y, iV f, iV d, iV v] h nx (mpost y h nx iV (sp_put M f d v v 0)) := by
  refine cn_of (k := 0) (L0 := [some (.ref y), some (iV f), some (iV d), some (iV v)]) rfl wx_773 (Nat.le_of_ble_eq_true rfl) rfl (fun p e s m args below meth c F => ?_)
  refine v_aload_n (pc' := 1) (j := 0) F d_M_reading_0 rfl rfl rfl ?_
  refine v_iload_n (pc' := 2) (j := 1) F d_M_reading_1 rfl rfl rfl ?_
  refine v_iload_n (pc' := 3) (j := 2) F d_M_reading_2 rfl rfl rfl ?_
  refine v_iload_n (pc' := 4) (j := 3) F d_M_reading_3 rfl rfl rfl ?_
  refine v_iload_n (pc' := 5) (j := 3) F d_M_reading_4 rfl rfl rfl ?_
  refine v_iconst (pc' := 6) F d_M_reading_5 rfl ?_
  refine v_callV (pc' := 9) (C := zR_M) (T9 := zF_M) (N := 28) F d_M_reading_6 rfl cal_M_put wx_774 wx_776 wp_18 rfl hM.1 (c_M_put l X _ _ _ M f d v v 0 hM hme hrd hda hgo rf rd rv rv (Or.inl rfl)) rfl ⟨by decide, by decide, by decide, by decide⟩ (Nat.le_of_ble_eq_true rfl) (fun _ _ _ q => by obtain ⟨_, _, _, _, _, _, _, q7, _⟩ := q; cases q7) (fun r9 h' nx' q => ?_)
  obtain ⟨M9, q1, q2, rfl, q4, q5, r, q6, q7⟩ := q
  cases q6
  exact v_ireturn F rfl d_M_reading_9 rfl rfl (Nat.le_refl _) (Nat.le_refl _) ⟨M9, q1, q2, rfl, q4, q5, r, rfl, q7⟩
set_option maxRecDepth 100000 in
set_option maxHeartbeats 4000000 in
theorem c_M_changed (l : Launch) (X : am_X) (h : am_H) (nx : Nat) (y : Nat) (M : MS) (f d v w : Int) (hM : RepM y M h) (hme : 0 ≤ M 7 0 ∧ M 7 0 ≤ 60) (hrd : ∀ f : Int, 0 ≤ f → f < M 7 0 → 0 ≤ M 13 f ∧ M 13 f ≤ 40) (hda : ∀ i : Int, 0 ≤ i → i < 2400 → 0 ≤ M 14 i ∧ M 14 i ≤ 3649) (hgo : ∀ i : Int, 0 ≤ i → i < 2400 → 0 ≤ M 16 i ∧ M 16 i ≤ 10000000) (rf : -2147483648 ≤ f ∧ f < 2147483648) (rd : -2147483648 ≤ d ∧ d < 2147483648) (rv : -2147483648 ≤ v ∧ v < 2147483648) (rw : -2147483648 ≤ w ∧ w < 2147483648) : Cn l X y_M_changed ({ frames := 3, cells := 0, slots := 0, locals := 69 }) [.ref y, iV f, iV d, iV v, iV w] h nx (mpost y h nx iV (sp_put M f d v w 1)) := by
  refine cn_of (k := 0) (L0 := [some (.ref y), some (iV f), some (iV d), some (iV v), some (iV w)]) rfl wx_789 (Nat.le_of_ble_eq_true rfl) rfl (fun p e s m args below meth c F => ?_)
  refine v_aload_n (pc' := 1) (j := 0) F d_M_changed_0 rfl rfl rfl ?_
  refine v_iload_n (pc' := 2) (j := 1) F d_M_changed_1 rfl rfl rfl ?_
  refine v_iload_n (pc' := 3) (j := 2) F d_M_changed_2 rfl rfl rfl ?_
  refine v_iload_n (pc' := 4) (j := 3) F d_M_changed_3 rfl rfl rfl ?_
  refine v_iload (pc' := 6) F d_M_changed_4 rfl rfl ?_
  refine v_iconst (pc' := 7) F d_M_changed_6 rfl ?_
  refine v_callV (pc' := 10) (C := zR_M) (T9 := zF_M) (N := 28) F d_M_changed_7 rfl cal_M_put wx_774 wx_776 wp_18 rfl hM.1 (c_M_put l X _ _ _ M f d v w 1 hM hme hrd hda hgo rf rd rv rw (Or.inr rfl)) rfl ⟨by decide, by decide, by decide, by decide⟩ (Nat.le_of_ble_eq_true rfl) (fun _ _ _ q => by obtain ⟨_, _, _, _, _, _, _, q7, _⟩ := q; cases q7) (fun r9 h' nx' q => ?_)
  obtain ⟨M9, q1, q2, rfl, q4, q5, r, q6, q7⟩ := q
  cases q6
  exact v_ireturn F rfl d_M_changed_10 rfl rfl (Nat.le_refl _) (Nat.le_refl _) ⟨M9, q1, q2, rfl, q4, q5, r, rfl, q7⟩
/-- the place of a meter's reading at a day among its first ones, -1 if there is none -/
def sp_find (M : MS) (f d : Int) : Nat → Int
  | 0 => -1
  | k + 1 => if M 14 (40 * f + (k : Int)) = d then 40 * f + (k : Int) else sp_find M f d k
theorem sp_find_or (M : MS) (f d : Int) : ∀ k : Nat, sp_find M f d k = -1 ∨ (40 * f ≤ sp_find M f d k ∧ sp_find M f d k < 40 * f + (k : Int) ∧ M 14 (sp_find M f d k) = d)
  | 0 => Or.inl rfl
  | k + 1 => by
    unfold sp_find
    by_cases hq : M 14 (40 * f + (k : Int)) = d
    · rw [if_pos hq]; exact Or.inr ⟨by omega, by omega, hq⟩
    · rw [if_neg hq]
      rcases sp_find_or M f d k with q | ⟨q1, q2, q3⟩
      · exact Or.inl q
      · exact Or.inr ⟨q1, by omega, q3⟩
end
