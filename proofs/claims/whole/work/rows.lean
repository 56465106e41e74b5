section
-- ===== PART A: goes FIRST, ahead of the names: the tables' words, and 'selects' of the private methods out of them =====
/-- a private method of a class that the tables say can be made, by its rows of tables_1 -/
def lw_okq (q : MethodName × Nat) : Prop := (q.1.cls ≠ "java/lang/invoke/MethodHandle" ∧ q.1.cls ≠ "java/lang/invoke/VarHandle") ∧ Cond.instantiable q.1.cls q.2 ∈ tables_1 ∧ Cond.privateMethod q.1 ∈ tables_1 ∧ Cond.instanceMethod q.1 ∈ tables_1
theorem lw_p0 : lw_okq (⟨"java/lang/Throwable", "fillInStackTrace", "(I)Ljava/lang/Throwable;"⟩, 6) := ⟨⟨by decide +kernel, by decide +kernel⟩, List.mem_of_getElem? (i := 127) (by decide +kernel), List.mem_of_getElem? (i := 125) (by decide +kernel), List.mem_of_getElem? (i := 126) (by decide +kernel)⟩
theorem lw_p1 : lw_okq (⟨"java/util/ArrayList", "add", "(Ljava/lang/Object;[Ljava/lang/Object;I)V"⟩, 3) := ⟨⟨by decide +kernel, by decide +kernel⟩, List.mem_of_getElem? (i := 29) (by decide +kernel), List.mem_of_getElem? (i := 229) (by decide +kernel), List.mem_of_getElem? (i := 230) (by decide +kernel)⟩
theorem lw_p2 : lw_okq (⟨"java/util/ArrayList", "grow", "()[Ljava/lang/Object;"⟩, 3) := ⟨⟨by decide +kernel, by decide +kernel⟩, List.mem_of_getElem? (i := 29) (by decide +kernel), List.mem_of_getElem? (i := 233) (by decide +kernel), List.mem_of_getElem? (i := 234) (by decide +kernel)⟩
theorem lw_p3 : lw_okq (⟨"java/util/ArrayList", "grow", "(I)[Ljava/lang/Object;"⟩, 3) := ⟨⟨by decide +kernel, by decide +kernel⟩, List.mem_of_getElem? (i := 29) (by decide +kernel), List.mem_of_getElem? (i := 237) (by decide +kernel), List.mem_of_getElem? (i := 238) (by decide +kernel)⟩
theorem lw_p4 : lw_okq (⟨"BillShares", "placeByRank", "(I)I"⟩, 6) := ⟨⟨by decide +kernel, by decide +kernel⟩, List.mem_of_getElem? (i := 21) (by decide +kernel), List.mem_of_getElem? (i := 280) (by decide +kernel), List.mem_of_getElem? (i := 281) (by decide +kernel)⟩
theorem lw_p5 : lw_okq (⟨"java/util/ArrayList", "rangeCheckForAdd", "(I)V"⟩, 3) := ⟨⟨by decide +kernel, by decide +kernel⟩, List.mem_of_getElem? (i := 29) (by decide +kernel), List.mem_of_getElem? (i := 302) (by decide +kernel), List.mem_of_getElem? (i := 303) (by decide +kernel)⟩
theorem lw_p6 : lw_okq (⟨"BillShares", "flatAt", "(I)LBillShares$Flat;"⟩, 6) := ⟨⟨by decide +kernel, by decide +kernel⟩, List.mem_of_getElem? (i := 21) (by decide +kernel), List.mem_of_getElem? (i := 314) (by decide +kernel), List.mem_of_getElem? (i := 315) (by decide +kernel)⟩
theorem lw_p7 : lw_okq (⟨"BillShares", "addReading", "(IIII)I"⟩, 6) := ⟨⟨by decide +kernel, by decide +kernel⟩, List.mem_of_getElem? (i := 21) (by decide +kernel), List.mem_of_getElem? (i := 367) (by decide +kernel), List.mem_of_getElem? (i := 368) (by decide +kernel)⟩
theorem lw_p8 : lw_okq (⟨"BillShares", "meterAt", "(I)LBillShares$Meter;"⟩, 6) := ⟨⟨by decide +kernel, by decide +kernel⟩, List.mem_of_getElem? (i := 21) (by decide +kernel), List.mem_of_getElem? (i := 371) (by decide +kernel), List.mem_of_getElem? (i := 372) (by decide +kernel)⟩
theorem lw_p9 : lw_okq (⟨"BillShares", "openBills", "(I)V"⟩, 6) := ⟨⟨by decide +kernel, by decide +kernel⟩, List.mem_of_getElem? (i := 21) (by decide +kernel), List.mem_of_getElem? (i := 483) (by decide +kernel), List.mem_of_getElem? (i := 484) (by decide +kernel)⟩
theorem lw_p10 : lw_okq (⟨"BillShares", "shareOut", "(II)V"⟩, 6) := ⟨⟨by decide +kernel, by decide +kernel⟩, List.mem_of_getElem? (i := 21) (by decide +kernel), List.mem_of_getElem? (i := 513) (by decide +kernel), List.mem_of_getElem? (i := 514) (by decide +kernel)⟩
theorem lw_p11 : lw_okq (⟨"BillShares", "weighByArea", "()V"⟩, 6) := ⟨⟨by decide +kernel, by decide +kernel⟩, List.mem_of_getElem? (i := 21) (by decide +kernel), List.mem_of_getElem? (i := 524) (by decide +kernel), List.mem_of_getElem? (i := 525) (by decide +kernel)⟩
theorem lw_p12 : lw_okq (⟨"BillShares", "dealOut", "(J)V"⟩, 6) := ⟨⟨by decide +kernel, by decide +kernel⟩, List.mem_of_getElem? (i := 21) (by decide +kernel), List.mem_of_getElem? (i := 528) (by decide +kernel), List.mem_of_getElem? (i := 529) (by decide +kernel)⟩
theorem lw_p13 : lw_okq (⟨"BillShares", "sumOfWeights", "()J"⟩, 6) := ⟨⟨by decide +kernel, by decide +kernel⟩, List.mem_of_getElem? (i := 21) (by decide +kernel), List.mem_of_getElem? (i := 532) (by decide +kernel), List.mem_of_getElem? (i := 533) (by decide +kernel)⟩
theorem lw_p14 : lw_okq (⟨"BillShares", "weighByUse", "(II)V"⟩, 6) := ⟨⟨by decide +kernel, by decide +kernel⟩, List.mem_of_getElem? (i := 21) (by decide +kernel), List.mem_of_getElem? (i := 536) (by decide +kernel), List.mem_of_getElem? (i := 537) (by decide +kernel)⟩
theorem lw_p15 : lw_okq (⟨"BillShares", "latestBill", "(LBillShares$Flat;I)LBillShares$Bill;"⟩, 6) := ⟨⟨by decide +kernel, by decide +kernel⟩, List.mem_of_getElem? (i := 21) (by decide +kernel), List.mem_of_getElem? (i := 596) (by decide +kernel), List.mem_of_getElem? (i := 597) (by decide +kernel)⟩
def lw_privs_1 : List (MethodName × Nat) := [(⟨"java/lang/Throwable", "fillInStackTrace", "(I)Ljava/lang/Throwable;"⟩, 6), (⟨"java/util/ArrayList", "add", "(Ljava/lang/Object;[Ljava/lang/Object;I)V"⟩, 3), (⟨"java/util/ArrayList", "grow", "()[Ljava/lang/Object;"⟩, 3), (⟨"java/util/ArrayList", "grow", "(I)[Ljava/lang/Object;"⟩, 3), (⟨"BillShares", "placeByRank", "(I)I"⟩, 6), (⟨"java/util/ArrayList", "rangeCheckForAdd", "(I)V"⟩, 3), (⟨"BillShares", "flatAt", "(I)LBillShares$Flat;"⟩, 6), (⟨"BillShares", "addReading", "(IIII)I"⟩, 6), (⟨"BillShares", "meterAt", "(I)LBillShares$Meter;"⟩, 6), (⟨"BillShares", "openBills", "(I)V"⟩, 6), (⟨"BillShares", "shareOut", "(II)V"⟩, 6), (⟨"BillShares", "weighByArea", "()V"⟩, 6), (⟨"BillShares", "dealOut", "(J)V"⟩, 6), (⟨"BillShares", "sumOfWeights", "()J"⟩, 6), (⟨"BillShares", "weighByUse", "(II)V"⟩, 6), (⟨"BillShares", "latestBill", "(LBillShares$Flat;I)LBillShares$Bill;"⟩, 6)]
theorem lw_r1 : ∀ q ∈ lw_privs_1, lw_okq q := List.forall_mem_cons.mpr ⟨lw_p0, List.forall_mem_cons.mpr ⟨lw_p1, List.forall_mem_cons.mpr ⟨lw_p2, List.forall_mem_cons.mpr ⟨lw_p3, List.forall_mem_cons.mpr ⟨lw_p4, List.forall_mem_cons.mpr ⟨lw_p5, List.forall_mem_cons.mpr ⟨lw_p6, List.forall_mem_cons.mpr ⟨lw_p7, List.forall_mem_cons.mpr ⟨lw_p8, List.forall_mem_cons.mpr ⟨lw_p9, List.forall_mem_cons.mpr ⟨lw_p10, List.forall_mem_cons.mpr ⟨lw_p11, List.forall_mem_cons.mpr ⟨lw_p12, List.forall_mem_cons.mpr ⟨lw_p13, List.forall_mem_cons.mpr ⟨lw_p14, List.forall_mem_cons.mpr ⟨lw_p15, fun _ h => absurd h List.not_mem_nil⟩⟩⟩⟩⟩⟩⟩⟩⟩⟩⟩⟩⟩⟩⟩⟩
theorem lw_p16 : lw_okq (⟨"BillSharesModel", "allows", "(ZZ)Z"⟩, 28) := ⟨⟨by decide +kernel, by decide +kernel⟩, List.mem_of_getElem? (i := 656) (by decide +kernel), List.mem_of_getElem? (i := 759) (by decide +kernel), List.mem_of_getElem? (i := 760) (by decide +kernel)⟩
theorem lw_p17 : lw_okq (⟨"BillSharesModel", "isFlat", "(I)Z"⟩, 28) := ⟨⟨by decide +kernel, by decide +kernel⟩, List.mem_of_getElem? (i := 656) (by decide +kernel), List.mem_of_getElem? (i := 767) (by decide +kernel), List.mem_of_getElem? (i := 768) (by decide +kernel)⟩
theorem lw_p18 : lw_okq (⟨"BillSharesModel", "put", "(IIIIZ)I"⟩, 28) := ⟨⟨by decide +kernel, by decide +kernel⟩, List.mem_of_getElem? (i := 656) (by decide +kernel), List.mem_of_getElem? (i := 775) (by decide +kernel), List.mem_of_getElem? (i := 776) (by decide +kernel)⟩
theorem lw_p19 : lw_okq (⟨"BillSharesModel", "isMeter", "(I)Z"⟩, 28) := ⟨⟨by decide +kernel, by decide +kernel⟩, List.mem_of_getElem? (i := 656) (by decide +kernel), List.mem_of_getElem? (i := 779) (by decide +kernel), List.mem_of_getElem? (i := 780) (by decide +kernel)⟩
theorem lw_p20 : lw_okq (⟨"BillSharesModel", "shareOf", "(II)J"⟩, 28) := ⟨⟨by decide +kernel, by decide +kernel⟩, List.mem_of_getElem? (i := 656) (by decide +kernel), List.mem_of_getElem? (i := 820) (by decide +kernel), List.mem_of_getElem? (i := 821) (by decide +kernel)⟩
theorem lw_p21 : lw_okq (⟨"BillSharesModel", "byAreas", "()V"⟩, 28) := ⟨⟨by decide +kernel, by decide +kernel⟩, List.mem_of_getElem? (i := 656) (by decide +kernel), List.mem_of_getElem? (i := 825) (by decide +kernel), List.mem_of_getElem? (i := 826) (by decide +kernel)⟩
theorem lw_p22 : lw_okq (⟨"BillSharesModel", "deal", "(J)V"⟩, 28) := ⟨⟨by decide +kernel, by decide +kernel⟩, List.mem_of_getElem? (i := 656) (by decide +kernel), List.mem_of_getElem? (i := 829) (by decide +kernel), List.mem_of_getElem? (i := 830) (by decide +kernel)⟩
theorem lw_p23 : lw_okq (⟨"BillSharesModel", "before", "(I)I"⟩, 28) := ⟨⟨by decide +kernel, by decide +kernel⟩, List.mem_of_getElem? (i := 656) (by decide +kernel), List.mem_of_getElem? (i := 837) (by decide +kernel), List.mem_of_getElem? (i := 838) (by decide +kernel)⟩
theorem lw_p24 : lw_okq (⟨"BillSharesModel", "byUses", "(II)V"⟩, 28) := ⟨⟨by decide +kernel, by decide +kernel⟩, List.mem_of_getElem? (i := 656) (by decide +kernel), List.mem_of_getElem? (i := 841) (by decide +kernel), List.mem_of_getElem? (i := 842) (by decide +kernel)⟩
theorem lw_p25 : lw_okq (⟨"BillSharesModel", "barredOf", "(III)I"⟩, 28) := ⟨⟨by decide +kernel, by decide +kernel⟩, List.mem_of_getElem? (i := 656) (by decide +kernel), List.mem_of_getElem? (i := 845) (by decide +kernel), List.mem_of_getElem? (i := 846) (by decide +kernel)⟩
theorem lw_p26 : lw_okq (⟨"BillSharesModel", "why", "(II)I"⟩, 28) := ⟨⟨by decide +kernel, by decide +kernel⟩, List.mem_of_getElem? (i := 656) (by decide +kernel), List.mem_of_getElem? (i := 849) (by decide +kernel), List.mem_of_getElem? (i := 850) (by decide +kernel)⟩
theorem lw_p27 : lw_okq (⟨"BillSharesModel", "usedBy", "(IIII)J"⟩, 28) := ⟨⟨by decide +kernel, by decide +kernel⟩, List.mem_of_getElem? (i := 656) (by decide +kernel), List.mem_of_getElem? (i := 853) (by decide +kernel), List.mem_of_getElem? (i := 854) (by decide +kernel)⟩
theorem lw_p28 : lw_okq (⟨"BillSharesModel", "useOf", "(III)J"⟩, 28) := ⟨⟨by decide +kernel, by decide +kernel⟩, List.mem_of_getElem? (i := 656) (by decide +kernel), List.mem_of_getElem? (i := 857) (by decide +kernel), List.mem_of_getElem? (i := 858) (by decide +kernel)⟩
theorem lw_p29 : lw_okq (⟨"BillSharesModel", "has", "(ZII)Z"⟩, 28) := ⟨⟨by decide +kernel, by decide +kernel⟩, List.mem_of_getElem? (i := 656) (by decide +kernel), List.mem_of_getElem? (i := 874) (by decide +kernel), List.mem_of_getElem? (i := 875) (by decide +kernel)⟩
theorem lw_p30 : lw_okq (⟨"BillSharesModel", "days", "(III)I"⟩, 28) := ⟨⟨by decide +kernel, by decide +kernel⟩, List.mem_of_getElem? (i := 656) (by decide +kernel), List.mem_of_getElem? (i := 886) (by decide +kernel), List.mem_of_getElem? (i := 887) (by decide +kernel)⟩
theorem lw_p31 : lw_okq (⟨"BillSharesModel", "end", "(III)I"⟩, 28) := ⟨⟨by decide +kernel, by decide +kernel⟩, List.mem_of_getElem? (i := 656) (by decide +kernel), List.mem_of_getElem? (i := 890) (by decide +kernel), List.mem_of_getElem? (i := 891) (by decide +kernel)⟩
def lw_privs_2 : List (MethodName × Nat) := [(⟨"BillSharesModel", "allows", "(ZZ)Z"⟩, 28), (⟨"BillSharesModel", "isFlat", "(I)Z"⟩, 28), (⟨"BillSharesModel", "put", "(IIIIZ)I"⟩, 28), (⟨"BillSharesModel", "isMeter", "(I)Z"⟩, 28), (⟨"BillSharesModel", "shareOf", "(II)J"⟩, 28), (⟨"BillSharesModel", "byAreas", "()V"⟩, 28), (⟨"BillSharesModel", "deal", "(J)V"⟩, 28), (⟨"BillSharesModel", "before", "(I)I"⟩, 28), (⟨"BillSharesModel", "byUses", "(II)V"⟩, 28), (⟨"BillSharesModel", "barredOf", "(III)I"⟩, 28), (⟨"BillSharesModel", "why", "(II)I"⟩, 28), (⟨"BillSharesModel", "usedBy", "(IIII)J"⟩, 28), (⟨"BillSharesModel", "useOf", "(III)J"⟩, 28), (⟨"BillSharesModel", "has", "(ZII)Z"⟩, 28), (⟨"BillSharesModel", "days", "(III)I"⟩, 28), (⟨"BillSharesModel", "end", "(III)I"⟩, 28)]
theorem lw_r2 : ∀ q ∈ lw_privs_2, lw_okq q := List.forall_mem_cons.mpr ⟨lw_p16, List.forall_mem_cons.mpr ⟨lw_p17, List.forall_mem_cons.mpr ⟨lw_p18, List.forall_mem_cons.mpr ⟨lw_p19, List.forall_mem_cons.mpr ⟨lw_p20, List.forall_mem_cons.mpr ⟨lw_p21, List.forall_mem_cons.mpr ⟨lw_p22, List.forall_mem_cons.mpr ⟨lw_p23, List.forall_mem_cons.mpr ⟨lw_p24, List.forall_mem_cons.mpr ⟨lw_p25, List.forall_mem_cons.mpr ⟨lw_p26, List.forall_mem_cons.mpr ⟨lw_p27, List.forall_mem_cons.mpr ⟨lw_p28, List.forall_mem_cons.mpr ⟨lw_p29, List.forall_mem_cons.mpr ⟨lw_p30, List.forall_mem_cons.mpr ⟨lw_p31, fun _ h => absurd h List.not_mem_nil⟩⟩⟩⟩⟩⟩⟩⟩⟩⟩⟩⟩⟩⟩⟩⟩
theorem lw_p32 : lw_okq (⟨"BillSharesModel", "begin", "(III)I"⟩, 28) := ⟨⟨by decide +kernel, by decide +kernel⟩, List.mem_of_getElem? (i := 656) (by decide +kernel), List.mem_of_getElem? (i := 894) (by decide +kernel), List.mem_of_getElem? (i := 895) (by decide +kernel)⟩
theorem lw_p33 : lw_okq (⟨"BillSharesModel", "own", "(IIII)J"⟩, 28) := ⟨⟨by decide +kernel, by decide +kernel⟩, List.mem_of_getElem? (i := 656) (by decide +kernel), List.mem_of_getElem? (i := 898) (by decide +kernel), List.mem_of_getElem? (i := 899) (by decide +kernel)⟩
def lw_privs_3 : List (MethodName × Nat) := [(⟨"BillSharesModel", "begin", "(III)I"⟩, 28), (⟨"BillSharesModel", "own", "(IIII)J"⟩, 28)]
theorem lw_r3 : ∀ q ∈ lw_privs_3, lw_okq q := List.forall_mem_cons.mpr ⟨lw_p32, List.forall_mem_cons.mpr ⟨lw_p33, fun _ h => absurd h List.not_mem_nil⟩⟩
def lw_privs : List (MethodName × Nat) := lw_privs_1 ++ (lw_privs_2 ++ (lw_privs_3))
def lw_tbl : List Cond := k2_sels lw_privs ++ tables_1
theorem lw_privs_ok : ∀ q ∈ lw_privs, lw_okq q := by
  show ∀ q ∈ lw_privs_1 ++ (lw_privs_2 ++ (lw_privs_3)), lw_okq q
  exact List.forall_mem_append.mpr ⟨lw_r1, List.forall_mem_append.mpr ⟨lw_r2, lw_r3⟩⟩
end
section
/-! names of classes and fields (written by wip/whole/mknames.py) -/
def zR_S : String := "BillShares"
def zF_S : u_T := fun k => match k with
  | 0 => ("BillShares", "flats", "Ljava/util/ArrayList;", true)
  | 1 => ("BillShares", "flatsByRank", "Ljava/util/ArrayList;", true)
  | 2 => ("BillShares", "meters", "Ljava/util/ArrayList;", true)
  | 3 => ("BillShares", "costs", "[I", true)
  | 4 => ("BillShares", "bases", "[I", true)
  | _ => ("BillShares", "editions", "[I", true)
def zt_S : Nat → FieldType := fun k => match k with
  | 0 => .object "java/util/ArrayList"
  | 1 => .object "java/util/ArrayList"
  | 2 => .object "java/util/ArrayList"
  | 3 => .array (.int)
  | 4 => .array (.int)
  | _ => .array (.int)
theorem zn_S : ∀ a, a < 6 → ∀ b, b < 6 → a ≠ b → (zF_S a).2.1 ≠ (zF_S b).2.1 := by decide +kernel
theorem zk_S : ∀ k, k < 6 → parseFieldDescriptor (zF_S k).2.2.1 = some (zt_S k) := by decide +kernel
theorem zi_S : ∀ w ∈ u_ws zR_S zF_S 6, w ∈ lw_tbl := by decide +kernel
def zR_F : String := "BillShares$Flat"
def zF_F : u_T := fun k => match k with
  | 0 => ("BillShares$Flat", "area", "I", true)
  | 1 => ("BillShares$Flat", "rank", "I", true)
  | 2 => ("BillShares$Flat", "meters", "Ljava/util/ArrayList;", true)
  | 3 => ("BillShares$Flat", "moveDays", "[I", true)
  | 4 => ("BillShares$Flat", "dwellers", "I", false)
  | 5 => ("BillShares$Flat", "paid", "[J", true)
  | 6 => ("BillShares$Flat", "bills", "[LBillShares$Bill;", true)
  | 7 => ("BillShares$Flat", "told", "Z", false)
  | 8 => ("BillShares$Flat", "weight", "J", false)
  | _ => ("BillShares$Flat", "dealt", "J", false)
def zt_F : Nat → FieldType := fun k => match k with
  | 0 => .int
  | 1 => .int
  | 2 => .object "java/util/ArrayList"
  | 3 => .array (.int)
  | 4 => .int
  | 5 => .array (.long)
  | 6 => .array (.object "BillShares$Bill")
  | 7 => .boolean
  | 8 => .long
  | _ => .long
theorem zn_F : ∀ a, a < 10 → ∀ b, b < 10 → a ≠ b → (zF_F a).2.1 ≠ (zF_F b).2.1 := by decide +kernel
theorem zk_F : ∀ k, k < 10 → parseFieldDescriptor (zF_F k).2.2.1 = some (zt_F k) := by decide +kernel
theorem zi_F : ∀ w ∈ u_ws zR_F zF_F 10, w ∈ lw_tbl := by decide +kernel
def zR_T : String := "BillShares$Meter"
def zF_T : u_T := fun k => match k with
  | 0 => ("BillShares$Meter", "kind", "I", true)
  | 1 => ("BillShares$Meter", "above", "I", true)
  | 2 => ("BillShares$Meter", "below", "I", true)
  | 3 => ("BillShares$Meter", "testedTo", "I", false)
  | 4 => ("BillShares$Meter", "readings", "I", false)
  | 5 => ("BillShares$Meter", "days", "[I", true)
  | 6 => ("BillShares$Meter", "values", "[I", true)
  | _ => ("BillShares$Meter", "starts", "[I", true)
def zt_T : Nat → FieldType := fun k => match k with
  | 0 => .int
  | 1 => .int
  | 2 => .int
  | 3 => .int
  | 4 => .int
  | 5 => .array (.int)
  | 6 => .array (.int)
  | _ => .array (.int)
theorem zn_T : ∀ a, a < 8 → ∀ b, b < 8 → a ≠ b → (zF_T a).2.1 ≠ (zF_T b).2.1 := by decide +kernel
theorem zk_T : ∀ k, k < 8 → parseFieldDescriptor (zF_T k).2.2.1 = some (zt_T k) := by decide +kernel
theorem zi_T : ∀ w ∈ u_ws zR_T zF_T 8, w ∈ lw_tbl := by decide +kernel
def zR_B : String := "BillShares$Bill"
def zF_B : u_T := fun k => match k with
  | 0 => ("BillShares$Bill", "base", "[J", true)
  | 1 => ("BillShares$Bill", "used", "[J", true)
  | _ => ("BillShares$Bill", "before", "J", false)
def zt_B : Nat → FieldType := fun k => match k with
  | 0 => .array (.long)
  | 1 => .array (.long)
  | _ => .long
theorem zn_B : ∀ a, a < 3 → ∀ b, b < 3 → a ≠ b → (zF_B a).2.1 ≠ (zF_B b).2.1 := by decide +kernel
theorem zk_B : ∀ k, k < 3 → parseFieldDescriptor (zF_B k).2.2.1 = some (zt_B k) := by decide +kernel
theorem zi_B : ∀ w ∈ u_ws zR_B zF_B 3, w ∈ lw_tbl := by decide +kernel
def zR_M : String := "BillSharesModel"
def zF_M : u_T := fun k => match k with
  | 0 => ("BillSharesModel", "code", "I", false)
  | 1 => ("BillSharesModel", "flats", "I", false)
  | 2 => ("BillSharesModel", "area", "[I", true)
  | 3 => ("BillSharesModel", "rank", "[I", true)
  | 4 => ("BillSharesModel", "lives", "[I", true)
  | 5 => ("BillSharesModel", "since", "[I", true)
  | 6 => ("BillSharesModel", "paid", "[J", true)
  | 7 => ("BillSharesModel", "meters", "I", false)
  | 8 => ("BillSharesModel", "flatOf", "[I", true)
  | 9 => ("BillSharesModel", "kindOf", "[I", true)
  | 10 => ("BillSharesModel", "above", "[I", true)
  | 11 => ("BillSharesModel", "below", "[I", true)
  | 12 => ("BillSharesModel", "tested", "[I", true)
  | 13 => ("BillSharesModel", "readings", "[I", true)
  | 14 => ("BillSharesModel", "day", "[I", true)
  | 15 => ("BillSharesModel", "value", "[I", true)
  | 16 => ("BillSharesModel", "goes", "[I", true)
  | 17 => ("BillSharesModel", "renewed", "[Z", true)
  | 18 => ("BillSharesModel", "cost", "[I", true)
  | 19 => ("BillSharesModel", "base", "[I", true)
  | 20 => ("BillSharesModel", "edition", "[I", true)
  | 21 => ("BillSharesModel", "there", "[I", true)
  | 22 => ("BillSharesModel", "thereBefore", "[I", true)
  | 23 => ("BillSharesModel", "basePart", "[J", true)
  | 24 => ("BillSharesModel", "usedPart", "[J", true)
  | 25 => ("BillSharesModel", "shareBefore", "[J", true)
  | 26 => ("BillSharesModel", "numbers", "[J", true)
  | _ => ("BillSharesModel", "gets", "[J", true)
def zt_M : Nat → FieldType := fun k => match k with
  | 0 => .int
  | 1 => .int
  | 2 => .array (.int)
  | 3 => .array (.int)
  | 4 => .array (.int)
  | 5 => .array (.int)
  | 6 => .array (.long)
  | 7 => .int
  | 8 => .array (.int)
  | 9 => .array (.int)
  | 10 => .array (.int)
  | 11 => .array (.int)
  | 12 => .array (.int)
  | 13 => .array (.int)
  | 14 => .array (.int)
  | 15 => .array (.int)
  | 16 => .array (.int)
  | 17 => .array (.boolean)
  | 18 => .array (.int)
  | 19 => .array (.int)
  | 20 => .array (.int)
  | 21 => .array (.int)
  | 22 => .array (.int)
  | 23 => .array (.long)
  | 24 => .array (.long)
  | 25 => .array (.long)
  | 26 => .array (.long)
  | _ => .array (.long)
theorem zn_M : ∀ a, a < 28 → ∀ b, b < 28 → a ≠ b → (zF_M a).2.1 ≠ (zF_M b).2.1 := by decide +kernel
theorem zk_M : ∀ k, k < 28 → parseFieldDescriptor (zF_M k).2.2.1 = some (zt_M k) := by decide +kernel
theorem zi_M : ∀ w ∈ u_ws zR_M zF_M 28, w ∈ lw_tbl := by decide +kernel
def zR_A : String := "java/util/ArrayList"
def zF_A : u_T := fun k => match k with
  | 0 => ("java/util/ArrayList", "elementData", "[Ljava/lang/Object;", false)
  | 1 => ("java/util/ArrayList", "size", "I", false)
  | _ => ("java/util/AbstractList", "modCount", "I", false)
def zt_A : Nat → FieldType := fun k => match k with
  | 0 => .array (.object "java/lang/Object")
  | 1 => .int
  | _ => .int
theorem zn_A : ∀ a, a < 3 → ∀ b, b < 3 → a ≠ b → (zF_A a).2.1 ≠ (zF_A b).2.1 := by decide +kernel
theorem zk_A : ∀ k, k < 3 → parseFieldDescriptor (zF_A k).2.2.1 = some (zt_A k) := by decide +kernel
theorem zi_A : ∀ w ∈ u_ws zR_A zF_A 3, w ∈ lw_tbl := by decide +kernel
def zR_IA : String := "java/lang/IllegalArgumentException"
def zF_IA : u_T := fun k => match k with
  | 0 => ("java/lang/Throwable", "cause", "Ljava/lang/Throwable;", false)
  | 1 => ("java/lang/Throwable", "stackTrace", "[Ljava/lang/StackTraceElement;", false)
  | 2 => ("java/lang/Throwable", "suppressedExceptions", "Ljava/util/List;", false)
  | 3 => ("java/lang/Throwable", "detailMessage", "Ljava/lang/String;", false)
  | 4 => ("java/lang/Throwable", "backtrace", "Ljava/lang/Object;", false)
  | _ => ("java/lang/Throwable", "depth", "I", false)
def zt_IA : Nat → FieldType := fun k => match k with
  | 0 => .object "java/lang/Throwable"
  | 1 => .array (.object "java/lang/StackTraceElement")
  | 2 => .object "java/util/List"
  | 3 => .object "java/lang/String"
  | 4 => .object "java/lang/Object"
  | _ => .int
theorem zn_IA : ∀ a, a < 6 → ∀ b, b < 6 → a ≠ b → (zF_IA a).2.1 ≠ (zF_IA b).2.1 := by decide +kernel
theorem zk_IA : ∀ k, k < 6 → parseFieldDescriptor (zF_IA k).2.2.1 = some (zt_IA k) := by decide +kernel
theorem zi_IA : ∀ w ∈ u_ws zR_IA zF_IA 6, w ∈ lw_tbl := by decide +kernel
def zR_IS : String := "java/lang/IllegalStateException"
def zF_IS : u_T := fun k => match k with
  | 0 => ("java/lang/Throwable", "cause", "Ljava/lang/Throwable;", false)
  | 1 => ("java/lang/Throwable", "stackTrace", "[Ljava/lang/StackTraceElement;", false)
  | 2 => ("java/lang/Throwable", "suppressedExceptions", "Ljava/util/List;", false)
  | 3 => ("java/lang/Throwable", "detailMessage", "Ljava/lang/String;", false)
  | 4 => ("java/lang/Throwable", "backtrace", "Ljava/lang/Object;", false)
  | _ => ("java/lang/Throwable", "depth", "I", false)
def zt_IS : Nat → FieldType := fun k => match k with
  | 0 => .object "java/lang/Throwable"
  | 1 => .array (.object "java/lang/StackTraceElement")
  | 2 => .object "java/util/List"
  | 3 => .object "java/lang/String"
  | 4 => .object "java/lang/Object"
  | _ => .int
theorem zn_IS : ∀ a, a < 6 → ∀ b, b < 6 → a ≠ b → (zF_IS a).2.1 ≠ (zF_IS b).2.1 := by decide +kernel
theorem zk_IS : ∀ k, k < 6 → parseFieldDescriptor (zF_IS k).2.2.1 = some (zt_IS k) := by decide +kernel
theorem zi_IS : ∀ w ∈ u_ws zR_IS zF_IS 6, w ∈ lw_tbl := by decide +kernel
abbrev am_cl : List vw_C := [(zR_S, zF_S, 6), (zR_F, zF_F, 10), (zR_T, zF_T, 8), (zR_B, zF_B, 3), (zR_M, zF_M, 28), (zR_A, zF_A, 3), (zR_IA, zF_IA, 6), (zR_IS, zF_IS, 6)]
abbrev am_ty : List (Nat × FieldType) := [(0, .int), (1, .long), (2, .object "java/lang/Object"), (3, .object "BillShares$Bill"), (4, .boolean)]
end
section
/-! THE ABSTRACT MACHINE (part am, written by wip/whole/mkam.py). Ints and longs of the machine stand as Ints (iV, lV); the heap since the law's start H0 is a map from addresses to cells (am_H), the next new address is nx; V is the kit's W for every heap, every list of written places and every array of locals that the map and the list L allow. -/
abbrev iV (z : Int) : Value := .int (Int32.ofInt z)
abbrev lV (z : Int) : Value := .long (Int64.ofInt z)
abbrev am_E : Type := (Nat × Nat × (Nat → Value)) ⊕ (Nat × List Value)
abbrev am_H : Type := Nat → Option am_E
def am_up (h : am_H) (a : Nat) (e : am_E) : am_H := fun b => if b = a then some e else h b
theorem am_up_s {h : am_H} {a : Nat} {e : am_E} : am_up h a e a = some e := if_pos rfl
theorem am_up_n {h : am_H} {a b : Nat} {e : am_E} (hne : b ≠ a) : am_up h a e b = h b := if_neg hne
/-- what is fixed: class numbers and slots, array classes, the heap at the start, the address of ArrayList's empty array -/
abbrev am_X : Type := va_G × (Nat → ClassId) × Heap × Nat
abbrev am_sz (X : am_X) : Nat := X.2.2.1.size
/-- the cell e stands at the address a -/
def am_at (X : am_X) (a : Nat) (e : am_E) (H : Heap) : Prop := match e with
  | .inl x => H[a]? = some (arrV (X.2.1 x.1) x.2.1 x.2.2)
  | .inr o => ∃ r : vw_C, am_cl[o.1]? = some r ∧ t_OB a (X.1.1 o.1) r.2.2 (X.1.2 o.1) H (vp_V o.2)
/-- the heap H holds the map h, its next address is nx, and below the law's start it is as it was -/
def am_R (X : am_X) (h : am_H) (nx : Nat) (H : Heap) : Prop := H.size = nx ∧ am_sz X ≤ nx ∧ (∀ q : Nat, q < am_sz X → H[q]? = X.2.2.1[q]?) ∧ ∀ (a : Nat) (e : am_E), h a = some e → am_sz X ≤ a ∧ am_at X a e H
/-- the good words of the tables -/
def am_tb : List Cond := lw_tbl.filter goodWord
theorem am_in {w : Cond} (h : w ∈ lw_tbl) (g : goodWord w = true) : w ∈ am_tb := List.mem_filter.mpr ⟨h, g⟩
theorem am_lays {C : String} {T : u_T} {N : Nat} (h : ∀ w ∈ u_ws C T N, w ∈ lw_tbl) : ∀ w ∈ u_ws C T N, w ∈ am_tb := fun w hw => am_in (h w hw) (by
  obtain ⟨k, -, rfl⟩ := List.mem_map.mp hw
  unfold u_lay
  split <;> rfl)
/-- words that stay for a reason of their own -/
def am_xt : Cond → Bool
  | .castable _ _ => true
  | .declares _ => true
  | .methodLinkNest _ _ _ _ => true
  | .arrayOver (.object _) => true
  | _ => false
theorem am_xt_warm {w : Cond} {s U : State} (hx : am_xt w = true) (hW : s.WarmedH U.vm) (h : va_Nw w s) : va_Nw w U := by
  cases w <;> first
    | exact va_Nw.warmC hW h
    | exact va_Nw.warmD hW h
    | exact va_Nw.warmM hW h
    | (rename_i ty; cases ty <;> first | exact va_AO.moved hW.alike h | cases hx)
    | cases hx
abbrev am_DE : String := "DEFAULTCAPACITY_EMPTY_ELEMENTDATA"
def am_K (X : am_X) (U : State) : Prop :=
  va_K X.1 am_cl (am_ty.map (fun q => (X.2.1 q.1, q.2))) U ∧ (∀ w ∈ lw_tbl, am_xt w = true → va_Nw w U) ∧ (∀ (o : String) (k : Nat) (tx : String), Cond.stringRef o k tx ∈ lw_tbl → ∃ a : Nat, vk_R o k tx a U) ∧
  va_Z "java/util/ArrayList" am_DE "[Ljava/lang/Object;" (.ref X.2.2.2) (fun q => am_sz X ≤ q) U X.2.2.1 ∧ va_T (.object "java/lang/Object") X.2.2.2 0 (fun _ => .null) (fun q => am_sz X ≤ q) U X.2.2.1 ∧
  va_Zq "java/lang/Throwable" "UNASSIGNED_STACK" "[Ljava/lang/StackTraceElement;" (fun q => am_sz X ≤ q) U X.2.2.1 ∧ va_Zq "java/lang/Throwable" "SUPPRESSED_SENTINEL" "Ljava/util/List;" (fun q => am_sz X ≤ q) U X.2.2.1 ∧
  (∃ mi : Nat, va_Mi "[Ljava/lang/Object;" mi U) ∧ va_Nc "java/lang/IllegalStateException" "java/lang/IllegalArgumentException" U
theorem am_K_warm {X : am_X} {s U : State} (hW : s.WarmedH U.vm) (h : am_K X s) : am_K X U := by
  obtain ⟨h1, h2, h3, h4, h5, h6, h7, ⟨mi, h8⟩, h9⟩ := h
  exact ⟨h1.moved hW.alike, fun w hw hx => am_xt_warm hx hW (h2 w hw hx), fun o k tx hm => (by obtain ⟨a, ha⟩ := h3 o k tx hm; exact ⟨a, ha.warm hW⟩), h4.moved hW.alike, h5.moved hW.alike, h6.moved hW.alike, h7.moved hW.alike, ⟨mi, h8.moved hW.alike⟩, h9.moved hW.alike⟩
def am_Fx (p : Program) (s : State) (m : MethodId) (args : Array Value) (meth : Method) (c : Code) (y : MethodName) (cc : ByteArray) (nL : Nat) (ret : Option FieldType) (et : List (Nat × Nat × Nat × Nat)) (X : am_X) : Prop :=
  p.tables.exec = Jvm.exec ∧ c.code = cc ∧ c.maxLocals = nL ∧ s.vm.findClass y.cls = some m.cls ∧ (∀ w ∈ am_tb, w.before args s = true) ∧ am_K X s ∧ meth.locks = false ∧ meth.sig.returnType = ret ∧ meth.name = y.name ∧ c.exceptionTable.toList.map (fun h => (h.startPc, h.endPc, h.handlerPc, h.catchType)) = et
def am_L (ls : Array Slot) (nL : Nat) (L : List (Option Value)) : Prop := ls.size = nL ∧ lv_wf ls ∧ ∀ (i : Nat) (v : Value), L[i]? = some (some v) → ls[i]? = some (.val v)
def V (p : Program) (l : Launch) (e : Env) (R : Room) (s : State) (m : MethodId) (args : Array Value) (below : List Frame) (meth : Method) (c : Code) (nL : Nat) (X : am_X) (Q : State → Prop) (h : am_H) (nx cells slots pc : Nat) (L : List (Option Value)) (st : List Value) : Prop :=
  ∀ (H : Heap) (locs : List Loc) (ls : Array Slot), am_R X h nx H → (∀ q ∈ locs, am_sz X ≤ q.base) → am_L ls nL L → W p l e R s m args below meth c H locs cells slots Q (F0 m pc ls st)
/-! the variables of a frame -/
def am_li (L : List (Option Value)) : List (Nat × Value) := (List.range L.length).filterMap (fun i => match L[i]? with | some (some v) => some (i, v) | _ => none)
theorem am_li_mem {L : List (Option Value)} {q : Nat × Value} : q ∈ am_li L ↔ L[q.1]? = some (some q.2) := by
  unfold am_li
  rw [List.mem_filterMap]
  constructor
  · rintro ⟨i, -, hi⟩
    split at hi
    next v hv => cases hi; exact hv
    next => cases hi
  · intro hq
    refine ⟨q.1, List.mem_range.mpr ?_, ?_⟩
    · exact (List.getElem?_eq_some_iff.mp hq).1
    · rw [hq]
theorem am_L_has {ls : Array Slot} {nL : Nat} {L : List (Option Value)} : am_L ls nL L ↔ lv_has ls nL (am_li L) := by
  constructor
  · rintro ⟨h1, h2, h3⟩
    exact ⟨h1, h2, fun q hq => h3 q.1 q.2 (am_li_mem.mp hq)⟩
  · rintro ⟨h1, h2, h3⟩
    exact ⟨h1, h2, fun i v hv => h3 (i, v) (am_li_mem.mpr hv)⟩
def am_nl (L : List (Option Value)) (k : Nat) : Bool := match k with
  | 0 => true
  | k + 1 => match L[k]? with
    | some (some v) => v.category != 2
    | _ => true
theorem am_nl_ne {L : List (Option Value)} {k j : Nat} {v : Value} (hk : am_nl L k = true) (hj : j + 1 = k) (hv : L[j]? = some (some v)) : (v.category == 2) = false := by
  subst hj
  simp only [am_nl, hv] at hk
  simpa using hk
theorem am_store1 {ls : Array Slot} {nL : Nat} {L : List (Option Value)} {k : Nat} {v : Value} (h : am_L ls nL L) (hk : k < nL) (hc : v.category = 1) (hn : am_nl L k = true) : ∃ ls', storeLocals ls k v = some ls' ∧ am_L ls' nL (L.set k (some v)) := by
  obtain ⟨ls', e1, h1, h2, h3⟩ := lv_store1 (v := v) (am_L_has.mp h) hk hc
  refine ⟨ls', e1, h1, h2, fun i w hw => ?_⟩
  by_cases hi : i = k
  · subst hi
    rw [List.getElem?_set] at hw
    simp only [if_true] at hw
    split at hw
    · cases hw; exact h3 (i, v) List.mem_cons_self
    · cases hw
  · rw [List.getElem?_set, if_neg (fun q => hi q.symm)] at hw
    refine h3 (i, w) (List.mem_cons_of_mem _ (List.mem_filter.mpr ⟨am_li_mem.mpr hw, ?_⟩))
    have a1 : (i == k) = false := by simpa using hi
    by_cases h5 : i + 1 = k
    · simp [a1, am_nl_ne hn h5 hw]
    · have a2 : (i + 1 == k) = false := by simpa using h5
      simp [a1, a2]
theorem am_store2 {ls : Array Slot} {nL : Nat} {L : List (Option Value)} {k : Nat} {v : Value} (h : am_L ls nL L) (hk : k + 1 < nL) (hc : v.category = 2) (hn : am_nl L k = true) : ∃ ls', storeLocals ls k v = some ls' ∧ am_L ls' nL ((L.set k (some v)).set (k + 1) none) := by
  obtain ⟨ls', e1, h1, h2, h3⟩ := lv_store2 (v := v) (am_L_has.mp h) hk hc
  refine ⟨ls', e1, h1, h2, fun i w hw => ?_⟩
  rw [List.getElem?_set] at hw
  by_cases hj : k + 1 = i
  · rw [if_pos hj] at hw
    split at hw <;> cases hw
  · rw [if_neg hj, List.getElem?_set] at hw
    by_cases hi : k = i
    · rw [if_pos hi] at hw
      subst hi
      split at hw
      · cases hw; exact h3 (k, v) List.mem_cons_self
      · cases hw
    · rw [if_neg hi] at hw
      refine h3 (i, w) (List.mem_cons_of_mem _ (List.mem_filter.mpr ⟨am_li_mem.mpr hw, ?_⟩))
      have a1 : (i == k) = false := by simpa using (fun q : i = k => hi q.symm)
      have a3 : (i == k + 1) = false := by simpa using (fun q : i = k + 1 => hj q.symm)
      by_cases h5 : i + 1 = k
      · simp [a1, a3, am_nl_ne hn h5 hw]
      · have a2 : (i + 1 == k) = false := by simpa using h5
        simp [a1, a2, a3]
theorem am_L_sub {ls : Array Slot} {nL : Nat} {L L' : List (Option Value)} (h : am_L ls nL L) (hs : ∀ (i : Nat) (v : Value), L'[i]? = some (some v) → L[i]? = some (some v)) : am_L ls nL L' := ⟨h.1, h.2.1, fun i v hv => h.2.2 i v (hs i v hv)⟩
/-! numbers -/
theorem i32_toInt {a : Int} (ha : -2147483648 ≤ a ∧ a < 2147483648) : (Int32.ofInt a).toInt = a := Int32.toInt_ofInt_of_le (by omega) (by omega)
theorem i32_lt {a b : Int} (ha : -2147483648 ≤ a ∧ a < 2147483648) (hb : -2147483648 ≤ b ∧ b < 2147483648) : Int32.ofInt a < Int32.ofInt b ↔ a < b := by rw [Int32.lt_iff_toInt_lt, i32_toInt ha, i32_toInt hb]
theorem i32_le {a b : Int} (ha : -2147483648 ≤ a ∧ a < 2147483648) (hb : -2147483648 ≤ b ∧ b < 2147483648) : Int32.ofInt a ≤ Int32.ofInt b ↔ a ≤ b := by rw [Int32.le_iff_toInt_le, i32_toInt ha, i32_toInt hb]
theorem i64_toInt {a : Int} (ha : -9223372036854775808 ≤ a ∧ a < 9223372036854775808) : (Int64.ofInt a).toInt = a := Int64.toInt_ofInt_of_le (by omega) (by omega)
theorem i32_eq {a b : Int} (ha : -2147483648 ≤ a ∧ a < 2147483648) (hb : -2147483648 ≤ b ∧ b < 2147483648) : Int32.ofInt a = Int32.ofInt b ↔ a = b := ⟨fun h => by rw [← i32_toInt ha, ← i32_toInt hb, h], fun h => by rw [h]⟩
theorem i64_eq {a b : Int} (ha : -9223372036854775808 ≤ a ∧ a < 9223372036854775808) (hb : -9223372036854775808 ≤ b ∧ b < 9223372036854775808) : Int64.ofInt a = Int64.ofInt b ↔ a = b := ⟨fun h => by rw [← i64_toInt ha, ← i64_toInt hb, h], fun h => by rw [h]⟩
theorem i64_lt {a b : Int} (ha : -9223372036854775808 ≤ a ∧ a < 9223372036854775808) (hb : -9223372036854775808 ≤ b ∧ b < 9223372036854775808) : Int64.ofInt a < Int64.ofInt b ↔ a < b := by rw [Int64.lt_iff_toInt_lt, i64_toInt ha, i64_toInt hb]
theorem i32_clamp {n : Nat} (hn : n < 2147483648) : (Int32.ofInt (n : Int)).toNatClampNeg = n := by
  show (Int32.ofInt (n : Int)).toInt.toNat = n
  rw [i32_toInt (by omega)]
  rfl
theorem i32_div {a b : Int} (ha : -2147483648 < a ∧ a < 2147483648) (hb : -2147483648 ≤ b ∧ b < 2147483648) : Int32.ofInt a / Int32.ofInt b = Int32.ofInt (a.tdiv b) := by
  apply Int32.toInt_inj.mp
  rw [Int32.toInt_div_of_ne_left _ _ (by intro h; have := congrArg Int32.toInt h; rw [i32_toInt (by omega)] at this; simp at this; omega), i32_toInt (by omega), i32_toInt hb, i32_toInt]
  have h1 := Int.natAbs_tdiv_le_natAbs a b
  omega
theorem i64_div {a b : Int} (ha : -9223372036854775808 < a ∧ a < 9223372036854775808) (hb : -9223372036854775808 ≤ b ∧ b < 9223372036854775808) : Int64.ofInt a / Int64.ofInt b = Int64.ofInt (a.tdiv b) := by
  apply Int64.toInt_inj.mp
  rw [Int64.toInt_div_of_ne_left _ _ (by intro h; have := congrArg Int64.toInt h; rw [i64_toInt (by omega)] at this; simp at this; omega), i64_toInt (by omega), i64_toInt hb, i64_toInt]
  have h1 := Int.natAbs_tdiv_le_natAbs a b
  omega
theorem i64_of32 {a : Int} (ha : -2147483648 ≤ a ∧ a < 2147483648) : (Int32.ofInt a).toInt64 = Int64.ofInt a := by
  apply Int64.toInt_inj.mp
  rw [Int32.toInt_toInt64, i32_toInt ha, i64_toInt (by omega)]
theorem i32_of64 {a : Int} : (Int64.ofInt a).toInt32 = Int32.ofInt a := by simp

section AM
variable {p : Program} {l : Launch} {e : Env} {R : Room} {s : State} {m : MethodId} {args : Array Value} {below : List Frame} {meth : Method} {c : Code} {nL : Nat} {X : am_X} {Q : State → Prop}
variable {cc : ByteArray} {y : MethodName} {ret : Option FieldType} {et : List (Nat × Nat × Nat × Nat)} {h : am_H} {nx cells slots pc pc' : Nat} {L : List (Option Value)} {st : List Value}
theorem v_sub {L' : List (Option Value)} (hs : ∀ (i : Nat) (v : Value), L'[i]? = some (some v) → L[i]? = some (some v)) (k : V p l e R s m args below meth c nL X Q h nx cells slots pc L' st) : V p l e R s m args below meth c nL X Q h nx cells slots pc L st := fun H locs ls hR hL hl => k H locs ls hR hL (am_L_sub hl hs)
theorem v_widen {cells' slots' : Nat} (hc : cells ≤ cells') (hs : slots ≤ slots') (k : V p l e R s m args below meth c nL X Q h nx cells' slots' pc L st) : V p l e R s m args below meth c nL X Q h nx cells slots pc L st := fun H locs ls hR hL hl => W.widen hc hs (k H locs ls hR hL hl)
theorem v_iconst (F : am_Fx p s m args meth c y cc nL ret et X) {n : Int} (d : decode cc pc = .ok (.iconst n, 1)) (hp : pc + 1 = pc')  (k : V p l e R s m args below meth c nL X Q h nx cells slots pc' L (iV n :: st)) : V p l e R s m args below meth c nL X Q h nx cells slots pc L st := by
  subst hp
  intro H locs ls hR hL hl
  exact lv_iconst F.1 F.2.1 d rfl (k H locs ls hR hL hl)
theorem v_bipush (F : am_Fx p s m args meth c y cc nL ret et X) {n : Int} (d : decode cc pc = .ok (.bipush n, 2)) (hp : pc + 2 = pc') (hv : (Int8.ofInt n).toInt32 = Int32.ofInt n) (k : V p l e R s m args below meth c nL X Q h nx cells slots pc' L (iV n :: st)) : V p l e R s m args below meth c nL X Q h nx cells slots pc L st := by
  subst hp
  intro H locs ls hR hL hl
  exact lv_bipush F.1 F.2.1 d hv (k H locs ls hR hL hl)
theorem v_sipush (F : am_Fx p s m args meth c y cc nL ret et X) {n : Int} (d : decode cc pc = .ok (.sipush n, 3)) (hp : pc + 3 = pc') (hv : (Int16.ofInt n).toInt32 = Int32.ofInt n) (k : V p l e R s m args below meth c nL X Q h nx cells slots pc' L (iV n :: st)) : V p l e R s m args below meth c nL X Q h nx cells slots pc L st := by
  subst hp
  intro H locs ls hR hL hl
  exact lv_sipush F.1 F.2.1 d hv (k H locs ls hR hL hl)
theorem v_lconst (F : am_Fx p s m args meth c y cc nL ret et X) {n : Fin 2} {z : Int} (d : decode cc pc = .ok (.lconst n, 1)) (hp : pc + 1 = pc') (hv : Int64.ofNat (n : Nat) = Int64.ofInt z) (k : V p l e R s m args below meth c nL X Q h nx cells slots pc' L (lV z :: st)) : V p l e R s m args below meth c nL X Q h nx cells slots pc L st := by
  subst hp
  intro H locs ls hR hL hl
  exact lv_lconst F.1 F.2.1 d hv (k H locs ls hR hL hl)
theorem v_null (F : am_Fx p s m args meth c y cc nL ret et X)  (d : decode cc pc = .ok (.aconst_null, 1)) (hp : pc + 1 = pc')  (k : V p l e R s m args below meth c nL X Q h nx cells slots pc' L (.null :: st)) : V p l e R s m args below meth c nL X Q h nx cells slots pc L st := by
  subst hp
  intro H locs ls hR hL hl
  exact lv_null F.1 F.2.1 d  (k H locs ls hR hL hl)
theorem v_iload_n (F : am_Fx p s m args meth c y cc nL ret et X) {i : Fin 4} {j : Nat} {z : Int} (d : decode cc pc = .ok (.iload_n i, 1)) (hp : pc + 1 = pc') (hi : (i : Nat) = j) (hv : L[j]? = some (some (iV z))) (k : V p l e R s m args below meth c nL X Q h nx cells slots pc' L (iV z :: st)) : V p l e R s m args below meth c nL X Q h nx cells slots pc L st := by
  subst hp
  intro H locs ls hR hL hl
  exact lv_iload_n F.1 F.2.1 d hi (hl.2.2 _ _ hv) (k H locs ls hR hL hl)
theorem v_iload (F : am_Fx p s m args meth c y cc nL ret et X) {j : Nat} {z : Int} (d : decode cc pc = .ok (.iload j, 2)) (hp : pc + 2 = pc') (hv : L[j]? = some (some (iV z))) (k : V p l e R s m args below meth c nL X Q h nx cells slots pc' L (iV z :: st)) : V p l e R s m args below meth c nL X Q h nx cells slots pc L st := by
  subst hp
  intro H locs ls hR hL hl
  exact lv_iload F.1 F.2.1 d (hl.2.2 _ _ hv) (k H locs ls hR hL hl)
theorem v_lload_n (F : am_Fx p s m args meth c y cc nL ret et X) {i : Fin 4} {j : Nat} {z : Int} (d : decode cc pc = .ok (.lload_n i, 1)) (hp : pc + 1 = pc') (hi : (i : Nat) = j) (hv : L[j]? = some (some (lV z))) (k : V p l e R s m args below meth c nL X Q h nx cells slots pc' L (lV z :: st)) : V p l e R s m args below meth c nL X Q h nx cells slots pc L st := by
  subst hp
  intro H locs ls hR hL hl
  exact lv_lload_n F.1 F.2.1 d hi (hl.2.2 _ _ hv) (k H locs ls hR hL hl)
theorem v_lload (F : am_Fx p s m args meth c y cc nL ret et X) {j : Nat} {z : Int} (d : decode cc pc = .ok (.lload j, 2)) (hp : pc + 2 = pc') (hv : L[j]? = some (some (lV z))) (k : V p l e R s m args below meth c nL X Q h nx cells slots pc' L (lV z :: st)) : V p l e R s m args below meth c nL X Q h nx cells slots pc L st := by
  subst hp
  intro H locs ls hR hL hl
  exact lv_lload F.1 F.2.1 d (hl.2.2 _ _ hv) (k H locs ls hR hL hl)
theorem v_aload_n (F : am_Fx p s m args meth c y cc nL ret et X) {i : Fin 4} {j : Nat} {z : Nat} (d : decode cc pc = .ok (.aload_n i, 1)) (hp : pc + 1 = pc') (hi : (i : Nat) = j) (hv : L[j]? = some (some (.ref z))) (k : V p l e R s m args below meth c nL X Q h nx cells slots pc' L (.ref z :: st)) : V p l e R s m args below meth c nL X Q h nx cells slots pc L st := by
  subst hp
  intro H locs ls hR hL hl
  exact lv_aload_n F.1 F.2.1 d hi (hl.2.2 _ _ hv) (k H locs ls hR hL hl)
theorem v_aload (F : am_Fx p s m args meth c y cc nL ret et X) {j : Nat} {z : Nat} (d : decode cc pc = .ok (.aload j, 2)) (hp : pc + 2 = pc') (hv : L[j]? = some (some (.ref z))) (k : V p l e R s m args below meth c nL X Q h nx cells slots pc' L (.ref z :: st)) : V p l e R s m args below meth c nL X Q h nx cells slots pc L st := by
  subst hp
  intro H locs ls hR hL hl
  exact lv_aload F.1 F.2.1 d (hl.2.2 _ _ hv) (k H locs ls hR hL hl)
theorem v_istore_nG (F : am_Fx p s m args meth c y cc nL ret et X) {i : Fin 4} {j : Nat} {z : Int} (d : decode cc pc = .ok (.istore_n i, 1)) (hp : pc + 1 = pc') (hi : (i : Nat) = j) (hn : am_nl L j = true) (hb : j < nL) (k : V p l e R s m args below meth c nL X Q h nx cells slots pc' (L.set j (some (iV z))) st) : V p l e R s m args below meth c nL X Q h nx cells slots pc L (iV z :: st) := by
  subst hp
  intro H locs ls hR hL hl
  subst hi
  obtain ⟨ls', e', h'⟩ := am_store1 (v := iV z) hl hb rfl hn
  intro T hT X
  obtain ⟨t, a, b⟩ := k H locs ls' hR hL h' T hT X
  refine ⟨t, ?_, b⟩
  jvm_step X.here [X.here.top, ↓top_set X.here.top, F.1, F.2.1, d, e']
  exact a
theorem v_istore_0 (F : am_Fx p s m args meth c y cc nL ret et X) {z : Int} {x0 : Option Value} {T : List (Option Value)} (d : decode cc pc = .ok (.istore_n 0, 1)) (hp : pc + 1 = pc') (hn : am_nl (x0 :: T) 0 = true) (hb : 0 < nL) (k : V p l e R s m args below meth c nL X Q h nx cells slots pc' (some (iV z) :: T) st) : V p l e R s m args below meth c nL X Q h nx cells slots pc (x0 :: T) (iV z :: st) := v_istore_nG F (j := 0) d hp rfl hn hb k
theorem v_istore_1 (F : am_Fx p s m args meth c y cc nL ret et X) {z : Int} {x0 x1 : Option Value} {T : List (Option Value)} (d : decode cc pc = .ok (.istore_n 1, 1)) (hp : pc + 1 = pc') (hn : am_nl (x0 :: x1 :: T) 1 = true) (hb : 1 < nL) (k : V p l e R s m args below meth c nL X Q h nx cells slots pc' (x0 :: some (iV z) :: T) st) : V p l e R s m args below meth c nL X Q h nx cells slots pc (x0 :: x1 :: T) (iV z :: st) := v_istore_nG F (j := 1) d hp rfl hn hb k
theorem v_istore_2 (F : am_Fx p s m args meth c y cc nL ret et X) {z : Int} {x0 x1 x2 : Option Value} {T : List (Option Value)} (d : decode cc pc = .ok (.istore_n 2, 1)) (hp : pc + 1 = pc') (hn : am_nl (x0 :: x1 :: x2 :: T) 2 = true) (hb : 2 < nL) (k : V p l e R s m args below meth c nL X Q h nx cells slots pc' (x0 :: x1 :: some (iV z) :: T) st) : V p l e R s m args below meth c nL X Q h nx cells slots pc (x0 :: x1 :: x2 :: T) (iV z :: st) := v_istore_nG F (j := 2) d hp rfl hn hb k
theorem v_istore_3 (F : am_Fx p s m args meth c y cc nL ret et X) {z : Int} {x0 x1 x2 x3 : Option Value} {T : List (Option Value)} (d : decode cc pc = .ok (.istore_n 3, 1)) (hp : pc + 1 = pc') (hn : am_nl (x0 :: x1 :: x2 :: x3 :: T) 3 = true) (hb : 3 < nL) (k : V p l e R s m args below meth c nL X Q h nx cells slots pc' (x0 :: x1 :: x2 :: some (iV z) :: T) st) : V p l e R s m args below meth c nL X Q h nx cells slots pc (x0 :: x1 :: x2 :: x3 :: T) (iV z :: st) := v_istore_nG F (j := 3) d hp rfl hn hb k
theorem v_istoreG (F : am_Fx p s m args meth c y cc nL ret et X) {j : Nat} {z : Int} (d : decode cc pc = .ok (.istore j, 2)) (hp : pc + 2 = pc') (hn : am_nl L j = true) (hb : j < nL) (k : V p l e R s m args below meth c nL X Q h nx cells slots pc' (L.set j (some (iV z))) st) : V p l e R s m args below meth c nL X Q h nx cells slots pc L (iV z :: st) := by
  subst hp
  intro H locs ls hR hL hl
  skip
  obtain ⟨ls', e', h'⟩ := am_store1 (v := iV z) hl hb rfl hn
  intro T hT X
  obtain ⟨t, a, b⟩ := k H locs ls' hR hL h' T hT X
  refine ⟨t, ?_, b⟩
  jvm_step X.here [X.here.top, ↓top_set X.here.top, F.1, F.2.1, d, e']
  exact a
theorem v_istore_4 (F : am_Fx p s m args meth c y cc nL ret et X) {z : Int} {x0 x1 x2 x3 x4 : Option Value} {T : List (Option Value)} (d : decode cc pc = .ok (.istore 4, 2)) (hp : pc + 2 = pc') (hn : am_nl (x0 :: x1 :: x2 :: x3 :: x4 :: T) 4 = true) (hb : 4 < nL) (k : V p l e R s m args below meth c nL X Q h nx cells slots pc' (x0 :: x1 :: x2 :: x3 :: some (iV z) :: T) st) : V p l e R s m args below meth c nL X Q h nx cells slots pc (x0 :: x1 :: x2 :: x3 :: x4 :: T) (iV z :: st) := v_istoreG F (j := 4) d hp hn hb k
theorem v_istore_5 (F : am_Fx p s m args meth c y cc nL ret et X) {z : Int} {x0 x1 x2 x3 x4 x5 : Option Value} {T : List (Option Value)} (d : decode cc pc = .ok (.istore 5, 2)) (hp : pc + 2 = pc') (hn : am_nl (x0 :: x1 :: x2 :: x3 :: x4 :: x5 :: T) 5 = true) (hb : 5 < nL) (k : V p l e R s m args below meth c nL X Q h nx cells slots pc' (x0 :: x1 :: x2 :: x3 :: x4 :: some (iV z) :: T) st) : V p l e R s m args below meth c nL X Q h nx cells slots pc (x0 :: x1 :: x2 :: x3 :: x4 :: x5 :: T) (iV z :: st) := v_istoreG F (j := 5) d hp hn hb k
theorem v_istore_6 (F : am_Fx p s m args meth c y cc nL ret et X) {z : Int} {x0 x1 x2 x3 x4 x5 x6 : Option Value} {T : List (Option Value)} (d : decode cc pc = .ok (.istore 6, 2)) (hp : pc + 2 = pc') (hn : am_nl (x0 :: x1 :: x2 :: x3 :: x4 :: x5 :: x6 :: T) 6 = true) (hb : 6 < nL) (k : V p l e R s m args below meth c nL X Q h nx cells slots pc' (x0 :: x1 :: x2 :: x3 :: x4 :: x5 :: some (iV z) :: T) st) : V p l e R s m args below meth c nL X Q h nx cells slots pc (x0 :: x1 :: x2 :: x3 :: x4 :: x5 :: x6 :: T) (iV z :: st) := v_istoreG F (j := 6) d hp hn hb k
theorem v_istore_7 (F : am_Fx p s m args meth c y cc nL ret et X) {z : Int} {x0 x1 x2 x3 x4 x5 x6 x7 : Option Value} {T : List (Option Value)} (d : decode cc pc = .ok (.istore 7, 2)) (hp : pc + 2 = pc') (hn : am_nl (x0 :: x1 :: x2 :: x3 :: x4 :: x5 :: x6 :: x7 :: T) 7 = true) (hb : 7 < nL) (k : V p l e R s m args below meth c nL X Q h nx cells slots pc' (x0 :: x1 :: x2 :: x3 :: x4 :: x5 :: x6 :: some (iV z) :: T) st) : V p l e R s m args below meth c nL X Q h nx cells slots pc (x0 :: x1 :: x2 :: x3 :: x4 :: x5 :: x6 :: x7 :: T) (iV z :: st) := v_istoreG F (j := 7) d hp hn hb k
theorem v_istore_8 (F : am_Fx p s m args meth c y cc nL ret et X) {z : Int} {x0 x1 x2 x3 x4 x5 x6 x7 x8 : Option Value} {T : List (Option Value)} (d : decode cc pc = .ok (.istore 8, 2)) (hp : pc + 2 = pc') (hn : am_nl (x0 :: x1 :: x2 :: x3 :: x4 :: x5 :: x6 :: x7 :: x8 :: T) 8 = true) (hb : 8 < nL) (k : V p l e R s m args below meth c nL X Q h nx cells slots pc' (x0 :: x1 :: x2 :: x3 :: x4 :: x5 :: x6 :: x7 :: some (iV z) :: T) st) : V p l e R s m args below meth c nL X Q h nx cells slots pc (x0 :: x1 :: x2 :: x3 :: x4 :: x5 :: x6 :: x7 :: x8 :: T) (iV z :: st) := v_istoreG F (j := 8) d hp hn hb k
theorem v_istore_9 (F : am_Fx p s m args meth c y cc nL ret et X) {z : Int} {x0 x1 x2 x3 x4 x5 x6 x7 x8 x9 : Option Value} {T : List (Option Value)} (d : decode cc pc = .ok (.istore 9, 2)) (hp : pc + 2 = pc') (hn : am_nl (x0 :: x1 :: x2 :: x3 :: x4 :: x5 :: x6 :: x7 :: x8 :: x9 :: T) 9 = true) (hb : 9 < nL) (k : V p l e R s m args below meth c nL X Q h nx cells slots pc' (x0 :: x1 :: x2 :: x3 :: x4 :: x5 :: x6 :: x7 :: x8 :: some (iV z) :: T) st) : V p l e R s m args below meth c nL X Q h nx cells slots pc (x0 :: x1 :: x2 :: x3 :: x4 :: x5 :: x6 :: x7 :: x8 :: x9 :: T) (iV z :: st) := v_istoreG F (j := 9) d hp hn hb k
theorem v_istore_10 (F : am_Fx p s m args meth c y cc nL ret et X) {z : Int} {x0 x1 x2 x3 x4 x5 x6 x7 x8 x9 x10 : Option Value} {T : List (Option Value)} (d : decode cc pc = .ok (.istore 10, 2)) (hp : pc + 2 = pc') (hn : am_nl (x0 :: x1 :: x2 :: x3 :: x4 :: x5 :: x6 :: x7 :: x8 :: x9 :: x10 :: T) 10 = true) (hb : 10 < nL) (k : V p l e R s m args below meth c nL X Q h nx cells slots pc' (x0 :: x1 :: x2 :: x3 :: x4 :: x5 :: x6 :: x7 :: x8 :: x9 :: some (iV z) :: T) st) : V p l e R s m args below meth c nL X Q h nx cells slots pc (x0 :: x1 :: x2 :: x3 :: x4 :: x5 :: x6 :: x7 :: x8 :: x9 :: x10 :: T) (iV z :: st) := v_istoreG F (j := 10) d hp hn hb k
theorem v_istore_11 (F : am_Fx p s m args meth c y cc nL ret et X) {z : Int} {x0 x1 x2 x3 x4 x5 x6 x7 x8 x9 x10 x11 : Option Value} {T : List (Option Value)} (d : decode cc pc = .ok (.istore 11, 2)) (hp : pc + 2 = pc') (hn : am_nl (x0 :: x1 :: x2 :: x3 :: x4 :: x5 :: x6 :: x7 :: x8 :: x9 :: x10 :: x11 :: T) 11 = true) (hb : 11 < nL) (k : V p l e R s m args below meth c nL X Q h nx cells slots pc' (x0 :: x1 :: x2 :: x3 :: x4 :: x5 :: x6 :: x7 :: x8 :: x9 :: x10 :: some (iV z) :: T) st) : V p l e R s m args below meth c nL X Q h nx cells slots pc (x0 :: x1 :: x2 :: x3 :: x4 :: x5 :: x6 :: x7 :: x8 :: x9 :: x10 :: x11 :: T) (iV z :: st) := v_istoreG F (j := 11) d hp hn hb k
theorem v_istore_12 (F : am_Fx p s m args meth c y cc nL ret et X) {z : Int} {x0 x1 x2 x3 x4 x5 x6 x7 x8 x9 x10 x11 x12 : Option Value} {T : List (Option Value)} (d : decode cc pc = .ok (.istore 12, 2)) (hp : pc + 2 = pc') (hn : am_nl (x0 :: x1 :: x2 :: x3 :: x4 :: x5 :: x6 :: x7 :: x8 :: x9 :: x10 :: x11 :: x12 :: T) 12 = true) (hb : 12 < nL) (k : V p l e R s m args below meth c nL X Q h nx cells slots pc' (x0 :: x1 :: x2 :: x3 :: x4 :: x5 :: x6 :: x7 :: x8 :: x9 :: x10 :: x11 :: some (iV z) :: T) st) : V p l e R s m args below meth c nL X Q h nx cells slots pc (x0 :: x1 :: x2 :: x3 :: x4 :: x5 :: x6 :: x7 :: x8 :: x9 :: x10 :: x11 :: x12 :: T) (iV z :: st) := v_istoreG F (j := 12) d hp hn hb k
theorem v_istore_13 (F : am_Fx p s m args meth c y cc nL ret et X) {z : Int} {x0 x1 x2 x3 x4 x5 x6 x7 x8 x9 x10 x11 x12 x13 : Option Value} {T : List (Option Value)} (d : decode cc pc = .ok (.istore 13, 2)) (hp : pc + 2 = pc') (hn : am_nl (x0 :: x1 :: x2 :: x3 :: x4 :: x5 :: x6 :: x7 :: x8 :: x9 :: x10 :: x11 :: x12 :: x13 :: T) 13 = true) (hb : 13 < nL) (k : V p l e R s m args below meth c nL X Q h nx cells slots pc' (x0 :: x1 :: x2 :: x3 :: x4 :: x5 :: x6 :: x7 :: x8 :: x9 :: x10 :: x11 :: x12 :: some (iV z) :: T) st) : V p l e R s m args below meth c nL X Q h nx cells slots pc (x0 :: x1 :: x2 :: x3 :: x4 :: x5 :: x6 :: x7 :: x8 :: x9 :: x10 :: x11 :: x12 :: x13 :: T) (iV z :: st) := v_istoreG F (j := 13) d hp hn hb k
theorem v_istore_14 (F : am_Fx p s m args meth c y cc nL ret et X) {z : Int} {x0 x1 x2 x3 x4 x5 x6 x7 x8 x9 x10 x11 x12 x13 x14 : Option Value} {T : List (Option Value)} (d : decode cc pc = .ok (.istore 14, 2)) (hp : pc + 2 = pc') (hn : am_nl (x0 :: x1 :: x2 :: x3 :: x4 :: x5 :: x6 :: x7 :: x8 :: x9 :: x10 :: x11 :: x12 :: x13 :: x14 :: T) 14 = true) (hb : 14 < nL) (k : V p l e R s m args below meth c nL X Q h nx cells slots pc' (x0 :: x1 :: x2 :: x3 :: x4 :: x5 :: x6 :: x7 :: x8 :: x9 :: x10 :: x11 :: x12 :: x13 :: some (iV z) :: T) st) : V p l e R s m args below meth c nL X Q h nx cells slots pc (x0 :: x1 :: x2 :: x3 :: x4 :: x5 :: x6 :: x7 :: x8 :: x9 :: x10 :: x11 :: x12 :: x13 :: x14 :: T) (iV z :: st) := v_istoreG F (j := 14) d hp hn hb k
theorem v_istore_15 (F : am_Fx p s m args meth c y cc nL ret et X) {z : Int} {x0 x1 x2 x3 x4 x5 x6 x7 x8 x9 x10 x11 x12 x13 x14 x15 : Option Value} {T : List (Option Value)} (d : decode cc pc = .ok (.istore 15, 2)) (hp : pc + 2 = pc') (hn : am_nl (x0 :: x1 :: x2 :: x3 :: x4 :: x5 :: x6 :: x7 :: x8 :: x9 :: x10 :: x11 :: x12 :: x13 :: x14 :: x15 :: T) 15 = true) (hb : 15 < nL) (k : V p l e R s m args below meth c nL X Q h nx cells slots pc' (x0 :: x1 :: x2 :: x3 :: x4 :: x5 :: x6 :: x7 :: x8 :: x9 :: x10 :: x11 :: x12 :: x13 :: x14 :: some (iV z) :: T) st) : V p l e R s m args below meth c nL X Q h nx cells slots pc (x0 :: x1 :: x2 :: x3 :: x4 :: x5 :: x6 :: x7 :: x8 :: x9 :: x10 :: x11 :: x12 :: x13 :: x14 :: x15 :: T) (iV z :: st) := v_istoreG F (j := 15) d hp hn hb k
theorem v_istore_16 (F : am_Fx p s m args meth c y cc nL ret et X) {z : Int} {x0 x1 x2 x3 x4 x5 x6 x7 x8 x9 x10 x11 x12 x13 x14 x15 x16 : Option Value} {T : List (Option Value)} (d : decode cc pc = .ok (.istore 16, 2)) (hp : pc + 2 = pc') (hn : am_nl (x0 :: x1 :: x2 :: x3 :: x4 :: x5 :: x6 :: x7 :: x8 :: x9 :: x10 :: x11 :: x12 :: x13 :: x14 :: x15 :: x16 :: T) 16 = true) (hb : 16 < nL) (k : V p l e R s m args below meth c nL X Q h nx cells slots pc' (x0 :: x1 :: x2 :: x3 :: x4 :: x5 :: x6 :: x7 :: x8 :: x9 :: x10 :: x11 :: x12 :: x13 :: x14 :: x15 :: some (iV z) :: T) st) : V p l e R s m args below meth c nL X Q h nx cells slots pc (x0 :: x1 :: x2 :: x3 :: x4 :: x5 :: x6 :: x7 :: x8 :: x9 :: x10 :: x11 :: x12 :: x13 :: x14 :: x15 :: x16 :: T) (iV z :: st) := v_istoreG F (j := 16) d hp hn hb k
theorem v_istore_17 (F : am_Fx p s m args meth c y cc nL ret et X) {z : Int} {x0 x1 x2 x3 x4 x5 x6 x7 x8 x9 x10 x11 x12 x13 x14 x15 x16 x17 : Option Value} {T : List (Option Value)} (d : decode cc pc = .ok (.istore 17, 2)) (hp : pc + 2 = pc') (hn : am_nl (x0 :: x1 :: x2 :: x3 :: x4 :: x5 :: x6 :: x7 :: x8 :: x9 :: x10 :: x11 :: x12 :: x13 :: x14 :: x15 :: x16 :: x17 :: T) 17 = true) (hb : 17 < nL) (k : V p l e R s m args below meth c nL X Q h nx cells slots pc' (x0 :: x1 :: x2 :: x3 :: x4 :: x5 :: x6 :: x7 :: x8 :: x9 :: x10 :: x11 :: x12 :: x13 :: x14 :: x15 :: x16 :: some (iV z) :: T) st) : V p l e R s m args below meth c nL X Q h nx cells slots pc (x0 :: x1 :: x2 :: x3 :: x4 :: x5 :: x6 :: x7 :: x8 :: x9 :: x10 :: x11 :: x12 :: x13 :: x14 :: x15 :: x16 :: x17 :: T) (iV z :: st) := v_istoreG F (j := 17) d hp hn hb k
theorem v_lstore_nG (F : am_Fx p s m args meth c y cc nL ret et X) {i : Fin 4} {j : Nat} {z : Int} (d : decode cc pc = .ok (.lstore_n i, 1)) (hp : pc + 1 = pc') (hi : (i : Nat) = j) (hn : am_nl L j = true) (hb : j + 1 < nL) (k : V p l e R s m args below meth c nL X Q h nx cells slots pc' ((L.set j (some (lV z))).set (j + 1) none) st) : V p l e R s m args below meth c nL X Q h nx cells slots pc L (lV z :: st) := by
  subst hp
  intro H locs ls hR hL hl
  subst hi
  obtain ⟨ls', e', h'⟩ := am_store2 (v := lV z) hl hb rfl hn
  intro T hT X
  obtain ⟨t, a, b⟩ := k H locs ls' hR hL h' T hT X
  refine ⟨t, ?_, b⟩
  jvm_step X.here [X.here.top, ↓top_set X.here.top, F.1, F.2.1, d, e']
  exact a
theorem v_lstore_0 (F : am_Fx p s m args meth c y cc nL ret et X) {z : Int} {x0 x1 : Option Value} {T : List (Option Value)} (d : decode cc pc = .ok (.lstore_n 0, 1)) (hp : pc + 1 = pc') (hn : am_nl (x0 :: x1 :: T) 0 = true) (hb : 0 + 1 < nL) (k : V p l e R s m args below meth c nL X Q h nx cells slots pc' (some (lV z) :: none :: T) st) : V p l e R s m args below meth c nL X Q h nx cells slots pc (x0 :: x1 :: T) (lV z :: st) := v_lstore_nG F (j := 0) d hp rfl hn hb k
theorem v_lstore_1 (F : am_Fx p s m args meth c y cc nL ret et X) {z : Int} {x0 x1 x2 : Option Value} {T : List (Option Value)} (d : decode cc pc = .ok (.lstore_n 1, 1)) (hp : pc + 1 = pc') (hn : am_nl (x0 :: x1 :: x2 :: T) 1 = true) (hb : 1 + 1 < nL) (k : V p l e R s m args below meth c nL X Q h nx cells slots pc' (x0 :: some (lV z) :: none :: T) st) : V p l e R s m args below meth c nL X Q h nx cells slots pc (x0 :: x1 :: x2 :: T) (lV z :: st) := v_lstore_nG F (j := 1) d hp rfl hn hb k
theorem v_lstore_2 (F : am_Fx p s m args meth c y cc nL ret et X) {z : Int} {x0 x1 x2 x3 : Option Value} {T : List (Option Value)} (d : decode cc pc = .ok (.lstore_n 2, 1)) (hp : pc + 1 = pc') (hn : am_nl (x0 :: x1 :: x2 :: x3 :: T) 2 = true) (hb : 2 + 1 < nL) (k : V p l e R s m args below meth c nL X Q h nx cells slots pc' (x0 :: x1 :: some (lV z) :: none :: T) st) : V p l e R s m args below meth c nL X Q h nx cells slots pc (x0 :: x1 :: x2 :: x3 :: T) (lV z :: st) := v_lstore_nG F (j := 2) d hp rfl hn hb k
theorem v_lstore_3 (F : am_Fx p s m args meth c y cc nL ret et X) {z : Int} {x0 x1 x2 x3 x4 : Option Value} {T : List (Option Value)} (d : decode cc pc = .ok (.lstore_n 3, 1)) (hp : pc + 1 = pc') (hn : am_nl (x0 :: x1 :: x2 :: x3 :: x4 :: T) 3 = true) (hb : 3 + 1 < nL) (k : V p l e R s m args below meth c nL X Q h nx cells slots pc' (x0 :: x1 :: x2 :: some (lV z) :: none :: T) st) : V p l e R s m args below meth c nL X Q h nx cells slots pc (x0 :: x1 :: x2 :: x3 :: x4 :: T) (lV z :: st) := v_lstore_nG F (j := 3) d hp rfl hn hb k
theorem v_lstoreG (F : am_Fx p s m args meth c y cc nL ret et X) {j : Nat} {z : Int} (d : decode cc pc = .ok (.lstore j, 2)) (hp : pc + 2 = pc') (hn : am_nl L j = true) (hb : j + 1 < nL) (k : V p l e R s m args below meth c nL X Q h nx cells slots pc' ((L.set j (some (lV z))).set (j + 1) none) st) : V p l e R s m args below meth c nL X Q h nx cells slots pc L (lV z :: st) := by
  subst hp
  intro H locs ls hR hL hl
  skip
  obtain ⟨ls', e', h'⟩ := am_store2 (v := lV z) hl hb rfl hn
  intro T hT X
  obtain ⟨t, a, b⟩ := k H locs ls' hR hL h' T hT X
  refine ⟨t, ?_, b⟩
  jvm_step X.here [X.here.top, ↓top_set X.here.top, F.1, F.2.1, d, e']
  exact a
theorem v_lstore_4 (F : am_Fx p s m args meth c y cc nL ret et X) {z : Int} {x0 x1 x2 x3 x4 x5 : Option Value} {T : List (Option Value)} (d : decode cc pc = .ok (.lstore 4, 2)) (hp : pc + 2 = pc') (hn : am_nl (x0 :: x1 :: x2 :: x3 :: x4 :: x5 :: T) 4 = true) (hb : 4 + 1 < nL) (k : V p l e R s m args below meth c nL X Q h nx cells slots pc' (x0 :: x1 :: x2 :: x3 :: some (lV z) :: none :: T) st) : V p l e R s m args below meth c nL X Q h nx cells slots pc (x0 :: x1 :: x2 :: x3 :: x4 :: x5 :: T) (lV z :: st) := v_lstoreG F (j := 4) d hp hn hb k
theorem v_lstore_5 (F : am_Fx p s m args meth c y cc nL ret et X) {z : Int} {x0 x1 x2 x3 x4 x5 x6 : Option Value} {T : List (Option Value)} (d : decode cc pc = .ok (.lstore 5, 2)) (hp : pc + 2 = pc') (hn : am_nl (x0 :: x1 :: x2 :: x3 :: x4 :: x5 :: x6 :: T) 5 = true) (hb : 5 + 1 < nL) (k : V p l e R s m args below meth c nL X Q h nx cells slots pc' (x0 :: x1 :: x2 :: x3 :: x4 :: some (lV z) :: none :: T) st) : V p l e R s m args below meth c nL X Q h nx cells slots pc (x0 :: x1 :: x2 :: x3 :: x4 :: x5 :: x6 :: T) (lV z :: st) := v_lstoreG F (j := 5) d hp hn hb k
theorem v_lstore_6 (F : am_Fx p s m args meth c y cc nL ret et X) {z : Int} {x0 x1 x2 x3 x4 x5 x6 x7 : Option Value} {T : List (Option Value)} (d : decode cc pc = .ok (.lstore 6, 2)) (hp : pc + 2 = pc') (hn : am_nl (x0 :: x1 :: x2 :: x3 :: x4 :: x5 :: x6 :: x7 :: T) 6 = true) (hb : 6 + 1 < nL) (k : V p l e R s m args below meth c nL X Q h nx cells slots pc' (x0 :: x1 :: x2 :: x3 :: x4 :: x5 :: some (lV z) :: none :: T) st) : V p l e R s m args below meth c nL X Q h nx cells slots pc (x0 :: x1 :: x2 :: x3 :: x4 :: x5 :: x6 :: x7 :: T) (lV z :: st) := v_lstoreG F (j := 6) d hp hn hb k
theorem v_lstore_7 (F : am_Fx p s m args meth c y cc nL ret et X) {z : Int} {x0 x1 x2 x3 x4 x5 x6 x7 x8 : Option Value} {T : List (Option Value)} (d : decode cc pc = .ok (.lstore 7, 2)) (hp : pc + 2 = pc') (hn : am_nl (x0 :: x1 :: x2 :: x3 :: x4 :: x5 :: x6 :: x7 :: x8 :: T) 7 = true) (hb : 7 + 1 < nL) (k : V p l e R s m args below meth c nL X Q h nx cells slots pc' (x0 :: x1 :: x2 :: x3 :: x4 :: x5 :: x6 :: some (lV z) :: none :: T) st) : V p l e R s m args below meth c nL X Q h nx cells slots pc (x0 :: x1 :: x2 :: x3 :: x4 :: x5 :: x6 :: x7 :: x8 :: T) (lV z :: st) := v_lstoreG F (j := 7) d hp hn hb k
theorem v_lstore_8 (F : am_Fx p s m args meth c y cc nL ret et X) {z : Int} {x0 x1 x2 x3 x4 x5 x6 x7 x8 x9 : Option Value} {T : List (Option Value)} (d : decode cc pc = .ok (.lstore 8, 2)) (hp : pc + 2 = pc') (hn : am_nl (x0 :: x1 :: x2 :: x3 :: x4 :: x5 :: x6 :: x7 :: x8 :: x9 :: T) 8 = true) (hb : 8 + 1 < nL) (k : V p l e R s m args below meth c nL X Q h nx cells slots pc' (x0 :: x1 :: x2 :: x3 :: x4 :: x5 :: x6 :: x7 :: some (lV z) :: none :: T) st) : V p l e R s m args below meth c nL X Q h nx cells slots pc (x0 :: x1 :: x2 :: x3 :: x4 :: x5 :: x6 :: x7 :: x8 :: x9 :: T) (lV z :: st) := v_lstoreG F (j := 8) d hp hn hb k
theorem v_lstore_9 (F : am_Fx p s m args meth c y cc nL ret et X) {z : Int} {x0 x1 x2 x3 x4 x5 x6 x7 x8 x9 x10 : Option Value} {T : List (Option Value)} (d : decode cc pc = .ok (.lstore 9, 2)) (hp : pc + 2 = pc') (hn : am_nl (x0 :: x1 :: x2 :: x3 :: x4 :: x5 :: x6 :: x7 :: x8 :: x9 :: x10 :: T) 9 = true) (hb : 9 + 1 < nL) (k : V p l e R s m args below meth c nL X Q h nx cells slots pc' (x0 :: x1 :: x2 :: x3 :: x4 :: x5 :: x6 :: x7 :: x8 :: some (lV z) :: none :: T) st) : V p l e R s m args below meth c nL X Q h nx cells slots pc (x0 :: x1 :: x2 :: x3 :: x4 :: x5 :: x6 :: x7 :: x8 :: x9 :: x10 :: T) (lV z :: st) := v_lstoreG F (j := 9) d hp hn hb k
theorem v_lstore_10 (F : am_Fx p s m args meth c y cc nL ret et X) {z : Int} {x0 x1 x2 x3 x4 x5 x6 x7 x8 x9 x10 x11 : Option Value} {T : List (Option Value)} (d : decode cc pc = .ok (.lstore 10, 2)) (hp : pc + 2 = pc') (hn : am_nl (x0 :: x1 :: x2 :: x3 :: x4 :: x5 :: x6 :: x7 :: x8 :: x9 :: x10 :: x11 :: T) 10 = true) (hb : 10 + 1 < nL) (k : V p l e R s m args below meth c nL X Q h nx cells slots pc' (x0 :: x1 :: x2 :: x3 :: x4 :: x5 :: x6 :: x7 :: x8 :: x9 :: some (lV z) :: none :: T) st) : V p l e R s m args below meth c nL X Q h nx cells slots pc (x0 :: x1 :: x2 :: x3 :: x4 :: x5 :: x6 :: x7 :: x8 :: x9 :: x10 :: x11 :: T) (lV z :: st) := v_lstoreG F (j := 10) d hp hn hb k
theorem v_lstore_11 (F : am_Fx p s m args meth c y cc nL ret et X) {z : Int} {x0 x1 x2 x3 x4 x5 x6 x7 x8 x9 x10 x11 x12 : Option Value} {T : List (Option Value)} (d : decode cc pc = .ok (.lstore 11, 2)) (hp : pc + 2 = pc') (hn : am_nl (x0 :: x1 :: x2 :: x3 :: x4 :: x5 :: x6 :: x7 :: x8 :: x9 :: x10 :: x11 :: x12 :: T) 11 = true) (hb : 11 + 1 < nL) (k : V p l e R s m args below meth c nL X Q h nx cells slots pc' (x0 :: x1 :: x2 :: x3 :: x4 :: x5 :: x6 :: x7 :: x8 :: x9 :: x10 :: some (lV z) :: none :: T) st) : V p l e R s m args below meth c nL X Q h nx cells slots pc (x0 :: x1 :: x2 :: x3 :: x4 :: x5 :: x6 :: x7 :: x8 :: x9 :: x10 :: x11 :: x12 :: T) (lV z :: st) := v_lstoreG F (j := 11) d hp hn hb k
theorem v_lstore_12 (F : am_Fx p s m args meth c y cc nL ret et X) {z : Int} {x0 x1 x2 x3 x4 x5 x6 x7 x8 x9 x10 x11 x12 x13 : Option Value} {T : List (Option Value)} (d : decode cc pc = .ok (.lstore 12, 2)) (hp : pc + 2 = pc') (hn : am_nl (x0 :: x1 :: x2 :: x3 :: x4 :: x5 :: x6 :: x7 :: x8 :: x9 :: x10 :: x11 :: x12 :: x13 :: T) 12 = true) (hb : 12 + 1 < nL) (k : V p l e R s m args below meth c nL X Q h nx cells slots pc' (x0 :: x1 :: x2 :: x3 :: x4 :: x5 :: x6 :: x7 :: x8 :: x9 :: x10 :: x11 :: some (lV z) :: none :: T) st) : V p l e R s m args below meth c nL X Q h nx cells slots pc (x0 :: x1 :: x2 :: x3 :: x4 :: x5 :: x6 :: x7 :: x8 :: x9 :: x10 :: x11 :: x12 :: x13 :: T) (lV z :: st) := v_lstoreG F (j := 12) d hp hn hb k
theorem v_lstore_13 (F : am_Fx p s m args meth c y cc nL ret et X) {z : Int} {x0 x1 x2 x3 x4 x5 x6 x7 x8 x9 x10 x11 x12 x13 x14 : Option Value} {T : List (Option Value)} (d : decode cc pc = .ok (.lstore 13, 2)) (hp : pc + 2 = pc') (hn : am_nl (x0 :: x1 :: x2 :: x3 :: x4 :: x5 :: x6 :: x7 :: x8 :: x9 :: x10 :: x11 :: x12 :: x13 :: x14 :: T) 13 = true) (hb : 13 + 1 < nL) (k : V p l e R s m args below meth c nL X Q h nx cells slots pc' (x0 :: x1 :: x2 :: x3 :: x4 :: x5 :: x6 :: x7 :: x8 :: x9 :: x10 :: x11 :: x12 :: some (lV z) :: none :: T) st) : V p l e R s m args below meth c nL X Q h nx cells slots pc (x0 :: x1 :: x2 :: x3 :: x4 :: x5 :: x6 :: x7 :: x8 :: x9 :: x10 :: x11 :: x12 :: x13 :: x14 :: T) (lV z :: st) := v_lstoreG F (j := 13) d hp hn hb k
theorem v_lstore_14 (F : am_Fx p s m args meth c y cc nL ret et X) {z : Int} {x0 x1 x2 x3 x4 x5 x6 x7 x8 x9 x10 x11 x12 x13 x14 x15 : Option Value} {T : List (Option Value)} (d : decode cc pc = .ok (.lstore 14, 2)) (hp : pc + 2 = pc') (hn : am_nl (x0 :: x1 :: x2 :: x3 :: x4 :: x5 :: x6 :: x7 :: x8 :: x9 :: x10 :: x11 :: x12 :: x13 :: x14 :: x15 :: T) 14 = true) (hb : 14 + 1 < nL) (k : V p l e R s m args below meth c nL X Q h nx cells slots pc' (x0 :: x1 :: x2 :: x3 :: x4 :: x5 :: x6 :: x7 :: x8 :: x9 :: x10 :: x11 :: x12 :: x13 :: some (lV z) :: none :: T) st) : V p l e R s m args below meth c nL X Q h nx cells slots pc (x0 :: x1 :: x2 :: x3 :: x4 :: x5 :: x6 :: x7 :: x8 :: x9 :: x10 :: x11 :: x12 :: x13 :: x14 :: x15 :: T) (lV z :: st) := v_lstoreG F (j := 14) d hp hn hb k
theorem v_lstore_15 (F : am_Fx p s m args meth c y cc nL ret et X) {z : Int} {x0 x1 x2 x3 x4 x5 x6 x7 x8 x9 x10 x11 x12 x13 x14 x15 x16 : Option Value} {T : List (Option Value)} (d : decode cc pc = .ok (.lstore 15, 2)) (hp : pc + 2 = pc') (hn : am_nl (x0 :: x1 :: x2 :: x3 :: x4 :: x5 :: x6 :: x7 :: x8 :: x9 :: x10 :: x11 :: x12 :: x13 :: x14 :: x15 :: x16 :: T) 15 = true) (hb : 15 + 1 < nL) (k : V p l e R s m args below meth c nL X Q h nx cells slots pc' (x0 :: x1 :: x2 :: x3 :: x4 :: x5 :: x6 :: x7 :: x8 :: x9 :: x10 :: x11 :: x12 :: x13 :: x14 :: some (lV z) :: none :: T) st) : V p l e R s m args below meth c nL X Q h nx cells slots pc (x0 :: x1 :: x2 :: x3 :: x4 :: x5 :: x6 :: x7 :: x8 :: x9 :: x10 :: x11 :: x12 :: x13 :: x14 :: x15 :: x16 :: T) (lV z :: st) := v_lstoreG F (j := 15) d hp hn hb k
theorem v_lstore_16 (F : am_Fx p s m args meth c y cc nL ret et X) {z : Int} {x0 x1 x2 x3 x4 x5 x6 x7 x8 x9 x10 x11 x12 x13 x14 x15 x16 x17 : Option Value} {T : List (Option Value)} (d : decode cc pc = .ok (.lstore 16, 2)) (hp : pc + 2 = pc') (hn : am_nl (x0 :: x1 :: x2 :: x3 :: x4 :: x5 :: x6 :: x7 :: x8 :: x9 :: x10 :: x11 :: x12 :: x13 :: x14 :: x15 :: x16 :: x17 :: T) 16 = true) (hb : 16 + 1 < nL) (k : V p l e R s m args below meth c nL X Q h nx cells slots pc' (x0 :: x1 :: x2 :: x3 :: x4 :: x5 :: x6 :: x7 :: x8 :: x9 :: x10 :: x11 :: x12 :: x13 :: x14 :: x15 :: some (lV z) :: none :: T) st) : V p l e R s m args below meth c nL X Q h nx cells slots pc (x0 :: x1 :: x2 :: x3 :: x4 :: x5 :: x6 :: x7 :: x8 :: x9 :: x10 :: x11 :: x12 :: x13 :: x14 :: x15 :: x16 :: x17 :: T) (lV z :: st) := v_lstoreG F (j := 16) d hp hn hb k
theorem v_lstore_17 (F : am_Fx p s m args meth c y cc nL ret et X) {z : Int} {x0 x1 x2 x3 x4 x5 x6 x7 x8 x9 x10 x11 x12 x13 x14 x15 x16 x17 x18 : Option Value} {T : List (Option Value)} (d : decode cc pc = .ok (.lstore 17, 2)) (hp : pc + 2 = pc') (hn : am_nl (x0 :: x1 :: x2 :: x3 :: x4 :: x5 :: x6 :: x7 :: x8 :: x9 :: x10 :: x11 :: x12 :: x13 :: x14 :: x15 :: x16 :: x17 :: x18 :: T) 17 = true) (hb : 17 + 1 < nL) (k : V p l e R s m args below meth c nL X Q h nx cells slots pc' (x0 :: x1 :: x2 :: x3 :: x4 :: x5 :: x6 :: x7 :: x8 :: x9 :: x10 :: x11 :: x12 :: x13 :: x14 :: x15 :: x16 :: some (lV z) :: none :: T) st) : V p l e R s m args below meth c nL X Q h nx cells slots pc (x0 :: x1 :: x2 :: x3 :: x4 :: x5 :: x6 :: x7 :: x8 :: x9 :: x10 :: x11 :: x12 :: x13 :: x14 :: x15 :: x16 :: x17 :: x18 :: T) (lV z :: st) := v_lstoreG F (j := 17) d hp hn hb k
theorem v_astore_nG (F : am_Fx p s m args meth c y cc nL ret et X) {i : Fin 4} {j : Nat} {z : Nat} (d : decode cc pc = .ok (.astore_n i, 1)) (hp : pc + 1 = pc') (hi : (i : Nat) = j) (hn : am_nl L j = true) (hb : j < nL) (k : V p l e R s m args below meth c nL X Q h nx cells slots pc' (L.set j (some (.ref z))) st) : V p l e R s m args below meth c nL X Q h nx cells slots pc L (.ref z :: st) := by
  subst hp
  intro H locs ls hR hL hl
  subst hi
  obtain ⟨ls', e', h'⟩ := am_store1 (v := .ref z) hl hb rfl hn
  intro T hT X
  obtain ⟨t, a, b⟩ := k H locs ls' hR hL h' T hT X
  refine ⟨t, ?_, b⟩
  jvm_step X.here [X.here.top, ↓top_set X.here.top, F.1, F.2.1, d, e', Value.isRef]
  exact a
theorem v_astore_0 (F : am_Fx p s m args meth c y cc nL ret et X) {z : Nat} {x0 : Option Value} {T : List (Option Value)} (d : decode cc pc = .ok (.astore_n 0, 1)) (hp : pc + 1 = pc') (hn : am_nl (x0 :: T) 0 = true) (hb : 0 < nL) (k : V p l e R s m args below meth c nL X Q h nx cells slots pc' (some (.ref z) :: T) st) : V p l e R s m args below meth c nL X Q h nx cells slots pc (x0 :: T) (.ref z :: st) := v_astore_nG F (j := 0) d hp rfl hn hb k
theorem v_astore_1 (F : am_Fx p s m args meth c y cc nL ret et X) {z : Nat} {x0 x1 : Option Value} {T : List (Option Value)} (d : decode cc pc = .ok (.astore_n 1, 1)) (hp : pc + 1 = pc') (hn : am_nl (x0 :: x1 :: T) 1 = true) (hb : 1 < nL) (k : V p l e R s m args below meth c nL X Q h nx cells slots pc' (x0 :: some (.ref z) :: T) st) : V p l e R s m args below meth c nL X Q h nx cells slots pc (x0 :: x1 :: T) (.ref z :: st) := v_astore_nG F (j := 1) d hp rfl hn hb k
theorem v_astore_2 (F : am_Fx p s m args meth c y cc nL ret et X) {z : Nat} {x0 x1 x2 : Option Value} {T : List (Option Value)} (d : decode cc pc = .ok (.astore_n 2, 1)) (hp : pc + 1 = pc') (hn : am_nl (x0 :: x1 :: x2 :: T) 2 = true) (hb : 2 < nL) (k : V p l e R s m args below meth c nL X Q h nx cells slots pc' (x0 :: x1 :: some (.ref z) :: T) st) : V p l e R s m args below meth c nL X Q h nx cells slots pc (x0 :: x1 :: x2 :: T) (.ref z :: st) := v_astore_nG F (j := 2) d hp rfl hn hb k
theorem v_astore_3 (F : am_Fx p s m args meth c y cc nL ret et X) {z : Nat} {x0 x1 x2 x3 : Option Value} {T : List (Option Value)} (d : decode cc pc = .ok (.astore_n 3, 1)) (hp : pc + 1 = pc') (hn : am_nl (x0 :: x1 :: x2 :: x3 :: T) 3 = true) (hb : 3 < nL) (k : V p l e R s m args below meth c nL X Q h nx cells slots pc' (x0 :: x1 :: x2 :: some (.ref z) :: T) st) : V p l e R s m args below meth c nL X Q h nx cells slots pc (x0 :: x1 :: x2 :: x3 :: T) (.ref z :: st) := v_astore_nG F (j := 3) d hp rfl hn hb k
theorem v_astoreG (F : am_Fx p s m args meth c y cc nL ret et X) {j : Nat} {z : Nat} (d : decode cc pc = .ok (.astore j, 2)) (hp : pc + 2 = pc') (hn : am_nl L j = true) (hb : j < nL) (k : V p l e R s m args below meth c nL X Q h nx cells slots pc' (L.set j (some (.ref z))) st) : V p l e R s m args below meth c nL X Q h nx cells slots pc L (.ref z :: st) := by
  subst hp
  intro H locs ls hR hL hl
  skip
  obtain ⟨ls', e', h'⟩ := am_store1 (v := .ref z) hl hb rfl hn
  intro T hT X
  obtain ⟨t, a, b⟩ := k H locs ls' hR hL h' T hT X
  refine ⟨t, ?_, b⟩
  jvm_step X.here [X.here.top, ↓top_set X.here.top, F.1, F.2.1, d, e', Value.isRef]
  exact a
theorem v_astore_4 (F : am_Fx p s m args meth c y cc nL ret et X) {z : Nat} {x0 x1 x2 x3 x4 : Option Value} {T : List (Option Value)} (d : decode cc pc = .ok (.astore 4, 2)) (hp : pc + 2 = pc') (hn : am_nl (x0 :: x1 :: x2 :: x3 :: x4 :: T) 4 = true) (hb : 4 < nL) (k : V p l e R s m args below meth c nL X Q h nx cells slots pc' (x0 :: x1 :: x2 :: x3 :: some (.ref z) :: T) st) : V p l e R s m args below meth c nL X Q h nx cells slots pc (x0 :: x1 :: x2 :: x3 :: x4 :: T) (.ref z :: st) := v_astoreG F (j := 4) d hp hn hb k
theorem v_astore_5 (F : am_Fx p s m args meth c y cc nL ret et X) {z : Nat} {x0 x1 x2 x3 x4 x5 : Option Value} {T : List (Option Value)} (d : decode cc pc = .ok (.astore 5, 2)) (hp : pc + 2 = pc') (hn : am_nl (x0 :: x1 :: x2 :: x3 :: x4 :: x5 :: T) 5 = true) (hb : 5 < nL) (k : V p l e R s m args below meth c nL X Q h nx cells slots pc' (x0 :: x1 :: x2 :: x3 :: x4 :: some (.ref z) :: T) st) : V p l e R s m args below meth c nL X Q h nx cells slots pc (x0 :: x1 :: x2 :: x3 :: x4 :: x5 :: T) (.ref z :: st) := v_astoreG F (j := 5) d hp hn hb k
theorem v_astore_6 (F : am_Fx p s m args meth c y cc nL ret et X) {z : Nat} {x0 x1 x2 x3 x4 x5 x6 : Option Value} {T : List (Option Value)} (d : decode cc pc = .ok (.astore 6, 2)) (hp : pc + 2 = pc') (hn : am_nl (x0 :: x1 :: x2 :: x3 :: x4 :: x5 :: x6 :: T) 6 = true) (hb : 6 < nL) (k : V p l e R s m args below meth c nL X Q h nx cells slots pc' (x0 :: x1 :: x2 :: x3 :: x4 :: x5 :: some (.ref z) :: T) st) : V p l e R s m args below meth c nL X Q h nx cells slots pc (x0 :: x1 :: x2 :: x3 :: x4 :: x5 :: x6 :: T) (.ref z :: st) := v_astoreG F (j := 6) d hp hn hb k
theorem v_astore_7 (F : am_Fx p s m args meth c y cc nL ret et X) {z : Nat} {x0 x1 x2 x3 x4 x5 x6 x7 : Option Value} {T : List (Option Value)} (d : decode cc pc = .ok (.astore 7, 2)) (hp : pc + 2 = pc') (hn : am_nl (x0 :: x1 :: x2 :: x3 :: x4 :: x5 :: x6 :: x7 :: T) 7 = true) (hb : 7 < nL) (k : V p l e R s m args below meth c nL X Q h nx cells slots pc' (x0 :: x1 :: x2 :: x3 :: x4 :: x5 :: x6 :: some (.ref z) :: T) st) : V p l e R s m args below meth c nL X Q h nx cells slots pc (x0 :: x1 :: x2 :: x3 :: x4 :: x5 :: x6 :: x7 :: T) (.ref z :: st) := v_astoreG F (j := 7) d hp hn hb k
theorem v_astore_8 (F : am_Fx p s m args meth c y cc nL ret et X) {z : Nat} {x0 x1 x2 x3 x4 x5 x6 x7 x8 : Option Value} {T : List (Option Value)} (d : decode cc pc = .ok (.astore 8, 2)) (hp : pc + 2 = pc') (hn : am_nl (x0 :: x1 :: x2 :: x3 :: x4 :: x5 :: x6 :: x7 :: x8 :: T) 8 = true) (hb : 8 < nL) (k : V p l e R s m args below meth c nL X Q h nx cells slots pc' (x0 :: x1 :: x2 :: x3 :: x4 :: x5 :: x6 :: x7 :: some (.ref z) :: T) st) : V p l e R s m args below meth c nL X Q h nx cells slots pc (x0 :: x1 :: x2 :: x3 :: x4 :: x5 :: x6 :: x7 :: x8 :: T) (.ref z :: st) := v_astoreG F (j := 8) d hp hn hb k
theorem v_astore_9 (F : am_Fx p s m args meth c y cc nL ret et X) {z : Nat} {x0 x1 x2 x3 x4 x5 x6 x7 x8 x9 : Option Value} {T : List (Option Value)} (d : decode cc pc = .ok (.astore 9, 2)) (hp : pc + 2 = pc') (hn : am_nl (x0 :: x1 :: x2 :: x3 :: x4 :: x5 :: x6 :: x7 :: x8 :: x9 :: T) 9 = true) (hb : 9 < nL) (k : V p l e R s m args below meth c nL X Q h nx cells slots pc' (x0 :: x1 :: x2 :: x3 :: x4 :: x5 :: x6 :: x7 :: x8 :: some (.ref z) :: T) st) : V p l e R s m args below meth c nL X Q h nx cells slots pc (x0 :: x1 :: x2 :: x3 :: x4 :: x5 :: x6 :: x7 :: x8 :: x9 :: T) (.ref z :: st) := v_astoreG F (j := 9) d hp hn hb k
theorem v_astore_10 (F : am_Fx p s m args meth c y cc nL ret et X) {z : Nat} {x0 x1 x2 x3 x4 x5 x6 x7 x8 x9 x10 : Option Value} {T : List (Option Value)} (d : decode cc pc = .ok (.astore 10, 2)) (hp : pc + 2 = pc') (hn : am_nl (x0 :: x1 :: x2 :: x3 :: x4 :: x5 :: x6 :: x7 :: x8 :: x9 :: x10 :: T) 10 = true) (hb : 10 < nL) (k : V p l e R s m args below meth c nL X Q h nx cells slots pc' (x0 :: x1 :: x2 :: x3 :: x4 :: x5 :: x6 :: x7 :: x8 :: x9 :: some (.ref z) :: T) st) : V p l e R s m args below meth c nL X Q h nx cells slots pc (x0 :: x1 :: x2 :: x3 :: x4 :: x5 :: x6 :: x7 :: x8 :: x9 :: x10 :: T) (.ref z :: st) := v_astoreG F (j := 10) d hp hn hb k
theorem v_astore_11 (F : am_Fx p s m args meth c y cc nL ret et X) {z : Nat} {x0 x1 x2 x3 x4 x5 x6 x7 x8 x9 x10 x11 : Option Value} {T : List (Option Value)} (d : decode cc pc = .ok (.astore 11, 2)) (hp : pc + 2 = pc') (hn : am_nl (x0 :: x1 :: x2 :: x3 :: x4 :: x5 :: x6 :: x7 :: x8 :: x9 :: x10 :: x11 :: T) 11 = true) (hb : 11 < nL) (k : V p l e R s m args below meth c nL X Q h nx cells slots pc' (x0 :: x1 :: x2 :: x3 :: x4 :: x5 :: x6 :: x7 :: x8 :: x9 :: x10 :: some (.ref z) :: T) st) : V p l e R s m args below meth c nL X Q h nx cells slots pc (x0 :: x1 :: x2 :: x3 :: x4 :: x5 :: x6 :: x7 :: x8 :: x9 :: x10 :: x11 :: T) (.ref z :: st) := v_astoreG F (j := 11) d hp hn hb k
theorem v_astore_12 (F : am_Fx p s m args meth c y cc nL ret et X) {z : Nat} {x0 x1 x2 x3 x4 x5 x6 x7 x8 x9 x10 x11 x12 : Option Value} {T : List (Option Value)} (d : decode cc pc = .ok (.astore 12, 2)) (hp : pc + 2 = pc') (hn : am_nl (x0 :: x1 :: x2 :: x3 :: x4 :: x5 :: x6 :: x7 :: x8 :: x9 :: x10 :: x11 :: x12 :: T) 12 = true) (hb : 12 < nL) (k : V p l e R s m args below meth c nL X Q h nx cells slots pc' (x0 :: x1 :: x2 :: x3 :: x4 :: x5 :: x6 :: x7 :: x8 :: x9 :: x10 :: x11 :: some (.ref z) :: T) st) : V p l e R s m args below meth c nL X Q h nx cells slots pc (x0 :: x1 :: x2 :: x3 :: x4 :: x5 :: x6 :: x7 :: x8 :: x9 :: x10 :: x11 :: x12 :: T) (.ref z :: st) := v_astoreG F (j := 12) d hp hn hb k
theorem v_astore_13 (F : am_Fx p s m args meth c y cc nL ret et X) {z : Nat} {x0 x1 x2 x3 x4 x5 x6 x7 x8 x9 x10 x11 x12 x13 : Option Value} {T : List (Option Value)} (d : decode cc pc = .ok (.astore 13, 2)) (hp : pc + 2 = pc') (hn : am_nl (x0 :: x1 :: x2 :: x3 :: x4 :: x5 :: x6 :: x7 :: x8 :: x9 :: x10 :: x11 :: x12 :: x13 :: T) 13 = true) (hb : 13 < nL) (k : V p l e R s m args below meth c nL X Q h nx cells slots pc' (x0 :: x1 :: x2 :: x3 :: x4 :: x5 :: x6 :: x7 :: x8 :: x9 :: x10 :: x11 :: x12 :: some (.ref z) :: T) st) : V p l e R s m args below meth c nL X Q h nx cells slots pc (x0 :: x1 :: x2 :: x3 :: x4 :: x5 :: x6 :: x7 :: x8 :: x9 :: x10 :: x11 :: x12 :: x13 :: T) (.ref z :: st) := v_astoreG F (j := 13) d hp hn hb k
theorem v_astore_14 (F : am_Fx p s m args meth c y cc nL ret et X) {z : Nat} {x0 x1 x2 x3 x4 x5 x6 x7 x8 x9 x10 x11 x12 x13 x14 : Option Value} {T : List (Option Value)} (d : decode cc pc = .ok (.astore 14, 2)) (hp : pc + 2 = pc') (hn : am_nl (x0 :: x1 :: x2 :: x3 :: x4 :: x5 :: x6 :: x7 :: x8 :: x9 :: x10 :: x11 :: x12 :: x13 :: x14 :: T) 14 = true) (hb : 14 < nL) (k : V p l e R s m args below meth c nL X Q h nx cells slots pc' (x0 :: x1 :: x2 :: x3 :: x4 :: x5 :: x6 :: x7 :: x8 :: x9 :: x10 :: x11 :: x12 :: x13 :: some (.ref z) :: T) st) : V p l e R s m args below meth c nL X Q h nx cells slots pc (x0 :: x1 :: x2 :: x3 :: x4 :: x5 :: x6 :: x7 :: x8 :: x9 :: x10 :: x11 :: x12 :: x13 :: x14 :: T) (.ref z :: st) := v_astoreG F (j := 14) d hp hn hb k
theorem v_astore_15 (F : am_Fx p s m args meth c y cc nL ret et X) {z : Nat} {x0 x1 x2 x3 x4 x5 x6 x7 x8 x9 x10 x11 x12 x13 x14 x15 : Option Value} {T : List (Option Value)} (d : decode cc pc = .ok (.astore 15, 2)) (hp : pc + 2 = pc') (hn : am_nl (x0 :: x1 :: x2 :: x3 :: x4 :: x5 :: x6 :: x7 :: x8 :: x9 :: x10 :: x11 :: x12 :: x13 :: x14 :: x15 :: T) 15 = true) (hb : 15 < nL) (k : V p l e R s m args below meth c nL X Q h nx cells slots pc' (x0 :: x1 :: x2 :: x3 :: x4 :: x5 :: x6 :: x7 :: x8 :: x9 :: x10 :: x11 :: x12 :: x13 :: x14 :: some (.ref z) :: T) st) : V p l e R s m args below meth c nL X Q h nx cells slots pc (x0 :: x1 :: x2 :: x3 :: x4 :: x5 :: x6 :: x7 :: x8 :: x9 :: x10 :: x11 :: x12 :: x13 :: x14 :: x15 :: T) (.ref z :: st) := v_astoreG F (j := 15) d hp hn hb k
theorem v_astore_16 (F : am_Fx p s m args meth c y cc nL ret et X) {z : Nat} {x0 x1 x2 x3 x4 x5 x6 x7 x8 x9 x10 x11 x12 x13 x14 x15 x16 : Option Value} {T : List (Option Value)} (d : decode cc pc = .ok (.astore 16, 2)) (hp : pc + 2 = pc') (hn : am_nl (x0 :: x1 :: x2 :: x3 :: x4 :: x5 :: x6 :: x7 :: x8 :: x9 :: x10 :: x11 :: x12 :: x13 :: x14 :: x15 :: x16 :: T) 16 = true) (hb : 16 < nL) (k : V p l e R s m args below meth c nL X Q h nx cells slots pc' (x0 :: x1 :: x2 :: x3 :: x4 :: x5 :: x6 :: x7 :: x8 :: x9 :: x10 :: x11 :: x12 :: x13 :: x14 :: x15 :: some (.ref z) :: T) st) : V p l e R s m args below meth c nL X Q h nx cells slots pc (x0 :: x1 :: x2 :: x3 :: x4 :: x5 :: x6 :: x7 :: x8 :: x9 :: x10 :: x11 :: x12 :: x13 :: x14 :: x15 :: x16 :: T) (.ref z :: st) := v_astoreG F (j := 16) d hp hn hb k
theorem v_astore_17 (F : am_Fx p s m args meth c y cc nL ret et X) {z : Nat} {x0 x1 x2 x3 x4 x5 x6 x7 x8 x9 x10 x11 x12 x13 x14 x15 x16 x17 : Option Value} {T : List (Option Value)} (d : decode cc pc = .ok (.astore 17, 2)) (hp : pc + 2 = pc') (hn : am_nl (x0 :: x1 :: x2 :: x3 :: x4 :: x5 :: x6 :: x7 :: x8 :: x9 :: x10 :: x11 :: x12 :: x13 :: x14 :: x15 :: x16 :: x17 :: T) 17 = true) (hb : 17 < nL) (k : V p l e R s m args below meth c nL X Q h nx cells slots pc' (x0 :: x1 :: x2 :: x3 :: x4 :: x5 :: x6 :: x7 :: x8 :: x9 :: x10 :: x11 :: x12 :: x13 :: x14 :: x15 :: x16 :: some (.ref z) :: T) st) : V p l e R s m args below meth c nL X Q h nx cells slots pc (x0 :: x1 :: x2 :: x3 :: x4 :: x5 :: x6 :: x7 :: x8 :: x9 :: x10 :: x11 :: x12 :: x13 :: x14 :: x15 :: x16 :: x17 :: T) (.ref z :: st) := v_astoreG F (j := 17) d hp hn hb k
theorem v_iincG (F : am_Fx p s m args meth c y cc nL ret et X) {j : Nat} {n z : Int} (d : decode cc pc = .ok (.iinc j n, 3)) (hp : pc + 3 = pc') (hv : L[j]? = some (some (iV z))) (hn : am_nl L j = true) (hb : j < nL) (k : V p l e R s m args below meth c nL X Q h nx cells slots pc' (L.set j (some (iV (z + n)))) st) : V p l e R s m args below meth c nL X Q h nx cells slots pc L st := by
  subst hp
  intro H locs ls hR hL hl
  have hg := hl.2.2 _ _ hv
  obtain ⟨ls', e', h'⟩ := am_store1 (v := iV (z + n)) hl hb rfl hn
  rw [show iV (z + n) = Value.int (Int32.ofInt z + Int32.ofInt n) by rw [← Int32.ofInt_add]] at e'
  intro T hT X
  obtain ⟨t, a, b⟩ := k H locs ls' hR hL h' T hT X
  refine ⟨t, ?_, b⟩
  jvm_step X.here [X.here.top, ↓top_set X.here.top, F.1, F.2.1, d, hg, e']
  exact a
theorem v_iinc_0 (F : am_Fx p s m args meth c y cc nL ret et X) {n z : Int} {T : List (Option Value)} (d : decode cc pc = .ok (.iinc 0 n, 3)) (hp : pc + 3 = pc') (hn : am_nl (some (iV z) :: T) 0 = true) (hb : 0 < nL) (k : V p l e R s m args below meth c nL X Q h nx cells slots pc' (some (iV (z + n)) :: T) st) : V p l e R s m args below meth c nL X Q h nx cells slots pc (some (iV z) :: T) st := v_iincG F (j := 0) d hp rfl hn hb k
theorem v_iinc_1 (F : am_Fx p s m args meth c y cc nL ret et X) {n z : Int} {x0 : Option Value} {T : List (Option Value)} (d : decode cc pc = .ok (.iinc 1 n, 3)) (hp : pc + 3 = pc') (hn : am_nl (x0 :: some (iV z) :: T) 1 = true) (hb : 1 < nL) (k : V p l e R s m args below meth c nL X Q h nx cells slots pc' (x0 :: some (iV (z + n)) :: T) st) : V p l e R s m args below meth c nL X Q h nx cells slots pc (x0 :: some (iV z) :: T) st := v_iincG F (j := 1) d hp rfl hn hb k
theorem v_iinc_2 (F : am_Fx p s m args meth c y cc nL ret et X) {n z : Int} {x0 x1 : Option Value} {T : List (Option Value)} (d : decode cc pc = .ok (.iinc 2 n, 3)) (hp : pc + 3 = pc') (hn : am_nl (x0 :: x1 :: some (iV z) :: T) 2 = true) (hb : 2 < nL) (k : V p l e R s m args below meth c nL X Q h nx cells slots pc' (x0 :: x1 :: some (iV (z + n)) :: T) st) : V p l e R s m args below meth c nL X Q h nx cells slots pc (x0 :: x1 :: some (iV z) :: T) st := v_iincG F (j := 2) d hp rfl hn hb k
theorem v_iinc_3 (F : am_Fx p s m args meth c y cc nL ret et X) {n z : Int} {x0 x1 x2 : Option Value} {T : List (Option Value)} (d : decode cc pc = .ok (.iinc 3 n, 3)) (hp : pc + 3 = pc') (hn : am_nl (x0 :: x1 :: x2 :: some (iV z) :: T) 3 = true) (hb : 3 < nL) (k : V p l e R s m args below meth c nL X Q h nx cells slots pc' (x0 :: x1 :: x2 :: some (iV (z + n)) :: T) st) : V p l e R s m args below meth c nL X Q h nx cells slots pc (x0 :: x1 :: x2 :: some (iV z) :: T) st := v_iincG F (j := 3) d hp rfl hn hb k
theorem v_iinc_4 (F : am_Fx p s m args meth c y cc nL ret et X) {n z : Int} {x0 x1 x2 x3 : Option Value} {T : List (Option Value)} (d : decode cc pc = .ok (.iinc 4 n, 3)) (hp : pc + 3 = pc') (hn : am_nl (x0 :: x1 :: x2 :: x3 :: some (iV z) :: T) 4 = true) (hb : 4 < nL) (k : V p l e R s m args below meth c nL X Q h nx cells slots pc' (x0 :: x1 :: x2 :: x3 :: some (iV (z + n)) :: T) st) : V p l e R s m args below meth c nL X Q h nx cells slots pc (x0 :: x1 :: x2 :: x3 :: some (iV z) :: T) st := v_iincG F (j := 4) d hp rfl hn hb k
theorem v_iinc_5 (F : am_Fx p s m args meth c y cc nL ret et X) {n z : Int} {x0 x1 x2 x3 x4 : Option Value} {T : List (Option Value)} (d : decode cc pc = .ok (.iinc 5 n, 3)) (hp : pc + 3 = pc') (hn : am_nl (x0 :: x1 :: x2 :: x3 :: x4 :: some (iV z) :: T) 5 = true) (hb : 5 < nL) (k : V p l e R s m args below meth c nL X Q h nx cells slots pc' (x0 :: x1 :: x2 :: x3 :: x4 :: some (iV (z + n)) :: T) st) : V p l e R s m args below meth c nL X Q h nx cells slots pc (x0 :: x1 :: x2 :: x3 :: x4 :: some (iV z) :: T) st := v_iincG F (j := 5) d hp rfl hn hb k
theorem v_iinc_6 (F : am_Fx p s m args meth c y cc nL ret et X) {n z : Int} {x0 x1 x2 x3 x4 x5 : Option Value} {T : List (Option Value)} (d : decode cc pc = .ok (.iinc 6 n, 3)) (hp : pc + 3 = pc') (hn : am_nl (x0 :: x1 :: x2 :: x3 :: x4 :: x5 :: some (iV z) :: T) 6 = true) (hb : 6 < nL) (k : V p l e R s m args below meth c nL X Q h nx cells slots pc' (x0 :: x1 :: x2 :: x3 :: x4 :: x5 :: some (iV (z + n)) :: T) st) : V p l e R s m args below meth c nL X Q h nx cells slots pc (x0 :: x1 :: x2 :: x3 :: x4 :: x5 :: some (iV z) :: T) st := v_iincG F (j := 6) d hp rfl hn hb k
theorem v_iinc_7 (F : am_Fx p s m args meth c y cc nL ret et X) {n z : Int} {x0 x1 x2 x3 x4 x5 x6 : Option Value} {T : List (Option Value)} (d : decode cc pc = .ok (.iinc 7 n, 3)) (hp : pc + 3 = pc') (hn : am_nl (x0 :: x1 :: x2 :: x3 :: x4 :: x5 :: x6 :: some (iV z) :: T) 7 = true) (hb : 7 < nL) (k : V p l e R s m args below meth c nL X Q h nx cells slots pc' (x0 :: x1 :: x2 :: x3 :: x4 :: x5 :: x6 :: some (iV (z + n)) :: T) st) : V p l e R s m args below meth c nL X Q h nx cells slots pc (x0 :: x1 :: x2 :: x3 :: x4 :: x5 :: x6 :: some (iV z) :: T) st := v_iincG F (j := 7) d hp rfl hn hb k
theorem v_iinc_8 (F : am_Fx p s m args meth c y cc nL ret et X) {n z : Int} {x0 x1 x2 x3 x4 x5 x6 x7 : Option Value} {T : List (Option Value)} (d : decode cc pc = .ok (.iinc 8 n, 3)) (hp : pc + 3 = pc') (hn : am_nl (x0 :: x1 :: x2 :: x3 :: x4 :: x5 :: x6 :: x7 :: some (iV z) :: T) 8 = true) (hb : 8 < nL) (k : V p l e R s m args below meth c nL X Q h nx cells slots pc' (x0 :: x1 :: x2 :: x3 :: x4 :: x5 :: x6 :: x7 :: some (iV (z + n)) :: T) st) : V p l e R s m args below meth c nL X Q h nx cells slots pc (x0 :: x1 :: x2 :: x3 :: x4 :: x5 :: x6 :: x7 :: some (iV z) :: T) st := v_iincG F (j := 8) d hp rfl hn hb k
theorem v_iinc_9 (F : am_Fx p s m args meth c y cc nL ret et X) {n z : Int} {x0 x1 x2 x3 x4 x5 x6 x7 x8 : Option Value} {T : List (Option Value)} (d : decode cc pc = .ok (.iinc 9 n, 3)) (hp : pc + 3 = pc') (hn : am_nl (x0 :: x1 :: x2 :: x3 :: x4 :: x5 :: x6 :: x7 :: x8 :: some (iV z) :: T) 9 = true) (hb : 9 < nL) (k : V p l e R s m args below meth c nL X Q h nx cells slots pc' (x0 :: x1 :: x2 :: x3 :: x4 :: x5 :: x6 :: x7 :: x8 :: some (iV (z + n)) :: T) st) : V p l e R s m args below meth c nL X Q h nx cells slots pc (x0 :: x1 :: x2 :: x3 :: x4 :: x5 :: x6 :: x7 :: x8 :: some (iV z) :: T) st := v_iincG F (j := 9) d hp rfl hn hb k
theorem v_iinc_10 (F : am_Fx p s m args meth c y cc nL ret et X) {n z : Int} {x0 x1 x2 x3 x4 x5 x6 x7 x8 x9 : Option Value} {T : List (Option Value)} (d : decode cc pc = .ok (.iinc 10 n, 3)) (hp : pc + 3 = pc') (hn : am_nl (x0 :: x1 :: x2 :: x3 :: x4 :: x5 :: x6 :: x7 :: x8 :: x9 :: some (iV z) :: T) 10 = true) (hb : 10 < nL) (k : V p l e R s m args below meth c nL X Q h nx cells slots pc' (x0 :: x1 :: x2 :: x3 :: x4 :: x5 :: x6 :: x7 :: x8 :: x9 :: some (iV (z + n)) :: T) st) : V p l e R s m args below meth c nL X Q h nx cells slots pc (x0 :: x1 :: x2 :: x3 :: x4 :: x5 :: x6 :: x7 :: x8 :: x9 :: some (iV z) :: T) st := v_iincG F (j := 10) d hp rfl hn hb k
theorem v_iinc_11 (F : am_Fx p s m args meth c y cc nL ret et X) {n z : Int} {x0 x1 x2 x3 x4 x5 x6 x7 x8 x9 x10 : Option Value} {T : List (Option Value)} (d : decode cc pc = .ok (.iinc 11 n, 3)) (hp : pc + 3 = pc') (hn : am_nl (x0 :: x1 :: x2 :: x3 :: x4 :: x5 :: x6 :: x7 :: x8 :: x9 :: x10 :: some (iV z) :: T) 11 = true) (hb : 11 < nL) (k : V p l e R s m args below meth c nL X Q h nx cells slots pc' (x0 :: x1 :: x2 :: x3 :: x4 :: x5 :: x6 :: x7 :: x8 :: x9 :: x10 :: some (iV (z + n)) :: T) st) : V p l e R s m args below meth c nL X Q h nx cells slots pc (x0 :: x1 :: x2 :: x3 :: x4 :: x5 :: x6 :: x7 :: x8 :: x9 :: x10 :: some (iV z) :: T) st := v_iincG F (j := 11) d hp rfl hn hb k
theorem v_iinc_12 (F : am_Fx p s m args meth c y cc nL ret et X) {n z : Int} {x0 x1 x2 x3 x4 x5 x6 x7 x8 x9 x10 x11 : Option Value} {T : List (Option Value)} (d : decode cc pc = .ok (.iinc 12 n, 3)) (hp : pc + 3 = pc') (hn : am_nl (x0 :: x1 :: x2 :: x3 :: x4 :: x5 :: x6 :: x7 :: x8 :: x9 :: x10 :: x11 :: some (iV z) :: T) 12 = true) (hb : 12 < nL) (k : V p l e R s m args below meth c nL X Q h nx cells slots pc' (x0 :: x1 :: x2 :: x3 :: x4 :: x5 :: x6 :: x7 :: x8 :: x9 :: x10 :: x11 :: some (iV (z + n)) :: T) st) : V p l e R s m args below meth c nL X Q h nx cells slots pc (x0 :: x1 :: x2 :: x3 :: x4 :: x5 :: x6 :: x7 :: x8 :: x9 :: x10 :: x11 :: some (iV z) :: T) st := v_iincG F (j := 12) d hp rfl hn hb k
theorem v_iinc_13 (F : am_Fx p s m args meth c y cc nL ret et X) {n z : Int} {x0 x1 x2 x3 x4 x5 x6 x7 x8 x9 x10 x11 x12 : Option Value} {T : List (Option Value)} (d : decode cc pc = .ok (.iinc 13 n, 3)) (hp : pc + 3 = pc') (hn : am_nl (x0 :: x1 :: x2 :: x3 :: x4 :: x5 :: x6 :: x7 :: x8 :: x9 :: x10 :: x11 :: x12 :: some (iV z) :: T) 13 = true) (hb : 13 < nL) (k : V p l e R s m args below meth c nL X Q h nx cells slots pc' (x0 :: x1 :: x2 :: x3 :: x4 :: x5 :: x6 :: x7 :: x8 :: x9 :: x10 :: x11 :: x12 :: some (iV (z + n)) :: T) st) : V p l e R s m args below meth c nL X Q h nx cells slots pc (x0 :: x1 :: x2 :: x3 :: x4 :: x5 :: x6 :: x7 :: x8 :: x9 :: x10 :: x11 :: x12 :: some (iV z) :: T) st := v_iincG F (j := 13) d hp rfl hn hb k
theorem v_iinc_14 (F : am_Fx p s m args meth c y cc nL ret et X) {n z : Int} {x0 x1 x2 x3 x4 x5 x6 x7 x8 x9 x10 x11 x12 x13 : Option Value} {T : List (Option Value)} (d : decode cc pc = .ok (.iinc 14 n, 3)) (hp : pc + 3 = pc') (hn : am_nl (x0 :: x1 :: x2 :: x3 :: x4 :: x5 :: x6 :: x7 :: x8 :: x9 :: x10 :: x11 :: x12 :: x13 :: some (iV z) :: T) 14 = true) (hb : 14 < nL) (k : V p l e R s m args below meth c nL X Q h nx cells slots pc' (x0 :: x1 :: x2 :: x3 :: x4 :: x5 :: x6 :: x7 :: x8 :: x9 :: x10 :: x11 :: x12 :: x13 :: some (iV (z + n)) :: T) st) : V p l e R s m args below meth c nL X Q h nx cells slots pc (x0 :: x1 :: x2 :: x3 :: x4 :: x5 :: x6 :: x7 :: x8 :: x9 :: x10 :: x11 :: x12 :: x13 :: some (iV z) :: T) st := v_iincG F (j := 14) d hp rfl hn hb k
theorem v_iinc_15 (F : am_Fx p s m args meth c y cc nL ret et X) {n z : Int} {x0 x1 x2 x3 x4 x5 x6 x7 x8 x9 x10 x11 x12 x13 x14 : Option Value} {T : List (Option Value)} (d : decode cc pc = .ok (.iinc 15 n, 3)) (hp : pc + 3 = pc') (hn : am_nl (x0 :: x1 :: x2 :: x3 :: x4 :: x5 :: x6 :: x7 :: x8 :: x9 :: x10 :: x11 :: x12 :: x13 :: x14 :: some (iV z) :: T) 15 = true) (hb : 15 < nL) (k : V p l e R s m args below meth c nL X Q h nx cells slots pc' (x0 :: x1 :: x2 :: x3 :: x4 :: x5 :: x6 :: x7 :: x8 :: x9 :: x10 :: x11 :: x12 :: x13 :: x14 :: some (iV (z + n)) :: T) st) : V p l e R s m args below meth c nL X Q h nx cells slots pc (x0 :: x1 :: x2 :: x3 :: x4 :: x5 :: x6 :: x7 :: x8 :: x9 :: x10 :: x11 :: x12 :: x13 :: x14 :: some (iV z) :: T) st := v_iincG F (j := 15) d hp rfl hn hb k
theorem v_iinc_16 (F : am_Fx p s m args meth c y cc nL ret et X) {n z : Int} {x0 x1 x2 x3 x4 x5 x6 x7 x8 x9 x10 x11 x12 x13 x14 x15 : Option Value} {T : List (Option Value)} (d : decode cc pc = .ok (.iinc 16 n, 3)) (hp : pc + 3 = pc') (hn : am_nl (x0 :: x1 :: x2 :: x3 :: x4 :: x5 :: x6 :: x7 :: x8 :: x9 :: x10 :: x11 :: x12 :: x13 :: x14 :: x15 :: some (iV z) :: T) 16 = true) (hb : 16 < nL) (k : V p l e R s m args below meth c nL X Q h nx cells slots pc' (x0 :: x1 :: x2 :: x3 :: x4 :: x5 :: x6 :: x7 :: x8 :: x9 :: x10 :: x11 :: x12 :: x13 :: x14 :: x15 :: some (iV (z + n)) :: T) st) : V p l e R s m args below meth c nL X Q h nx cells slots pc (x0 :: x1 :: x2 :: x3 :: x4 :: x5 :: x6 :: x7 :: x8 :: x9 :: x10 :: x11 :: x12 :: x13 :: x14 :: x15 :: some (iV z) :: T) st := v_iincG F (j := 16) d hp rfl hn hb k
theorem v_iinc_17 (F : am_Fx p s m args meth c y cc nL ret et X) {n z : Int} {x0 x1 x2 x3 x4 x5 x6 x7 x8 x9 x10 x11 x12 x13 x14 x15 x16 : Option Value} {T : List (Option Value)} (d : decode cc pc = .ok (.iinc 17 n, 3)) (hp : pc + 3 = pc') (hn : am_nl (x0 :: x1 :: x2 :: x3 :: x4 :: x5 :: x6 :: x7 :: x8 :: x9 :: x10 :: x11 :: x12 :: x13 :: x14 :: x15 :: x16 :: some (iV z) :: T) 17 = true) (hb : 17 < nL) (k : V p l e R s m args below meth c nL X Q h nx cells slots pc' (x0 :: x1 :: x2 :: x3 :: x4 :: x5 :: x6 :: x7 :: x8 :: x9 :: x10 :: x11 :: x12 :: x13 :: x14 :: x15 :: x16 :: some (iV (z + n)) :: T) st) : V p l e R s m args below meth c nL X Q h nx cells slots pc (x0 :: x1 :: x2 :: x3 :: x4 :: x5 :: x6 :: x7 :: x8 :: x9 :: x10 :: x11 :: x12 :: x13 :: x14 :: x15 :: x16 :: some (iV z) :: T) st := v_iincG F (j := 17) d hp rfl hn hb k
theorem v_iadd (F : am_Fx p s m args meth c y cc nL ret et X) {a b : Int} (d : decode cc pc = .ok (.iadd, 1)) (hp : pc + 1 = pc') (k : V p l e R s m args below meth c nL X Q h nx cells slots pc' L (iV (a + b) :: st)) : V p l e R s m args below meth c nL X Q h nx cells slots pc L (iV b :: iV a :: st) := by
  subst hp
  intro H locs ls hR hL hl
  have k := k H locs ls hR hL hl
  refine lv_iadd F.1 F.2.1 d ?_
  rw [← Int32.ofInt_add]
  exact k
theorem v_isub (F : am_Fx p s m args meth c y cc nL ret et X) {a b : Int} (d : decode cc pc = .ok (.isub, 1)) (hp : pc + 1 = pc') (k : V p l e R s m args below meth c nL X Q h nx cells slots pc' L (iV (a - b) :: st)) : V p l e R s m args below meth c nL X Q h nx cells slots pc L (iV b :: iV a :: st) := by
  subst hp
  intro H locs ls hR hL hl
  have k := k H locs ls hR hL hl
  refine lv_isub F.1 F.2.1 d ?_
  rw [← Int32.ofInt_sub]
  exact k
theorem v_imul (F : am_Fx p s m args meth c y cc nL ret et X) {a b : Int} (d : decode cc pc = .ok (.imul, 1)) (hp : pc + 1 = pc') (k : V p l e R s m args below meth c nL X Q h nx cells slots pc' L (iV (a * b) :: st)) : V p l e R s m args below meth c nL X Q h nx cells slots pc L (iV b :: iV a :: st) := by
  subst hp
  intro H locs ls hR hL hl
  have k := k H locs ls hR hL hl
  refine lv_imul F.1 F.2.1 d ?_
  rw [← Int32.ofInt_mul]
  exact k
theorem v_idiv (F : am_Fx p s m args meth c y cc nL ret et X) {a b : Int} (d : decode cc pc = .ok (.idiv, 1)) (hp : pc + 1 = pc') (hb : b ≠ 0) (ra : -2147483648 < a ∧ a < 2147483648) (rb : -2147483648 ≤ b ∧ b < 2147483648) (k : V p l e R s m args below meth c nL X Q h nx cells slots pc' L (iV (a.tdiv b) :: st)) : V p l e R s m args below meth c nL X Q h nx cells slots pc L (iV b :: iV a :: st) := by
  subst hp
  intro H locs ls hR hL hl
  have k := k H locs ls hR hL hl
  refine lv_idiv F.1 F.2.1 d (fun q => hb (by have := congrArg Int32.toInt q; rw [i32_toInt rb] at this; simpa using this)) ?_
  rw [i32_div ra rb]
  exact k
theorem v_ladd (F : am_Fx p s m args meth c y cc nL ret et X) {a b : Int} (d : decode cc pc = .ok (.ladd, 1)) (hp : pc + 1 = pc') (k : V p l e R s m args below meth c nL X Q h nx cells slots pc' L (lV (a + b) :: st)) : V p l e R s m args below meth c nL X Q h nx cells slots pc L (lV b :: lV a :: st) := by
  subst hp
  intro H locs ls hR hL hl
  have k := k H locs ls hR hL hl
  refine lv_ladd F.1 F.2.1 d ?_
  rw [← Int64.ofInt_add]
  exact k
theorem v_lsub (F : am_Fx p s m args meth c y cc nL ret et X) {a b : Int} (d : decode cc pc = .ok (.lsub, 1)) (hp : pc + 1 = pc') (k : V p l e R s m args below meth c nL X Q h nx cells slots pc' L (lV (a - b) :: st)) : V p l e R s m args below meth c nL X Q h nx cells slots pc L (lV b :: lV a :: st) := by
  subst hp
  intro H locs ls hR hL hl
  have k := k H locs ls hR hL hl
  refine lv_lsub F.1 F.2.1 d ?_
  rw [← Int64.ofInt_sub]
  exact k
theorem v_lmul (F : am_Fx p s m args meth c y cc nL ret et X) {a b : Int} (d : decode cc pc = .ok (.lmul, 1)) (hp : pc + 1 = pc') (k : V p l e R s m args below meth c nL X Q h nx cells slots pc' L (lV (a * b) :: st)) : V p l e R s m args below meth c nL X Q h nx cells slots pc L (lV b :: lV a :: st) := by
  subst hp
  intro H locs ls hR hL hl
  have k := k H locs ls hR hL hl
  refine lv_lmul F.1 F.2.1 d ?_
  rw [← Int64.ofInt_mul]
  exact k
theorem v_ldiv (F : am_Fx p s m args meth c y cc nL ret et X) {a b : Int} (d : decode cc pc = .ok (.ldiv, 1)) (hp : pc + 1 = pc') (hb : b ≠ 0) (ra : -9223372036854775808 < a ∧ a < 9223372036854775808) (rb : -9223372036854775808 ≤ b ∧ b < 9223372036854775808) (k : V p l e R s m args below meth c nL X Q h nx cells slots pc' L (lV (a.tdiv b) :: st)) : V p l e R s m args below meth c nL X Q h nx cells slots pc L (lV b :: lV a :: st) := by
  subst hp
  intro H locs ls hR hL hl
  have k := k H locs ls hR hL hl
  refine lv_ldiv F.1 F.2.1 d (fun q => hb (by have := congrArg Int64.toInt q; rw [i64_toInt rb] at this; simpa using this)) ?_
  rw [i64_div ra rb]
  exact k
theorem v_lrem (F : am_Fx p s m args meth c y cc nL ret et X) {a b : Int} (d : decode cc pc = .ok (.lrem, 1)) (hp : pc + 1 = pc') (hb : b ≠ 0) (ra : -9223372036854775808 < a ∧ a < 9223372036854775808) (rb : -9223372036854775808 ≤ b ∧ b < 9223372036854775808) (k : V p l e R s m args below meth c nL X Q h nx cells slots pc' L (lV (a.tmod b) :: st)) : V p l e R s m args below meth c nL X Q h nx cells slots pc L (lV b :: lV a :: st) := by
  subst hp
  intro H locs ls hR hL hl
  refine lv_lrem F.1 F.2.1 d (fun q => hb (by have := congrArg Int64.toInt q; rw [i64_toInt rb] at this; simpa using this)) ?_
  rw [i64_div ra rb, ← Int64.ofInt_mul, ← Int64.ofInt_sub, show a - a.tdiv b * b = a.tmod b by rw [Int.tmod_def, Int.mul_comm]]
  exact k H locs ls hR hL hl
theorem v_i2l (F : am_Fx p s m args meth c y cc nL ret et X) {a : Int} (d : decode cc pc = .ok (.i2l, 1)) (hp : pc + 1 = pc') (ra : -2147483648 ≤ a ∧ a < 2147483648) (k : V p l e R s m args below meth c nL X Q h nx cells slots pc' L (lV a :: st)) : V p l e R s m args below meth c nL X Q h nx cells slots pc L (iV a :: st) := by
  subst hp
  intro H locs ls hR hL hl
  exact lv_i2l F.1 F.2.1 d (i64_of32 ra) (k H locs ls hR hL hl)
theorem v_l2i (F : am_Fx p s m args meth c y cc nL ret et X) {a : Int} (d : decode cc pc = .ok (.l2i, 1)) (hp : pc + 1 = pc') (k : V p l e R s m args below meth c nL X Q h nx cells slots pc' L (iV a :: st)) : V p l e R s m args below meth c nL X Q h nx cells slots pc L (lV a :: st) := by
  subst hp
  intro H locs ls hR hL hl
  exact lv_l2i F.1 F.2.1 d i32_of64 (k H locs ls hR hL hl)
theorem v_lcmp (F : am_Fx p s m args meth c y cc nL ret et X) {a b : Int} (d : decode cc pc = .ok (.lcmp, 1)) (hp : pc + 1 = pc') (ra : -9223372036854775808 ≤ a ∧ a < 9223372036854775808) (rb : -9223372036854775808 ≤ b ∧ b < 9223372036854775808) (k : V p l e R s m args below meth c nL X Q h nx cells slots pc' L (iV (if b < a then 1 else if a = b then 0 else -1) :: st)) : V p l e R s m args below meth c nL X Q h nx cells slots pc L (lV b :: lV a :: st) := by
  subst hp
  intro H locs ls hR hL hl
  refine W.lcmp F.1 F.2.1 d ?_
  have e1 : lg_cmp (Int64.ofInt a) (Int64.ofInt b) = Int32.ofInt (if b < a then 1 else if a = b then 0 else -1) := by
    unfold lg_cmp
    by_cases h1 : b < a
    · rw [if_pos ((i64_lt rb ra).mpr h1), if_pos h1]; rfl
    · rw [if_neg (fun q => h1 ((i64_lt rb ra).mp q)), if_neg h1]
      by_cases h2 : a = b
      · rw [if_pos ((i64_eq ra rb).mpr h2), if_pos h2]; rfl
      · rw [if_neg (fun q => h2 ((i64_eq ra rb).mp q)), if_neg h2]; rfl
  rw [e1]
  exact k H locs ls hR hL hl
theorem v_dup (F : am_Fx p s m args meth c y cc nL ret et X) {v : Value} (d : decode cc pc = .ok (.dup, 1)) (hp : pc + 1 = pc') (hv : v.category = 1) (k : V p l e R s m args below meth c nL X Q h nx cells slots pc' L (v :: v :: st)) : V p l e R s m args below meth c nL X Q h nx cells slots pc L (v :: st) := by
  subst hp
  intro H locs ls hR hL hl
  exact lv_dup F.1 F.2.1 d hv (k H locs ls hR hL hl)
theorem v_dup_x1 (F : am_Fx p s m args meth c y cc nL ret et X) {v w : Value} (d : decode cc pc = .ok (.dup_x1, 1)) (hp : pc + 1 = pc') (hv : v.category = 1) (hw : w.category = 1) (k : V p l e R s m args below meth c nL X Q h nx cells slots pc' L (v :: w :: v :: st)) : V p l e R s m args below meth c nL X Q h nx cells slots pc L (v :: w :: st) := by
  subst hp
  intro H locs ls hR hL hl
  exact lv_dup_x1 F.1 F.2.1 d hv hw (k H locs ls hR hL hl)
theorem v_dup2 (F : am_Fx p s m args meth c y cc nL ret et X) {v w : Value} (d : decode cc pc = .ok (.dup2, 1)) (hp : pc + 1 = pc') (hv : v.category = 1) (hw : w.category = 1) (k : V p l e R s m args below meth c nL X Q h nx cells slots pc' L (v :: w :: v :: w :: st)) : V p l e R s m args below meth c nL X Q h nx cells slots pc L (v :: w :: st) := by
  subst hp
  intro H locs ls hR hL hl
  exact lv_dup2_11 F.1 F.2.1 d hv hw (k H locs ls hR hL hl)
theorem v_pop (F : am_Fx p s m args meth c y cc nL ret et X) {v : Value} (d : decode cc pc = .ok (.pop, 1)) (hp : pc + 1 = pc') (hv : v.category = 1) (k : V p l e R s m args below meth c nL X Q h nx cells slots pc' L st) : V p l e R s m args below meth c nL X Q h nx cells slots pc L (v :: st) := by
  subst hp
  intro H locs ls hR hL hl
  exact lv_pop F.1 F.2.1 d hv (k H locs ls hR hL hl)
theorem v_goto (F : am_Fx p s m args meth c y cc nL ret et X) {off : Int} {tgt : Nat} (d : decode cc pc = .ok (.goto off, 3)) (ht : (pc : Int) + off = (tgt : Int)) (k : V p l e R s m args below meth c nL X Q h nx cells slots tgt L st) : V p l e R s m args below meth c nL X Q h nx cells slots pc L st := fun H locs ls hR hL hl => lv_goto F.1 F.2.1 d ht (k H locs ls hR hL hl)
theorem v_if_eq (F : am_Fx p s m args meth c y cc nL ret et X) {a off : Int} {tgt : Nat} (d : decode cc pc = .ok (.ifCond .eq off, 3)) (ht : (pc : Int) + off = (tgt : Int)) (hp : pc + 3 = pc') (ra : -2147483648 ≤ a ∧ a < 2147483648) (kt : a = 0 → V p l e R s m args below meth c nL X Q h nx cells slots tgt L st) (kf : ¬ (a = 0) → V p l e R s m args below meth c nL X Q h nx cells slots pc' L st) : V p l e R s m args below meth c nL X Q h nx cells slots pc L (iV a :: st) := by
  subst hp
  intro H locs ls hR hL hl
  have hi := i32_eq (b := 0) ra (by omega)
  exact lv_if_eq F.1 F.2.1 d ht (fun q => kt (hi.mp q) H locs ls hR hL hl) (fun q => kf (fun z => q (hi.mpr z)) H locs ls hR hL hl)
theorem v_icmp_eq (F : am_Fx p s m args meth c y cc nL ret et X) {a b off : Int} {tgt : Nat} (d : decode cc pc = .ok (.if_icmp .eq off, 3)) (ht : (pc : Int) + off = (tgt : Int)) (hp : pc + 3 = pc') (ra : -2147483648 ≤ a ∧ a < 2147483648) (rb : -2147483648 ≤ b ∧ b < 2147483648) (kt : a = b → V p l e R s m args below meth c nL X Q h nx cells slots tgt L st) (kf : ¬ (a = b) → V p l e R s m args below meth c nL X Q h nx cells slots pc' L st) : V p l e R s m args below meth c nL X Q h nx cells slots pc L (iV b :: iV a :: st) := by
  subst hp
  intro H locs ls hR hL hl
  have hi := i32_eq ra rb
  exact lv_icmp_eq F.1 F.2.1 d ht (fun q => kt (hi.mp q) H locs ls hR hL hl) (fun q => kf (fun z => q (hi.mpr z)) H locs ls hR hL hl)
theorem v_if_ne (F : am_Fx p s m args meth c y cc nL ret et X) {a off : Int} {tgt : Nat} (d : decode cc pc = .ok (.ifCond .ne off, 3)) (ht : (pc : Int) + off = (tgt : Int)) (hp : pc + 3 = pc') (ra : -2147483648 ≤ a ∧ a < 2147483648) (kt : ¬ a = 0 → V p l e R s m args below meth c nL X Q h nx cells slots tgt L st) (kf : a = 0 → V p l e R s m args below meth c nL X Q h nx cells slots pc' L st) : V p l e R s m args below meth c nL X Q h nx cells slots pc L (iV a :: st) := by
  subst hp
  intro H locs ls hR hL hl
  have hi := not_congr (i32_eq (b := 0) ra (by omega))
  exact lv_if_ne F.1 F.2.1 d ht (fun q => kt (hi.mp q) H locs ls hR hL hl) (fun q => kf (Classical.byContradiction fun z => hi.mpr z q) H locs ls hR hL hl)
theorem v_icmp_ne (F : am_Fx p s m args meth c y cc nL ret et X) {a b off : Int} {tgt : Nat} (d : decode cc pc = .ok (.if_icmp .ne off, 3)) (ht : (pc : Int) + off = (tgt : Int)) (hp : pc + 3 = pc') (ra : -2147483648 ≤ a ∧ a < 2147483648) (rb : -2147483648 ≤ b ∧ b < 2147483648) (kt : ¬ a = b → V p l e R s m args below meth c nL X Q h nx cells slots tgt L st) (kf : a = b → V p l e R s m args below meth c nL X Q h nx cells slots pc' L st) : V p l e R s m args below meth c nL X Q h nx cells slots pc L (iV b :: iV a :: st) := by
  subst hp
  intro H locs ls hR hL hl
  have hi := not_congr (i32_eq ra rb)
  exact lv_icmp_ne F.1 F.2.1 d ht (fun q => kt (hi.mp q) H locs ls hR hL hl) (fun q => kf (Classical.byContradiction fun z => hi.mpr z q) H locs ls hR hL hl)
theorem v_if_lt (F : am_Fx p s m args meth c y cc nL ret et X) {a off : Int} {tgt : Nat} (d : decode cc pc = .ok (.ifCond .lt off, 3)) (ht : (pc : Int) + off = (tgt : Int)) (hp : pc + 3 = pc') (ra : -2147483648 ≤ a ∧ a < 2147483648) (kt : a < 0 → V p l e R s m args below meth c nL X Q h nx cells slots tgt L st) (kf : ¬ (a < 0) → V p l e R s m args below meth c nL X Q h nx cells slots pc' L st) : V p l e R s m args below meth c nL X Q h nx cells slots pc L (iV a :: st) := by
  subst hp
  intro H locs ls hR hL hl
  have hi := i32_lt (b := 0) ra (by omega)
  exact lv_if_lt F.1 F.2.1 d ht (fun q => kt (hi.mp q) H locs ls hR hL hl) (fun q => kf (fun z => q (hi.mpr z)) H locs ls hR hL hl)
theorem v_icmp_lt (F : am_Fx p s m args meth c y cc nL ret et X) {a b off : Int} {tgt : Nat} (d : decode cc pc = .ok (.if_icmp .lt off, 3)) (ht : (pc : Int) + off = (tgt : Int)) (hp : pc + 3 = pc') (ra : -2147483648 ≤ a ∧ a < 2147483648) (rb : -2147483648 ≤ b ∧ b < 2147483648) (kt : a < b → V p l e R s m args below meth c nL X Q h nx cells slots tgt L st) (kf : ¬ (a < b) → V p l e R s m args below meth c nL X Q h nx cells slots pc' L st) : V p l e R s m args below meth c nL X Q h nx cells slots pc L (iV b :: iV a :: st) := by
  subst hp
  intro H locs ls hR hL hl
  have hi := i32_lt ra rb
  exact lv_icmp_lt F.1 F.2.1 d ht (fun q => kt (hi.mp q) H locs ls hR hL hl) (fun q => kf (fun z => q (hi.mpr z)) H locs ls hR hL hl)
theorem v_if_ge (F : am_Fx p s m args meth c y cc nL ret et X) {a off : Int} {tgt : Nat} (d : decode cc pc = .ok (.ifCond .ge off, 3)) (ht : (pc : Int) + off = (tgt : Int)) (hp : pc + 3 = pc') (ra : -2147483648 ≤ a ∧ a < 2147483648) (kt : 0 ≤ a → V p l e R s m args below meth c nL X Q h nx cells slots tgt L st) (kf : ¬ (0 ≤ a) → V p l e R s m args below meth c nL X Q h nx cells slots pc' L st) : V p l e R s m args below meth c nL X Q h nx cells slots pc L (iV a :: st) := by
  subst hp
  intro H locs ls hR hL hl
  have hi := i32_le (a := 0) (by omega) ra
  exact lv_if_ge F.1 F.2.1 d ht (fun q => kt (hi.mp q) H locs ls hR hL hl) (fun q => kf (fun z => q (hi.mpr z)) H locs ls hR hL hl)
theorem v_icmp_ge (F : am_Fx p s m args meth c y cc nL ret et X) {a b off : Int} {tgt : Nat} (d : decode cc pc = .ok (.if_icmp .ge off, 3)) (ht : (pc : Int) + off = (tgt : Int)) (hp : pc + 3 = pc') (ra : -2147483648 ≤ a ∧ a < 2147483648) (rb : -2147483648 ≤ b ∧ b < 2147483648) (kt : b ≤ a → V p l e R s m args below meth c nL X Q h nx cells slots tgt L st) (kf : ¬ (b ≤ a) → V p l e R s m args below meth c nL X Q h nx cells slots pc' L st) : V p l e R s m args below meth c nL X Q h nx cells slots pc L (iV b :: iV a :: st) := by
  subst hp
  intro H locs ls hR hL hl
  have hi := i32_le rb ra
  exact lv_icmp_ge F.1 F.2.1 d ht (fun q => kt (hi.mp q) H locs ls hR hL hl) (fun q => kf (fun z => q (hi.mpr z)) H locs ls hR hL hl)
theorem v_if_gt (F : am_Fx p s m args meth c y cc nL ret et X) {a off : Int} {tgt : Nat} (d : decode cc pc = .ok (.ifCond .gt off, 3)) (ht : (pc : Int) + off = (tgt : Int)) (hp : pc + 3 = pc') (ra : -2147483648 ≤ a ∧ a < 2147483648) (kt : 0 < a → V p l e R s m args below meth c nL X Q h nx cells slots tgt L st) (kf : ¬ (0 < a) → V p l e R s m args below meth c nL X Q h nx cells slots pc' L st) : V p l e R s m args below meth c nL X Q h nx cells slots pc L (iV a :: st) := by
  subst hp
  intro H locs ls hR hL hl
  have hi := i32_lt (a := 0) (by omega) ra
  exact lv_if_gt F.1 F.2.1 d ht (fun q => kt (hi.mp q) H locs ls hR hL hl) (fun q => kf (fun z => q (hi.mpr z)) H locs ls hR hL hl)
theorem v_icmp_gt (F : am_Fx p s m args meth c y cc nL ret et X) {a b off : Int} {tgt : Nat} (d : decode cc pc = .ok (.if_icmp .gt off, 3)) (ht : (pc : Int) + off = (tgt : Int)) (hp : pc + 3 = pc') (ra : -2147483648 ≤ a ∧ a < 2147483648) (rb : -2147483648 ≤ b ∧ b < 2147483648) (kt : b < a → V p l e R s m args below meth c nL X Q h nx cells slots tgt L st) (kf : ¬ (b < a) → V p l e R s m args below meth c nL X Q h nx cells slots pc' L st) : V p l e R s m args below meth c nL X Q h nx cells slots pc L (iV b :: iV a :: st) := by
  subst hp
  intro H locs ls hR hL hl
  have hi := i32_lt rb ra
  exact lv_icmp_gt F.1 F.2.1 d ht (fun q => kt (hi.mp q) H locs ls hR hL hl) (fun q => kf (fun z => q (hi.mpr z)) H locs ls hR hL hl)
theorem v_if_le (F : am_Fx p s m args meth c y cc nL ret et X) {a off : Int} {tgt : Nat} (d : decode cc pc = .ok (.ifCond .le off, 3)) (ht : (pc : Int) + off = (tgt : Int)) (hp : pc + 3 = pc') (ra : -2147483648 ≤ a ∧ a < 2147483648) (kt : a ≤ 0 → V p l e R s m args below meth c nL X Q h nx cells slots tgt L st) (kf : ¬ (a ≤ 0) → V p l e R s m args below meth c nL X Q h nx cells slots pc' L st) : V p l e R s m args below meth c nL X Q h nx cells slots pc L (iV a :: st) := by
  subst hp
  intro H locs ls hR hL hl
  have hi := i32_le (b := 0) ra (by omega)
  exact lv_if_le F.1 F.2.1 d ht (fun q => kt (hi.mp q) H locs ls hR hL hl) (fun q => kf (fun z => q (hi.mpr z)) H locs ls hR hL hl)
theorem v_icmp_le (F : am_Fx p s m args meth c y cc nL ret et X) {a b off : Int} {tgt : Nat} (d : decode cc pc = .ok (.if_icmp .le off, 3)) (ht : (pc : Int) + off = (tgt : Int)) (hp : pc + 3 = pc') (ra : -2147483648 ≤ a ∧ a < 2147483648) (rb : -2147483648 ≤ b ∧ b < 2147483648) (kt : a ≤ b → V p l e R s m args below meth c nL X Q h nx cells slots tgt L st) (kf : ¬ (a ≤ b) → V p l e R s m args below meth c nL X Q h nx cells slots pc' L st) : V p l e R s m args below meth c nL X Q h nx cells slots pc L (iV b :: iV a :: st) := by
  subst hp
  intro H locs ls hR hL hl
  have hi := i32_le ra rb
  exact lv_icmp_le F.1 F.2.1 d ht (fun q => kt (hi.mp q) H locs ls hR hL hl) (fun q => kf (fun z => q (hi.mpr z)) H locs ls hR hL hl)
theorem v_ifnull (F : am_Fx p s m args meth c y cc nL ret et X) {x : Nat} {off : Int} (d : decode cc pc = .ok (.ifnull off, 3)) (hp : pc + 3 = pc') (k : V p l e R s m args below meth c nL X Q h nx cells slots pc' L st) : V p l e R s m args below meth c nL X Q h nx cells slots pc L (.ref x :: st) := by
  subst hp
  intro H locs ls hR hL hl
  exact lv_ifnull F.1 F.2.1 d (k H locs ls hR hL hl)
theorem v_ifnullN (F : am_Fx p s m args meth c y cc nL ret et X) {off : Int} {tgt : Nat} (d : decode cc pc = .ok (.ifnull off, 3)) (ht : (pc : Int) + off = (tgt : Int)) (k : V p l e R s m args below meth c nL X Q h nx cells slots tgt L st) : V p l e R s m args below meth c nL X Q h nx cells slots pc L (.null :: st) := fun H locs ls hR hL hl => lv_ifnullN F.1 F.2.1 d ht (k H locs ls hR hL hl)
theorem v_ifnonnull (F : am_Fx p s m args meth c y cc nL ret et X) {x : Nat} {off : Int} {tgt : Nat} (d : decode cc pc = .ok (.ifnonnull off, 3)) (ht : (pc : Int) + off = (tgt : Int)) (k : V p l e R s m args below meth c nL X Q h nx cells slots tgt L st) : V p l e R s m args below meth c nL X Q h nx cells slots pc L (.ref x :: st) := fun H locs ls hR hL hl => lv_ifnonnull F.1 F.2.1 d ht (k H locs ls hR hL hl)
theorem v_ifnonnullN (F : am_Fx p s m args meth c y cc nL ret et X) {off : Int} (d : decode cc pc = .ok (.ifnonnull off, 3)) (hp : pc + 3 = pc') (k : V p l e R s m args below meth c nL X Q h nx cells slots pc' L st) : V p l e R s m args below meth c nL X Q h nx cells slots pc L (.null :: st) := by
  subst hp
  intro H locs ls hR hL hl
  exact lv_ifnonnullN F.1 F.2.1 d (k H locs ls hR hL hl)
end AM
end
section
/-! rows of V for fields, arrays and new (part amheap, written by wip/whole/mkheap.py) -/
theorem am_at_lt {X : am_X} {a : Nat} {e : am_E} {H : Heap} (h : am_at X a e H) : a < H.size := by
  cases e with
  | inl x => exact (Array.getElem?_eq_some_iff.mp h).1
  | inr o => obtain ⟨r, -, cell, hc, -⟩ := h; exact (Array.getElem?_eq_some_iff.mp hc).1
theorem am_at_kept {X : am_X} {a : Nat} {e : am_E} {H H1 : Heap} (h : am_at X a e H) (hq : H1[a]? = H[a]?) : am_at X a e H1 := by
  cases e with
  | inl x => exact hq.trans h
  | inr o => obtain ⟨r, h1, h2⟩ := h; exact ⟨r, h1, h2.kept hq⟩
theorem am_R_lt {X : am_X} {h : am_H} {nx : Nat} {H : Heap} (hR : am_R X h nx H) {a : Nat} {e : am_E} (ha : h a = some e) : a < nx := by
  have := am_at_lt (hR.2.2.2 a e ha).2
  rw [hR.1] at this
  exact this
/-- a cell that was there is written -/
theorem am_R_put {X : am_X} {h : am_H} {nx : Nat} {H H1 : Heap} {a : Nat} {e e1 : am_E} (hR : am_R X h nx H) (ha : h a = some e) (z : H1.size = H.size) (oq : ∀ q : Nat, q ≠ a → H1[q]? = H[q]?) (h1 : am_at X a e1 H1) : am_R X (am_up h a e1) nx H1 := by
  obtain ⟨r1, r2, r3, r4⟩ := hR
  have hge : am_sz X ≤ a := (r4 a e ha).1
  refine ⟨z.trans r1, r2, fun q hq => (oq q (by omega)).trans (r3 q hq), fun b e2 hb => ?_⟩
  by_cases hba : b = a
  · subst hba
    rw [am_up_s] at hb
    cases hb
    exact ⟨hge, h1⟩
  · rw [am_up_n hba] at hb
    exact ⟨(r4 b e2 hb).1, am_at_kept (r4 b e2 hb).2 (oq b hba)⟩
/-- a cell is new -/
theorem am_R_new {X : am_X} {h : am_H} {nx : Nat} {H H1 : Heap} {e1 : am_E} (hR : am_R X h nx H) (z : H1.size = nx + 1) (oq : ∀ q : Nat, q < nx → H1[q]? = H[q]?) (h1 : am_at X nx e1 H1) : am_R X (am_up h nx e1) (nx + 1) H1 := by
  have hlt := @am_R_lt X h nx H hR
  obtain ⟨r1, r2, r3, r4⟩ := hR
  refine ⟨z, by omega, fun q hq => (oq q (by omega)).trans (r3 q hq), fun b e2 hb => ?_⟩
  by_cases hba : b = nx
  · subst hba
    rw [am_up_s] at hb
    cases hb
    exact ⟨r2, h1⟩
  · rw [am_up_n hba] at hb
    exact ⟨(r4 b e2 hb).1, am_at_kept (r4 b e2 hb).2 (oq b (hlt hb))⟩
theorem am_arr {X : am_X} {h : am_H} {nx : Nat} {H : Heap} (hR : am_R X h nx H) {a ai N : Nat} {f : Nat → Value} (ha : h a = some (.inl (ai, N, f))) : am_sz X ≤ a ∧ H[a]? = some (arrV (X.2.1 ai) N f) := hR.2.2.2 _ _ ha
/-- what nobody knows may be forgotten -/
theorem am_R_sub {X : am_X} {h h' : am_H} {nx : Nat} {H : Heap} (hR : am_R X h nx H) (hs : ∀ a e, h' a = some e → h a = some e) : am_R X h' nx H := ⟨hR.1, hR.2.1, hR.2.2.1, fun a e he => hR.2.2.2 a e (hs a e he)⟩
theorem am_locs {X : am_X} {locs : List Loc} {a k : Nat} (hL : ∀ q ∈ locs, am_sz X ≤ q.base) (ha : am_sz X ≤ a) : ∀ q ∈ locs ++ [⟨a, k⟩], am_sz X ≤ q.base := fun q hq => by
  rcases List.mem_append.mp hq with h1 | h1
  · exact hL q h1
  · rw [List.mem_singleton.mp h1]; exact ha
theorem am_ix {z : Int} {N : Nat} (h0 : 0 ≤ z) (h1 : z < N) (hN : N < 2147483648) : (Int32.ofInt z).toNatClampNeg = z.toNat ∧ ¬ (Int32.ofInt z < 0 ∨ N ≤ (Int32.ofInt z).toNatClampNeg) := by
  have e1 : (Int32.ofInt z).toNatClampNeg = z.toNat := by
    show (Int32.ofInt z).toInt.toNat = z.toNat
    rw [i32_toInt (by omega)]
  refine ⟨e1, ?_⟩
  rintro (h2 | h2)
  · rw [show (0 : Int32) = Int32.ofInt 0 from rfl, i32_lt (by omega) (by omega)] at h2; omega
  · rw [e1] at h2; omega

section AMH
variable {p : Program} {l : Launch} {e : Env} {R : Room} {s : State} {m : MethodId} {args : Array Value} {below : List Frame} {meth : Method} {c : Code} {nL : Nat} {X : am_X} {Q : State → Prop}
variable {cc : ByteArray} {y : MethodName} {ret : Option FieldType} {et : List (Nat × Nat × Nat × Nat)} {h : am_H} {nx cells slots pc pc' : Nat} {L : List (Option Value)} {st : List Value}
theorem v_forget {h' : am_H} (hs : ∀ a e, h' a = some e → h a = some e) (k : V p l e R s m args below meth c nL X Q h' nx cells slots pc L st) : V p l e R s m args below meth c nL X Q h nx cells slots pc L st := fun H locs ls hR hL hl => k H locs ls (am_R_sub hR hs) hL hl
theorem v_getf (F : am_Fx p s m args meth c y cc nL ret et X) {C ref : String} {T : u_T} {N ci index a : Nat} {fs : List Value} {v : Value} (d : decode cc pc = .ok (.getfield index, 3)) (hp : pc + 3 = pc') (hin : ∀ w ∈ u_ws C T N, w ∈ lw_tbl) (hc : am_cl[ci]? = some (C, T, N)) (kf : Nat) (hk : kf < N) (hlink : Cond.fieldLink y.cls index ref (T kf).2.1 (T kf).2.2.1 ∈ lw_tbl) (hsame : ref = (T kf).1 ∨ Cond.sameField ref (T kf).1 (T kf).2.1 (T kf).2.2.1 ∈ lw_tbl) (ha : h a = some (.inr (ci, fs))) (hv : fs[kf]? = some v) (k : V p l e R s m args below meth c nL X Q h nx cells slots pc' L (v :: st)) : V p l e R s m args below meth c nL X Q h nx cells slots pc L (.ref a :: st) := by
  subst hp
  intro H locs ls hR hL hl
  obtain ⟨-, r, h1, cell, q1, q2, q3, q4⟩ := hR.2.2.2 _ _ ha
  have hr : r = (C, T, N) := Option.some.inj (h1.symm.trans hc)
  subst hr
  obtain ⟨f1, f2, f3, f4, hts, hK0, f7, f8, f9, f10⟩ := F
  have hK := hK0.1
  obtain ⟨hS, hfc, kC, hkC, hkind⟩ := hK.1 ci _ hc
  obtain ⟨cf, kf', fi, f, hi, hsl⟩ := hS kf hk
  have hsame' : s.fieldFound? ref (T kf).2.1 (T kf).2.2.1 = some (cf, kf', fi, f) := by
    rcases hsame with e1 | e1
    · rw [e1]; exact hi
    · exact u_same (hts _ (am_in e1 rfl)) _ hi
  refine W.getf f1 f2 f4 (hts _ (am_in hlink rfl)) hsame' (u_facts hfc hkC (u_lays hts (am_lays hin) hk) hi).1 q1 (by rw [q3]; exact fun h => by cases h) (v := v) ?_ rfl rfl d (k H locs ls hR hL hl)
  rw [hsl, q4 kf hk]
  simp [vp_V, hv]
theorem v_putf (F : am_Fx p s m args meth c y cc nL ret et X) {C ref : String} {T : u_T} {N ci index a : Nat} {fs : List Value} {v : Value} {ty : FieldType} (d : decode cc pc = .ok (.putfield index, 3)) (hp : pc + 3 = pc') (hin : ∀ w ∈ u_ws C T N, w ∈ lw_tbl) (ty0 : Nat → FieldType) (hty : ∀ k, k < N → parseFieldDescriptor (T k).2.2.1 = some (ty0 k)) (hnm : ∀ a, a < N → ∀ b, b < N → a ≠ b → (T a).2.1 ≠ (T b).2.1) (hc : am_cl[ci]? = some (C, T, N)) (kf : Nat) (hk : kf < N) (hlink : Cond.fieldLink y.cls index ref (T kf).2.1 (T kf).2.2.1 ∈ lw_tbl) (hsame : ref = (T kf).1 ∨ Cond.sameField ref (T kf).1 (T kf).2.1 (T kf).2.2.1 ∈ lw_tbl)
    (hfin : (T kf).2.2.2 = false ∨ ((T kf).2.2.2 = true ∧ y.name = "<init>" ∧ (T kf).1 = y.cls)) (hd : parseFieldDescriptor (T kf).2.2.1 = some ty) (hn : narrow ty v = v) (hfit : fits ty v = true) (ha : h a = some (.inr (ci, fs))) (hl5 : kf < fs.length) (k : V p l e R s m args below meth c nL X Q (am_up h a (.inr (ci, fs.set kf v))) nx cells slots pc' L st) : V p l e R s m args below meth c nL X Q h nx cells slots pc L (v :: .ref a :: st) := by
  subst hp
  intro H locs ls hR hL hl
  obtain ⟨hge, r, h1, cell, q1, q2, q3, q4⟩ := hR.2.2.2 _ _ ha
  have hr : r = (C, T, N) := Option.some.inj (h1.symm.trans hc)
  subst hr
  obtain ⟨f1, f2, f3, f4, hts, hK0, f7, f8, f9, f10⟩ := F
  have hK := hK0.1
  have hap := va_apart (own := y.cls) hts (am_lays hin) ty0 hty hnm hK hc
  obtain ⟨hS, hfc, kC, hkC, hkind⟩ := hK.1 ci _ hc
  obtain ⟨cf, kf', fi, f, hi, hsl⟩ := hS kf hk
  have hsame' : s.fieldFound? ref (T kf).2.1 (T kf).2.2.1 = some (cf, kf', fi, f) := by
    rcases hsame with e1 | e1
    · rw [e1]; exact hi
    · exact u_same (hts _ (am_in e1 rfl)) _ hi
  have hlay := hts _ (am_lays hin _ (u_in_lay hk))
  have hst := (u_facts hfc hkC (u_lays hts (am_lays hin) hk) hi).1
  have fin : ∀ H1 : Heap, H1[a]? = some (cell.setSlot f.slot v) → H1.size = H.size → (∀ q, q ≠ a → H1[q]? = H[q]?) → W p l e R s m args below meth c H1 (locs ++ [⟨a, f.slot⟩]) cells slots Q (F0 m (pc + 3) ls st) := fun H1 e1 e2 e3 => by
    rw [hsl] at e1 ⊢
    exact k H1 _ ls (am_R_put hR ha e2 e3 ⟨_, hc, t_OB.to (V := updV (vp_V fs) kf v) ⟨_, e1, q2, q3, t_set q4 hap hk v⟩ (fun j _ => vp_updV_set hl5 v j)⟩) (am_locs hL hge) hl
  unfold u_lay at hlay
  rcases hfin with hfin | ⟨hfin, hin2, hdecl⟩
  · rw [if_neg (by rw [hfin]; decide)] at hlay
    have h6 := u_store hfc hkC hkind hlay hi hd hn hfit
    exact W.putK f1 f2 (f := f) ⟨f4, hts _ (am_in hlink rfl), ⟨_, _, _, hsame'⟩, hst⟩ (by rw [q2]; exact h6) q1 q3 (by rw [hsl]; exact k2_hasslot (q4 kf hk)) rfl rfl d fin
  · rw [if_pos hfin] at hlay
    have hcf : m.cls = cf := by
      obtain ⟨_, _, c', _, _, _, -, -, hf', -, -, -, hown2, -⟩ := Cond.laysFinal_spec hlay
      have e1 : c' = cf := by have := hi.symm.trans hf'; simp at this; exact this.1.symm
      rw [hdecl] at hown2
      rw [← e1]; exact Option.some.inj (f4.symm.trans hown2)
    have h6 := u_fits hfc hkC hkind (Or.inr hlay) hi hd hn hfit
    exact W.putFinK f1 f2 f4 (hts _ (am_in hlink rfl)) hsame' hst hcf (f9.trans hin2) (by rw [q2]; exact h6) q1 q3 (by rw [hsl]; exact k2_hasslot (q4 kf hk)) rfl rfl d fin
theorem v_new (F : am_Fx p s m args meth c y cc nL ret et X) {C : String} {T : u_T} {N ci index n : Nat} {fs : List Value} (d : decode cc pc = .ok (.new index, 3)) (hp : pc + 3 = pc') (hin : ∀ w ∈ u_ws C T N, w ∈ lw_tbl) (ty : Nat → FieldType) (hty : ∀ k, k < N → parseFieldDescriptor (T k).2.2.1 = some (ty k)) (hc : am_cl[ci]? = some (C, T, N)) (hcl : Cond.classLink y.cls index C ∈ lw_tbl) (hinst : Cond.instantiable C n ∈ lw_tbl) (hini : Cond.initialized C ∈ lw_tbl) (hfs : ∀ j, j < N → defaultValue (ty j) = vp_V fs j) (hcells : cells + 1 ≤ R.cells) (hslots : slots + n ≤ R.slots)
    (k : V p l e R s m args below meth c nL X Q (am_up h nx (.inr (ci, fs))) (nx + 1) (cells + 1) (slots + n) pc' L (.ref nx :: st)) : V p l e R s m args below meth c nL X Q h nx cells slots pc L st := by
  subst hp
  intro H locs ls hR hL hl
  obtain ⟨f1, f2, f3, f4, hts, hK0, f7, f8, f9, f10⟩ := F
  have hK := hK0.1
  have hKn := hK.1 ci _ hc
  refine W.newcK f1 f2 f4 (hts _ (am_in hcl rfl)) (hts _ (am_in hinst rfl)) (hts _ (am_in hini rfl)) rfl d hcells hslots hKn.2.1 hR.1 fun H1 kC hkC e1 z1 o1 => ?_
  exact k H1 locs ls (am_R_new hR z1 o1 ⟨_, hc, (u_born ty hts (am_lays hin) hKn hkC e1 hty).to hfs⟩) hL hl

theorem v_newa (F : am_Fx p s m args meth c y cc nL ret et X) {atype : ArrayType} {ty : FieldType} {ai : Nat} {z : Int} (d : decode cc pc = .ok (.newarray atype, 2)) (hp : pc + 2 = pc') (hty : newarray.typeOf atype = ty) (harr : Cond.arrayClass ty ∈ lw_tbl) (hai : (ai, ty) ∈ am_ty) (hpr : ty.isReference = false) (h0 : 0 ≤ z) (h1 : z < 10000) (hcells : cells + 1 ≤ R.cells) (hslots : slots + z.toNat ≤ R.slots)
    (k : V p l e R s m args below meth c nL X Q (am_up h nx (.inl (ai, z.toNat, fun _ => defaultValue ty))) (nx + 1) (cells + 1) (slots + z.toNat) pc' L (.ref nx :: st)) : V p l e R s m args below meth c nL X Q h nx cells slots pc L (iV z :: st) := by
  subst hp
  subst hty
  intro H locs ls hR hL hl
  obtain ⟨f1, f2, f3, f4, hts, hK0, f7, f8, f9, f10⟩ := F
  have hK := hK0.1
  have hz : (Int32.ofInt z).toNatClampNeg = z.toNat := by
    show (Int32.ofInt z).toInt.toNat = z.toNat
    rw [i32_toInt (by omega)]
  have hb8 : componentBytes (newarray.typeOf atype) ≤ 8 := by cases atype <;> decide
  have hb : z.toNat * componentBytes (newarray.typeOf atype) ≤ 536870912 := Nat.le_trans (Nat.mul_le_mul (show z.toNat ≤ 10000 by omega) hb8) (by decide)
  refine va_newaK f1 f2 (hts _ (am_in harr rfl)) rfl d rfl (fun q => ?_) hz hb hcells hslots hR.1 fun H1 cA e1 z1 o1 hAr hNm => ?_
  · rw [show (0 : Int32) = Int32.ofInt 0 from rfl, i32_lt (by omega) (by omega)] at q; omega
  · obtain ⟨i9, hi9⟩ := List.getElem?_of_mem (List.mem_map.mpr ⟨_, hai, rfl⟩ : (X.2.1 ai, newarray.typeOf atype) ∈ am_ty.map (fun q => (X.2.1 q.1, q.2)))
    have hra := (hK.2 i9 _ hi9).2
    have hcA : cA = X.2.1 ai := by
      have h9 : s.vm.findClass ("[" ++ (newarray.typeOf atype).toString) = some (X.2.1 ai) := by cases atype <;> exact hra
      exact Option.some.inj (hNm.symm.trans h9)
    subst hcA
    exact k H1 locs ls (am_R_new hR z1 o1 e1) hL hl
theorem v_alen (F : am_Fx p s m args meth c y cc nL ret et X) {ai N a : Nat} {ty : FieldType} {f : Nat → Value} (d : decode cc pc = .ok (.arraylength, 1)) (hp : pc + 1 = pc') (hai : (ai, ty) ∈ am_ty) (ha : h a = some (.inl (ai, N, f))) (k : V p l e R s m args below meth c nL X Q h nx cells slots pc' L (iV N :: st)) : V p l e R s m args below meth c nL X Q h nx cells slots pc L (.ref a :: st) := by
  subst hp
  intro H locs ls hR hL hl
  obtain ⟨f1, f2, f3, f4, hts, hK0, f7, f8, f9, f10⟩ := F
  have hK := hK0.1
  obtain ⟨i9, hi9⟩ := List.getElem?_of_mem (List.mem_map.mpr ⟨_, hai, rfl⟩ : (X.2.1 ai, ty) ∈ am_ty.map (fun q => (X.2.1 q.1, q.2)))
  refine W.alen (n := Int32.ofInt N) f1 f2 (am_arr hR ha).2 ((hK.2 i9 _ hi9).1 N f) ?_ rfl rfl d (k H locs ls hR hL hl)
  rw [arrV_size]
  exact Int32.ofInt_eq_ofNat.symm
theorem v_iald (F : am_Fx p s m args meth c y cc nL ret et X) {ai N a : Nat} {f : Nat → Value} {z w : Int} (d : decode cc pc = .ok (.iaload, 1)) (hp : pc + 1 = pc') (hai : (ai, .int) ∈ am_ty) (ha : h a = some (.inl (ai, N, f))) (hN : N < 2147483648) (h0 : 0 ≤ z) (h1 : z < N) (hv : f z.toNat = iV w) (k : V p l e R s m args below meth c nL X Q h nx cells slots pc' L (iV w :: st)) : V p l e R s m args below meth c nL X Q h nx cells slots pc L (iV z :: .ref a :: st) := by
  subst hp
  intro H locs ls hR hL hl
  obtain ⟨f1, f2, f3, f4, hts, hK0, f7, f8, f9, f10⟩ := F
  have hK := hK0.1
  obtain ⟨i9, hi9⟩ := List.getElem?_of_mem (List.mem_map.mpr ⟨_, hai, rfl⟩ : (X.2.1 ai, .int) ∈ am_ty.map (fun q => (X.2.1 q.1, q.2)))
  obtain ⟨x1, x2⟩ := am_ix h0 h1 hN
  exact W.iald f1 f2 (am_arr hR ha).2 ((hK.2 i9 _ hi9).1 N f) (fun q => by cases q) (by rw [arrV_size]; exact x2) (by rw [x1, arrV_read _ _ (by omega), hv]) rfl rfl d (k H locs ls hR hL hl)
theorem v_iast (F : am_Fx p s m args meth c y cc nL ret et X) {ai N a : Nat} {f : Nat → Value} {z w : Int} (d : decode cc pc = .ok (.iastore, 1)) (hp : pc + 1 = pc') (hai : (ai, .int) ∈ am_ty) (ha : h a = some (.inl (ai, N, f))) (hN : N < 2147483648) (h0 : 0 ≤ z) (h1 : z < N) (k : V p l e R s m args below meth c nL X Q (am_up h a (.inl (ai, N, updV f z.toNat (iV w)))) nx cells slots pc' L st) : V p l e R s m args below meth c nL X Q h nx cells slots pc L (iV w :: iV z :: .ref a :: st) := by
  subst hp
  intro H locs ls hR hL hl
  obtain ⟨f1, f2, f3, f4, hts, hK0, f7, f8, f9, f10⟩ := F
  have hK := hK0.1
  obtain ⟨i9, hi9⟩ := List.getElem?_of_mem (List.mem_map.mpr ⟨_, hai, rfl⟩ : (X.2.1 ai, .int) ∈ am_ty.map (fun q => (X.2.1 q.1, q.2)))
  obtain ⟨x1, x2⟩ := am_ix h0 h1 hN
  obtain ⟨hge, hat⟩ := am_arr hR ha
  refine W.iast f1 f2 hat ((hK.2 i9 _ hi9).1 N f) (fun q => by cases q) (by rw [arrV_size]; exact x2) rfl rfl d fun H1 e1 e2 e3 => ?_
  rw [x1, arrV_store] at e1
  exact k H1 _ ls (am_R_put hR ha e2 e3 e1) (am_locs hL hge) hl
theorem v_lald (F : am_Fx p s m args meth c y cc nL ret et X) {ai N a : Nat} {f : Nat → Value} {z w : Int} (d : decode cc pc = .ok (.laload, 1)) (hp : pc + 1 = pc') (hai : (ai, .long) ∈ am_ty) (ha : h a = some (.inl (ai, N, f))) (hN : N < 2147483648) (h0 : 0 ≤ z) (h1 : z < N) (hv : f z.toNat = lV w) (k : V p l e R s m args below meth c nL X Q h nx cells slots pc' L (lV w :: st)) : V p l e R s m args below meth c nL X Q h nx cells slots pc L (iV z :: .ref a :: st) := by
  subst hp
  intro H locs ls hR hL hl
  obtain ⟨f1, f2, f3, f4, hts, hK0, f7, f8, f9, f10⟩ := F
  have hK := hK0.1
  obtain ⟨i9, hi9⟩ := List.getElem?_of_mem (List.mem_map.mpr ⟨_, hai, rfl⟩ : (X.2.1 ai, .long) ∈ am_ty.map (fun q => (X.2.1 q.1, q.2)))
  obtain ⟨x1, x2⟩ := am_ix h0 h1 hN
  exact W.lald f1 f2 (am_arr hR ha).2 ((hK.2 i9 _ hi9).1 N f) (fun q => by cases q) (by rw [arrV_size]; exact x2) (by rw [x1, arrV_read _ _ (by omega), hv]) rfl rfl d (k H locs ls hR hL hl)
theorem v_last (F : am_Fx p s m args meth c y cc nL ret et X) {ai N a : Nat} {f : Nat → Value} {z w : Int} (d : decode cc pc = .ok (.lastore, 1)) (hp : pc + 1 = pc') (hai : (ai, .long) ∈ am_ty) (ha : h a = some (.inl (ai, N, f))) (hN : N < 2147483648) (h0 : 0 ≤ z) (h1 : z < N) (k : V p l e R s m args below meth c nL X Q (am_up h a (.inl (ai, N, updV f z.toNat (lV w)))) nx cells slots pc' L st) : V p l e R s m args below meth c nL X Q h nx cells slots pc L (lV w :: iV z :: .ref a :: st) := by
  subst hp
  intro H locs ls hR hL hl
  obtain ⟨f1, f2, f3, f4, hts, hK0, f7, f8, f9, f10⟩ := F
  have hK := hK0.1
  obtain ⟨i9, hi9⟩ := List.getElem?_of_mem (List.mem_map.mpr ⟨_, hai, rfl⟩ : (X.2.1 ai, .long) ∈ am_ty.map (fun q => (X.2.1 q.1, q.2)))
  obtain ⟨x1, x2⟩ := am_ix h0 h1 hN
  obtain ⟨hge, hat⟩ := am_arr hR ha
  refine W.last f1 f2 hat ((hK.2 i9 _ hi9).1 N f) (fun q => by cases q) (by rw [arrV_size]; exact x2) rfl rfl d fun H1 e1 e2 e3 => ?_
  rw [x1, arrV_store] at e1
  exact k H1 _ ls (am_R_put hR ha e2 e3 e1) (am_locs hL hge) hl
theorem v_aald (F : am_Fx p s m args meth c y cc nL ret et X) {ai N a : Nat} {C : String} {f : Nat → Value} {z : Int} {v : Value} (d : decode cc pc = .ok (.aaload, 1)) (hp : pc + 1 = pc') (hai : (ai, .object C) ∈ am_ty) (ha : h a = some (.inl (ai, N, f))) (hN : N < 2147483648) (h0 : 0 ≤ z) (h1 : z < N) (hv : f z.toNat = v) (k : V p l e R s m args below meth c nL X Q h nx cells slots pc' L (v :: st)) : V p l e R s m args below meth c nL X Q h nx cells slots pc L (iV z :: .ref a :: st) := by
  subst hp
  intro H locs ls hR hL hl
  obtain ⟨f1, f2, f3, f4, hts, hK0, f7, f8, f9, f10⟩ := F
  have hK := hK0.1
  obtain ⟨i9, hi9⟩ := List.getElem?_of_mem (List.mem_map.mpr ⟨_, hai, rfl⟩ : (X.2.1 ai, .object C) ∈ am_ty.map (fun q => (X.2.1 q.1, q.2)))
  obtain ⟨x1, x2⟩ := am_ix h0 h1 hN
  exact W.aald (ty := .object C) f1 f2 (am_arr hR ha).2 ((hK.2 i9 _ hi9).1 N f) rfl (fun q => by cases q) (by rw [arrV_size]; exact x2) (by rw [x1, arrV_read _ _ (by omega), hv]) rfl rfl d (k H locs ls hR hL hl)
end AMH
end
section
/-! contracts (Cn), how a body gives one, how a call takes one; a call may throw -/
/-- since st nothing old has changed but places at or behind the law's start; mc cells of ms slots came at most -/
def am_Fr (X : am_X) (st t : State) (mc ms : Nat) : Prop := st.WarmedH t.vm ∧ ∃ L : List Loc, st.sameButNew ({ t with vm := st.vm } : State) L mc ms ∧ ∀ q ∈ L, am_sz X ≤ q.base
def am_Q (X : am_X) (below : List Frame) (s : State) (mc ms : Nat) (post : Outcome → am_H → Nat → Prop) : State → Prop := fun t =>
  ∃ o, t.status = .running ∧ Ended t below o ∧ (∃ (h' : am_H) (nx' : Nat), am_R X h' nx' t.heap ∧ post o h' nx') ∧ am_Fr X s t mc ms
def Cn (l : Launch) (X : am_X) (y : MethodName) (rm : Room) (av : List Value) (h : am_H) (nx : Nat) (post : Outcome → am_H → Nat → Prop) : Prop :=
  MetFree l y (headSpec am_tb rm) (fun a U => a = av.toArray ∧ am_R X h nx U.heap ∧ am_K X U) (fun _ _ _ _ _ => True)
    (fun _ st o t => (∃ (h' : am_H) (nx' : Nat), am_R X h' nx' t.heap ∧ post o h' nx') ∧ am_Fr X st t rm.cells rm.slots)
/-- the same, for any start of the heap map and any arguments that a pure premise allows, may be weakened -/
theorem Cn.mono {l : Launch} {X : am_X} {y : MethodName} {rm : Room} {av : List Value} {h : am_H} {nx : Nat} {post post' : Outcome → am_H → Nat → Prop} (hC : Cn l X y rm av h nx post) (hp : ∀ o h' nx', post o h' nx' → post' o h' nx') : Cn l X y rm av h nx post' := by
  intro p e ha hc hk s m args below hf happ hP hK
  obtain ⟨n, o, h1, h2, h3, ⟨h', nx', h4, h5⟩, h6⟩ := hC p e ha hc hk s m args below hf happ hP hK
  exact ⟨n, o, h1, h2, h3, ⟨h', nx', h4, hp o h' nx' h5⟩, h6⟩
/-! the entry -/
def am_en : List Value → List (Option Value)
  | [] => []
  | v :: vs => if v.category = 2 then some v :: none :: am_en vs else some v :: am_en vs
theorem am_en_ok : ∀ (vs : List Value) (b i : Nat) (v : Value), (am_en vs)[i]? = some (some v) → (b + i, v) ∈ lv_args b vs := by
  intro vs
  induction vs with
  | nil => intro b i v h; simp [am_en] at h
  | cons w ws ih =>
    intro b i v h
    unfold am_en at h
    unfold lv_args
    by_cases hc : w.category = 2
    · rw [if_pos hc] at h ⊢
      match i, h with
      | 0, h => simp at h; rw [h]; exact List.mem_cons_self
      | 1, h => simp at h
      | j + 2, h =>
        have h' : (am_en ws)[j]? = some (some v) := by simpa using h
        have := ih (b + 2) j v h'
        rw [show b + 2 + j = b + (j + 2) by omega] at this
        exact List.mem_cons_of_mem _ this
    · rw [if_neg hc] at h ⊢
      match i, h with
      | 0, h => simp at h; rw [h]; exact List.mem_cons_self
      | j + 1, h =>
        have h' : (am_en ws)[j]? = some (some v) := by simpa using h
        have := ih (b + 1) j v h'
        rw [show b + 1 + j = b + (j + 1) by omega] at this
        exact List.mem_cons_of_mem _ this
theorem am_en_pad {vs : List Value} {k i : Nat} {v : Value} (h : (am_en vs ++ List.replicate k none)[i]? = some (some v)) : (am_en vs)[i]? = some (some v) := by
  by_cases hi : i < (am_en vs).length
  · rwa [List.getElem?_append_left hi] at h
  · rw [List.getElem?_append_right (by omega), List.getElem?_replicate] at h
    split at h <;> cases h
theorem am_entry {m : MethodId} {vs : List Value} {n k : Nat} {L0 : List (Option Value)} (hn : (lg_sl vs).length ≤ n) (hL : am_en vs ++ List.replicate k none = L0) : ∃ ls : Array Slot, entryFrame m vs.toArray n = F0 m 0 ls [] ∧ am_L ls n L0 := by
  subst hL
  have hl := lv_entry vs hn
  refine ⟨_, lg_entry_eq m vs n, hl.1, hl.2.1, fun i v h => ?_⟩
  have := am_en_ok vs 0 i v (am_en_pad h)
  rw [Nat.zero_add] at this
  exact hl.2.2 (i, v) this
/-- a body gives a contract -/
theorem cn_of {l : Launch} {X : am_X} {y : MethodName} {cc : ByteArray} {maxL k : Nat} {ret : Option FieldType} {rm : Room} {av : List Value} {h : am_H} {nx : Nat} {post : Outcome → am_H → Nat → Prop} {L0 : List (Option Value)}
    (hy : plainName y.cls = true) (hcw : Cond.code y cc maxL ret ∈ lw_tbl) (hn : (lg_sl av).length ≤ maxL) (hL : am_en av ++ List.replicate k none = L0)
    (body : ∀ (p : Program) (e : Env) (s : State) (m : MethodId) (args : Array Value) (below : List Frame) (meth : Method) (c : Code), am_Fx p s m args meth c y cc maxL ret [] X →
      V p l e rm s m args below meth c maxL X (am_Q X below s rm.cells rm.slots post) h nx 0 0 0 L0 []) : Cn l X y rm av h nx post := by
  refine MetFree.of_bodyS (code := cc) (maxLocals := maxL) (ret := ret) hy ?_ ?_
  · intro args s m hb hnm
    obtain ⟨meth, c, h1, h2, h3, h4, h5, h6, -, -⟩ := Cond.code_spec hnm (atoms_spec (ws := am_tb) hb _ (am_in hcw rfl))
    exact ⟨meth, c, h1, h2, h3, h4, h5, h6⟩
  · intro p e s m args below meth c s₁ B hml hP _
    obtain ⟨rfl, hR, hK⟩ := hP
    have hts : ∀ w ∈ am_tb, w.before av.toArray s = true := atoms_spec (ws := am_tb) B.pre
    obtain ⟨meth', c', g1, g2, -, -, -, -, g7, -⟩ := Cond.code_spec B.named (hts _ (am_in hcw rfl))
    have hS := Stand.of_body B
    cases B.method.symm.trans g1
    cases hS.code.symm.trans g2
    have het : c.exceptionTable.toList.map (fun h => (h.startPc, h.endPc, h.handlerPc, h.catchType)) = [] := by
      have : c.exceptionTable = #[] := by simpa [Array.isEmpty] using g7
      rw [this]; rfl
    have hh0 : s₁.heap = s.heap := by rw [B.state]; rfl
    obtain ⟨ls, he, hl⟩ := am_entry (m := m) hn hL
    obtain ⟨t, a1, o, b1, b2, b3, b4⟩ := body p e s m av.toArray below meth c ⟨B.exec, B.bytes, hml, findClass_of_methodNamed B.named, hts, hK, B.notSynchronized, B.returns, (name_of_methodNamed B.named B.method).1, het⟩ s.heap [] ls hR (fun _ q => by cases q) hl s₁ hh0 hS
    rw [he]
    exact ⟨t, o, a1, b1, b2, b3, b4⟩
/-- a body with handlers gives a contract -/
theorem cn_ofW {l : Launch} {X : am_X} {y : MethodName} {cc : ByteArray} {maxL k : Nat} {ret : Option FieldType} {et : List (Nat × Nat × Nat × Nat)} {rm : Room} {av : List Value} {h : am_H} {nx : Nat} {post : Outcome → am_H → Nat → Prop} {L0 : List (Option Value)}
    (hy : plainName y.cls = true) (hcw : Cond.codeWith y cc maxL ret et ∈ lw_tbl) (hn : (lg_sl av).length ≤ maxL) (hL : am_en av ++ List.replicate k none = L0)
    (body : ∀ (p : Program) (e : Env) (s : State) (m : MethodId) (args : Array Value) (below : List Frame) (meth : Method) (c : Code), am_Fx p s m args meth c y cc maxL ret et X →
      V p l e rm s m args below meth c maxL X (am_Q X below s rm.cells rm.slots post) h nx 0 0 0 L0 []) : Cn l X y rm av h nx post := by
  refine MetFree.of_bodyS (code := cc) (maxLocals := maxL) (ret := ret) hy ?_ ?_
  · intro args s m hb hnm
    obtain ⟨m', meth, c, h0, h1, h2, h3, h4, h5, h6, h7, -⟩ := Cond.codeWith_spec (atoms_spec (ws := am_tb) hb _ (am_in hcw rfl))
    cases hnm.symm.trans h0
    exact ⟨meth, c, h1, h2, h3, h4, h6, h7⟩
  · intro p e s m args below meth c s₁ B hml hP _
    obtain ⟨rfl, hR, hK⟩ := hP
    have hts : ∀ w ∈ am_tb, w.before av.toArray s = true := atoms_spec (ws := am_tb) B.pre
    obtain ⟨m', meth', c', g0, g1, g2, -, -, g5, -, -, -⟩ := Cond.codeWith_spec (hts _ (am_in hcw rfl))
    have hS := Stand.of_body B
    cases B.named.symm.trans g0
    cases B.method.symm.trans g1
    cases hS.code.symm.trans g2
    have hh0 : s₁.heap = s.heap := by rw [B.state]; rfl
    obtain ⟨ls, he, hl⟩ := am_entry (m := m) hn hL
    obtain ⟨t, a1, o, b1, b2, b3, b4⟩ := body p e s m av.toArray below meth c ⟨B.exec, B.bytes, hml, findClass_of_methodNamed B.named, hts, hK, B.notSynchronized, B.returns, (name_of_methodNamed B.named B.method).1, g5⟩ s.heap [] ls hR (fun _ q => by cases q) hl s₁ hh0 hS
    rw [he]
    exact ⟨t, o, a1, b1, b2, b3, b4⟩
section AMC
variable {p : Program} {l : Launch} {e : Env} {R : Room} {s : State} {m : MethodId} {args : Array Value} {below : List Frame} {meth : Method} {c : Code} {nL : Nat} {X : am_X} {Q : State → Prop}
variable {cc : ByteArray} {y : MethodName} {ret : Option FieldType} {et : List (Nat × Nat × Nat × Nat)} {h : am_H} {nx cells slots pc pc' : Nat} {L : List (Option Value)} {st : List Value} {mc ms : Nat} {post : Outcome → am_H → Nat → Prop}
/-! returns -/
theorem v_ireturn (F : am_Fx p s m args meth c y cc nL ret et X) {ty : FieldType} {v : Value} {z : Int} (hv : v = iV z) (d : decode cc pc = .ok (.ireturn, 1)) (hr : ret = some ty) (hn : narrow ty (iV z) = iV z) (hc : cells ≤ mc) (hs : slots ≤ ms) (hp : post (.returned (some (iV z))) h nx) :
    V p l e R s m args below meth c nL X (am_Q X below s mc ms post) h nx cells slots pc L [v] := by
  subst hv
  intro H locs ls hR hL hl T hT XS
  obtain ⟨f1, f2, f3, f4, hts, hK, hlocks, f8, f9, f10⟩ := F
  obtain ⟨fs, hret, hrun, hended, hW, hframe⟩ := XS.leave (v := some (iV z)) (fun h => by rw [f8, hr] at h; cases h)
  have hmeth' : T.vm.method? m = some meth := XS.method'
  refine ⟨T.setFrames fs, ?_, .returned (some (iV z)), hrun, hended, ⟨h, nx, (by show am_R X h nx T.heap; rw [hT]; exact hR), hp⟩, hW, locs, hframe.mono hc hs, hL⟩
  jvm_step XS.here [XS.here.top, f1, f2, d, hmeth', f8, hr, hn]
  (try refine ⟨rfl, ?_⟩); (try refine ⟨rfl, ?_⟩)
  first | (intro acts; rw [hret _ acts rfl rfl rfl]) | rw [hret _ _ rfl rfl rfl]
  exact Steps.refl _
theorem v_lreturn (F : am_Fx p s m args meth c y cc nL ret et X) {z : Int} (d : decode cc pc = .ok (.lreturn, 1)) (hr : ret = some .long) (hc : cells ≤ mc) (hs : slots ≤ ms) (hp : post (.returned (some (lV z))) h nx) :
    V p l e R s m args below meth c nL X (am_Q X below s mc ms post) h nx cells slots pc L [lV z] := by
  intro H locs ls hR hL hl T hT XS
  obtain ⟨f1, f2, f3, f4, hts, hK, hlocks, f8, f9, f10⟩ := F
  obtain ⟨fs, hret, hrun, hended, hW, hframe⟩ := XS.leave (v := some (lV z)) (fun h => by rw [f8, hr] at h; cases h)
  have hmeth' : T.vm.method? m = some meth := XS.method'
  refine ⟨T.setFrames fs, ?_, .returned (some (lV z)), hrun, hended, ⟨h, nx, (by show am_R X h nx T.heap; rw [hT]; exact hR), hp⟩, hW, locs, hframe.mono hc hs, hL⟩
  jvm_step XS.here [XS.here.top, f1, f2, d, hmeth', f8, hr, narrow]
  (try refine ⟨rfl, ?_⟩); (try refine ⟨rfl, ?_⟩)
  first | (intro acts; rw [hret _ acts rfl rfl rfl]) | rw [hret _ _ rfl rfl rfl]
  exact Steps.refl _
theorem v_return (F : am_Fx p s m args meth c y cc nL ret et X) (d : decode cc pc = .ok (.return_, 1)) (hr : ret = none) (hc : cells ≤ mc) (hs : slots ≤ ms) (hp : post (.returned none) h nx) :
    V p l e R s m args below meth c nL X (am_Q X below s mc ms post) h nx cells slots pc L [] := by
  intro H locs ls hR hL hl T hT XS
  obtain ⟨f1, f2, f3, f4, hts, hK, hlocks, f8, f9, f10⟩ := F
  obtain ⟨fs, hret, hrun, hended, hW, hframe⟩ := XS.leave (v := none) (fun _ => rfl)
  have hmeth' : T.vm.method? m = some meth := XS.method'
  refine ⟨T.setFrames fs, ?_, .returned none, hrun, hended, ⟨h, nx, (by show am_R X h nx T.heap; rw [hT]; exact hR), hp⟩, hW, locs, hframe.mono hc hs, hL⟩
  jvm_step XS.here [XS.here.top, f1, f2, d, hmeth', f8, hr]
  (try refine ⟨rfl, ?_⟩); (try refine ⟨rfl, ?_⟩)
  first | (intro acts; rw [hret _ acts rfl rfl rfl]) | rw [hret _ _ rfl rfl rfl]
  exact Steps.refl _
theorem v_areturn (F : am_Fx p s m args meth c y cc nL ret et X) {v : Value} {rt : FieldType} (d : decode cc pc = .ok (.areturn, 1)) (hr : ret = some rt) (hrt : (∃ n, rt = .object n) ∨ ∃ t, rt = .array t) (hv : v = .null ∨ ∃ a, v = .ref a) (hc : cells ≤ mc) (hs : slots ≤ ms) (hp : post (.returned (some v)) h nx) :
    V p l e R s m args below meth c nL X (am_Q X below s mc ms post) h nx cells slots pc L [v] := by
  intro H locs ls hR hL hl T hT XS
  obtain ⟨f1, f2, f3, f4, hts, hK, hlocks, f8, f9, f10⟩ := F
  obtain ⟨fs, hret, hrun, hended, hW, hframe⟩ := XS.leave (v := some v) (fun h => by rw [f8, hr] at h; cases h)
  have hmeth' : T.vm.method? m = some meth := XS.method'
  refine ⟨T.setFrames fs, ?_, .returned (some v), hrun, hended, ⟨h, nx, (by show am_R X h nx T.heap; rw [hT]; exact hR), hp⟩, hW, locs, hframe.mono hc hs, hL⟩
  rcases hrt with ⟨n, rfl⟩ | ⟨t, rfl⟩ <;> rcases hv with rfl | ⟨a, rfl⟩ <;>
    (jvm_step XS.here [XS.here.top, f1, f2, d, hmeth', f8, hr]
     (try refine ⟨rfl, ?_⟩); (try refine ⟨rfl, ?_⟩)
     first | (intro acts; rw [hret _ acts rfl rfl rfl]) | rw [hret _ _ rfl rfl rfl]
     exact Steps.refl _)
end AMC
/-! calls -/
/-- what the tables say of a callee's code: with or without handlers -/
def am_code (y : MethodName) (bytes : ByteArray) (maxL : Nat) (ret : Option FieldType) : Prop := Cond.code y bytes maxL ret ∈ lw_tbl ∨ ∃ et, Cond.codeWith y bytes maxL ret et ∈ lw_tbl
theorem am_code_at {y : MethodName} {bytes : ByteArray} {maxL : Nat} {ret : Option FieldType} {a : Array Value} {U : State} {mk : MethodId} (h : am_code y bytes maxL ret) (hts : ∀ w ∈ am_tb, w.before a U = true) (hn : U.methodNamed? y = some mk) :
    ∃ (meth : Method) (c : Code), U.vm.method? mk = some meth ∧ meth.code = some c ∧ c.maxLocals = maxL ∧ parseMethodDescriptor y.desc = some meth.sig ∧ meth.sig.returnType = ret := by
  rcases h with h | ⟨et, h⟩
  · obtain ⟨meth, c, h1, h2, -, h4, h5, -, -, h8⟩ := Cond.code_spec hn (hts _ (am_in h rfl))
    exact ⟨meth, c, h1, h2, h4, h8, h5⟩
  · obtain ⟨m', meth, c, h0, h1, h2, h3, h4, h5, h6, h7, h8⟩ := Cond.codeWith_spec (hts _ (am_in h rfl))
    cases hn.symm.trans h0
    exact ⟨meth, c, h1, h2, h4, h8, h6⟩
theorem am_words {s U : State} {args a' : Array Value} (hW : s.WarmedH U.vm) (hts : ∀ w ∈ am_tb, w.before args s = true) : ∀ w ∈ am_tb, w.before a' U = true := fun w hw => word_at hW (good_of_word (List.mem_filter.mp hw).2) (hts w hw)
section AMB
variable {p : Program} {l : Launch} {e : Env} {R : Room} {s : State} {m : MethodId} {args : Array Value} {below : List Frame} {meth : Method} {c : Code} {nL : Nat} {X : am_X} {Q : State → Prop}
variable {cc : ByteArray} {y : MethodName} {ret : Option FieldType} {et : List (Nat × Nat × Nat × Nat)} {h : am_H} {nx cells slots pc pc' : Nat} {L : List (Option Value)} {st : List Value} {mc ms : Nat} {post : Outcome → am_H → Nat → Prop}
/-- where the machine stands when a callee has come back -/
def am_after (g : JFrame) (o : Outcome) (T : State) : State := match o with
  | .returned v => T.setTop { g with pc := g.pc + 3, stack := v.toList ++ g.stack }
  | .threw x => (T.setTop g).pushFrame (.throwing x)
theorem am_back {y' : MethodName} {rm : Room} {av : List Value} {bytes : ByteArray} {maxL : Nat} {ret' : Option FieldType} (hC : Cn l X y' rm av h nx post) {U : State} {locs : List Loc} (XS : Stand p l e R s m args below meth c U locs cells slots) {g : JFrame} (hg : g.method = m) (hsize : g.locals.size = c.maxLocals) {ig : Instr} (hdg : decode c.code g.pc = .ok (ig, 3))
    {mk : MethodId} (hn : U.methodNamed? y' = some mk) (hts : ∀ w ∈ am_tb, w.before args s = true) (hK : am_K X s) (hR : am_R X h nx U.heap) (hcode : am_code y' bytes maxL ret') (hini : Cond.initialized y'.cls ∈ lw_tbl)
    (hW : 2 * g.monitorRoom + (g.stack.map fun v => v.category).sum ≤ 8) (hframes : rm.frames + 1 ≤ R.frames) (hlocals : 8 + (maxL + 11) + rm.locals ≤ R.locals) (hcells : cells + rm.cells ≤ R.cells) (hslots : slots + rm.slots ≤ R.slots) :
    ∃ (o : Outcome) (T' : State) (L9 : List Loc), Stand p l e R s m args below meth c T' (locs ++ L9) (cells + rm.cells) (slots + rm.slots) ∧ (∀ q ∈ L9, am_sz X ≤ q.base) ∧ (∃ (h' : am_H) (nx' : Nat), am_R X h' nx' T'.heap ∧ post o h' nx') ∧
      Steps p.tables e below (doInvoke e (U.setTop g) [] mk av.toArray).1 (am_after g o T') := by
  have hwU : ∀ a' : Array Value, ∀ w ∈ am_tb, w.before a' U = true := fun a' => am_words XS.warmed hts
  obtain ⟨methY, cY, hmY, hcY, hlY, -, -⟩ := am_code_at hcode (hwU av.toArray) hn
  obtain ⟨kY, hkY, -⟩ := className_of_methodNamed hn
  have hinitY : kY.init = .initialized := Cond.initialized_spec (findClass_of_methodNamed hn) hkY (hwU av.toArray _ (am_in hini rfl))
  have hAt : At U g.method c below := by rw [hg]; exact XS.here
  have hpre : (headSpec am_tb rm).pre.before av.toArray U = true := atoms_intro (hwU av.toArray)
  have happ : (headSpec am_tb rm).appliesLoose y' e.platform (U.calling g mk av.toArray) = true :=
    Spec.appliesLoose_calling (g := g) hAt hdg hn hkY hinitY
      (XS.room_calling (g := g) (R' := rm) hsize hmY hcY hframes (by rw [hlY]; omega) hcells hslots) hpre
  obtain ⟨mid, hmid⟩ := hAt.above
  have hfr : (U.setTop g).frames = (.java g :: mid) ++ below := by rw [State.frames_setTop' g hAt.top, hmid]; rfl
  have hP : av.toArray = av.toArray ∧ am_R X h nx (U.calling g mk av.toArray).heap ∧ am_K X (U.calling g mk av.toArray) := ⟨rfl, hR, am_K_warm (U := U.calling g mk av.toArray) XS.warmed hK⟩
  obtain ⟨o, s₂, hsteps, -, hend, ⟨h', nx', hR', hpost⟩, hW₂, L9, hsame, hL9⟩ := Steps.callFree hC p XS.admits XS.cas XS.clock (acts := []) hfr happ hP trivial
  rw [State.frames_setTop' g hAt.top] at hend
  have hbl : U.frames.tail = below := XS.tail
  cases o with
  | threw x =>
    have hend' : Ended s₂ (.java g :: below) (.threw x) := by rw [← hbl]; exact hend
    obtain ⟨T', X', -, -, ht⟩ := XS.outOfThrown hg hend' hW₂ hsame
    refine ⟨.threw x, T', L9, X', hL9, ⟨h', nx', ?_, hpost⟩, ?_⟩
    · have : s₂.heap = T'.heap := by rw [ht]; exact Stand.throwing_heap T' g x
      rw [← this]; exact hR'
    · show Steps p.tables e below _ ((T'.setTop g).pushFrame (.throwing x))
      rw [← ht]; exact hsteps
  | returned v =>
    have hsame : (U.calling g mk av.toArray).sameButNew ({ s₂ with vm := (U.calling g mk av.toArray).vm } : State) L9 rm.cells rm.slots := hsame
    obtain ⟨e2, q2, q3, q4, q5, q6⟩ := id hsame
    have e3 : s₂ = ({ (U.calling g mk av.toArray).setFrames s₂.frames with heap := s₂.heap, slotsUsed := s₂.slotsUsed } : State).setVm s₂.vm := by
      have : s₂ = ({ s₂ with vm := (U.calling g mk av.toArray).vm } : State).setVm s₂.vm := rfl
      rw [e2] at this
      exact this
    obtain ⟨c₂, i₂, len₂, hc₂, hd₂, hf₂⟩ := hend
    have hW' : U.WarmedH s₂.vm := hW₂
    have hcc : c₂ = c := by
      have h1 : s₂.code? g.method = U.code? g.method := by
        rw [State.code?_eq, State.code?_eq, hW'.alike.method?]
      exact Option.some.inj (hc₂.symm.trans (h1.trans hAt.code))
    subst hcc
    have hlen : len₂ = 3 := by rw [hdg] at hd₂; cases hd₂; rfl
    subst hlen
    obtain ⟨g₀, hg0⟩ := Option.isSome_iff_exists.mp hAt.top
    obtain ⟨r, hr⟩ := State.topJava?_eq_some.mp hg0
    have hs₂ : s₂ = (({ U with heap := s₂.heap, slotsUsed := s₂.slotsUsed } : State).setVm s₂.vm).setTop { g with pc := g.pc + 3, stack := v.toList ++ g.stack } := by
      have hr' : (({ U with heap := s₂.heap, slotsUsed := s₂.slotsUsed } : State).setVm s₂.vm).frames = .java g₀ :: r := hr
      refine e3.trans ?_
      rw [hf₂, State.calling_eq hAt.top, State.setFrames_setFrames, State.setTop_of_frames _ hr', hr]
      rfl
    have hsame2 : U.sameButNew ({ U with heap := s₂.heap, slotsUsed := s₂.slotsUsed } : State) L9 rm.cells rm.slots := by
      refine ⟨?_, q2, q3, q4, q5, q6⟩
      obtain ⟨t, ht, -⟩ := State.frames_cons hr
      show ({ U with heap := s₂.heap, slotsUsed := s₂.slotsUsed } : State) = { U.setFrames U.frames with heap := s₂.heap, slotsUsed := s₂.slotsUsed }
      rw [State.setFrames_self ht]
    subst hg
    refine ⟨.returned v, (({ U with heap := s₂.heap, slotsUsed := s₂.slotsUsed } : State).setVm s₂.vm), L9,
      ⟨XS.admits, XS.cas, XS.clock, XS.frames, XS.room, XS.hears, XS.method, XS.code, (XS.here.setHeapUsed s₂.heap s₂.slotsUsed).setVm hW'.alike, XS.tail, State.WarmedH.trans XS.warmed hW', XS.limits, XS.bytes, XS.same.trans (hsame2.setVm s.vm)⟩,
      hL9, ⟨h', nx', hR', hpost⟩, ?_⟩
    show Steps p.tables e below _ ((({ U with heap := s₂.heap, slotsUsed := s₂.slotsUsed } : State).setVm s₂.vm).setTop { g with pc := g.pc + 3, stack := v.toList ++ g.stack })
    rw [← hs₂]
    exact hsteps
end AMB
end
section
/-! the instructions that call; what is thrown -/
/-- x is thrown over the frame at pc -/
def VX (p : Program) (l : Launch) (e : Env) (R : Room) (s : State) (m : MethodId) (args : Array Value) (below : List Frame) (meth : Method) (c : Code) (nL : Nat) (X : am_X) (Q : State → Prop) (h : am_H) (nx cells slots pc : Nat) (L : List (Option Value)) (x : Nat) : Prop :=
  ∀ (T : State) (locs : List Loc) (ls : Array Slot) (st : List Value), am_R X h nx T.heap → (∀ q ∈ locs, am_sz X ≤ q.base) → am_L ls nL L → Stand p l e R s m args below meth c T locs cells slots → ∃ t, Steps p.tables e below ((T.setTop (F0 m pc ls st)).pushFrame (.throwing x)) t ∧ Q t
theorem am_named {y : MethodName} {bytes : ByteArray} {maxL : Nat} {ret : Option FieldType} {a : Array Value} {U : State} (h : am_code y bytes maxL ret) (hts : ∀ w ∈ am_tb, w.before a U = true) : ∃ mk, U.methodNamed? y = some mk := by
  rcases h with h | ⟨et, h⟩
  · exact Cond.code_named (hts _ (am_in h rfl))
  · obtain ⟨m', meth, c, h0, -⟩ := Cond.codeWith_spec (hts _ (am_in h rfl))
    exact ⟨m', h0⟩
/-- a callee by the tables: its code, its class is ready, it is no method handle's, it takes n arguments -/
def am_cal (y : MethodName) (bytes : ByteArray) (maxL : Nat) (ret : Option FieldType) (n : Nat) : Prop := am_code y bytes maxL ret ∧ Cond.initialized y.cls ∈ lw_tbl ∧ (y.cls ≠ "java/lang/invoke/MethodHandle" ∧ y.cls ≠ "java/lang/invoke/VarHandle") ∧ (parseMethodDescriptor y.desc).map (fun d => d.parameters.length) = some n
def am_fit (R rm : Room) (maxL cells slots : Nat) : Prop := rm.frames + 1 ≤ R.frames ∧ 8 + (maxL + 11) + rm.locals ≤ R.locals ∧ cells + rm.cells ≤ R.cells ∧ slots + rm.slots ≤ R.slots
section AMI
variable {p : Program} {l : Launch} {e : Env} {R : Room} {s : State} {m : MethodId} {args : Array Value} {below : List Frame} {meth : Method} {c : Code} {nL : Nat} {X : am_X} {Q : State → Prop}
variable {cc : ByteArray} {y : MethodName} {ret : Option FieldType} {et : List (Nat × Nat × Nat × Nat)} {h : am_H} {nx cells slots pc pc' : Nat} {L : List (Option Value)} {st : List Value} {mc ms : Nat} {post : Outcome → am_H → Nat → Prop}
variable {y' : MethodName} {rm : Room} {av : List Value} {bytes : ByteArray} {maxL index : Nat} {ret' : Option FieldType}
/-- behind the call: goes on, or is thrown -/
theorem am_go {ig : Instr} (F : am_Fx p s m args meth c y cc nL ret et X) (d : decode cc pc = .ok (ig, 3)) (hp : pc + 3 = pc') (hcal : am_code y' bytes maxL ret' ∧ Cond.initialized y'.cls ∈ lw_tbl) (hfit : am_fit R rm maxL cells slots) (hC : Cn l X y' rm av h nx post) (hw : (st.map fun v => v.category).sum ≤ 8)
    (kr : ∀ (v : Option Value) (h' : am_H) (nx' : Nat), post (.returned v) h' nx' → V p l e R s m args below meth c nL X Q h' nx' (cells + rm.cells) (slots + rm.slots) pc' L (v.toList ++ st))
    (kx : ∀ (x : Nat) (h' : am_H) (nx' : Nat), post (.threw x) h' nx' → VX p l e R s m args below meth c nL X Q h' nx' (cells + rm.cells) (slots + rm.slots) pc L x)
    {T : State} {locs : List Loc} {ls : Array Slot} (hR : am_R X h nx T.heap) (hL : ∀ q ∈ locs, am_sz X ≤ q.base) (hl : am_L ls nL L) (XS : Stand p l e R s m args below meth c T locs cells slots) {mk : MethodId} (hn : s.methodNamed? y' = some mk) :
    ∃ t, Steps p.tables e below (doInvoke e (T.setTop (F0 m pc ls st)) [] mk av.toArray).1 t ∧ Q t := by
  subst hp
  obtain ⟨f1, f2, f3, f4, hts, hK, f7, f8, f9, f10⟩ := F
  obtain ⟨o, T', L9, X', hL9, ⟨h', nx', hR', hpost⟩, hst⟩ := am_back hC XS (g := F0 m pc ls st) rfl (hl.1.trans f3.symm) (by rw [f2]; exact d) (XS.named hn) hts hK hR hcal.1 hcal.2 (lv_room hw) hfit.1 hfit.2.1 hfit.2.2.1 hfit.2.2.2
  have hL' : ∀ q ∈ locs ++ L9, am_sz X ≤ q.base := fun q hq => (List.mem_append.mp hq).elim (hL q) (hL9 q)
  cases o with
  | returned v =>
    obtain ⟨t, a1, b1⟩ := kr v h' nx' hpost T'.heap (locs ++ L9) ls hR' hL' hl T' rfl X'
    exact ⟨t, hst.trans a1, b1⟩
  | threw x =>
    obtain ⟨t, a1, b1⟩ := kx x h' nx' hpost T' (locs ++ L9) ls st hR' hL' hl X'
    exact ⟨t, hst.trans a1, b1⟩
theorem v_callS (F : am_Fx p s m args meth c y cc nL ret et X) {st0 : List Value} (d : decode cc pc = .ok (.invokestatic index, 3)) (hp : pc + 3 = pc') (hcal : am_cal y' bytes maxL ret' av.length) (hlink : Cond.methodLink y.cls index y' ∈ lw_tbl) (hstat : Cond.static y' ∈ lw_tbl) (hC : Cn l X y' rm av h nx post) (hst : st0 = av.reverse ++ st) (hfit : am_fit R rm maxL cells slots) (hw : (st.map fun v => v.category).sum ≤ 8)
    (kx : ∀ (x : Nat) (h' : am_H) (nx' : Nat), post (.threw x) h' nx' → VX p l e R s m args below meth c nL X Q h' nx' (cells + rm.cells) (slots + rm.slots) pc L x)
    (kr : ∀ (v : Option Value) (h' : am_H) (nx' : Nat), post (.returned v) h' nx' → V p l e R s m args below meth c nL X Q h' nx' (cells + rm.cells) (slots + rm.slots) pc' L (v.toList ++ st)) :
    V p l e R s m args below meth c nL X Q h nx cells slots pc L st0 := by
  subst hst
  intro H locs ls hR hL hl T hT XS
  subst hT
  obtain ⟨f1, f2, f3, f4, hts, hK, f7, f8, f9, f10⟩ := id F
  obtain ⟨hcode, hini, hy, hlen⟩ := hcal
  obtain ⟨mk, hnamed⟩ := am_named hcode hts
  obtain ⟨methM, cM, hmethM, -, -, hsigM, -⟩ := am_code_at hcode hts hnamed
  have hstatic : methM.isStatic = true := Cond.static_spec hnamed hmethM (hts _ (am_in hstat rfl))
  obtain ⟨kP, hkP, -⟩ := className_of_methodNamed hnamed
  have hinitP : kP.init = .initialized := Cond.initialized_spec (findClass_of_methodNamed hnamed) hkP (hts _ (am_in hini rfl))
  have hlen' : av.length = methM.sig.parameters.length := by rw [hsigM] at hlen; exact (Option.some.inj hlen).symm
  obtain ⟨vm₁, X₁, hstep₁⟩ := XS.invokestatic f1 f4 (hts _ (am_in hlink rfl)) hnamed hmethM hstatic hkP hinitP hy (g := F0 m pc ls (av.reverse ++ st)) rfl (argsL := av) (rest := st) hlen' rfl (by rw [f2]; exact d)
  obtain ⟨t, a1, b1⟩ := am_go F d hp ⟨hcode, hini⟩ hfit hC hw kr kx (T := T.setVm vm₁) (ls := ls) hR hL hl X₁ hnamed
  exact ⟨t, hstep₁ _ fun acts => by rw [doInvoke_state]; exact a1, b1⟩
theorem v_callV (F : am_Fx p s m args meth c y cc nL ret et X) {st0 : List Value} {b ci : Nat} {fs : List Value} {C : String} {T9 : u_T} {N : Nat} (d : decode cc pc = .ok (.invokevirtual index, 3)) (hp : pc + 3 = pc') (hcal : am_cal y' bytes maxL ret' av.length) (hlink : Cond.methodLink y.cls index y' ∈ lw_tbl) (hinst : Cond.instanceMethod y' ∈ lw_tbl) (hsel : Cond.selects C y' y' ∈ lw_tbl) (hc : am_cl[ci]? = some (C, T9, N)) (hb : h b = some (.inr (ci, fs))) (hC : Cn l X y' rm (.ref b :: av) h nx post) (hst : st0 = av.reverse ++ .ref b :: st) (hfit : am_fit R rm maxL cells slots) (hw : (st.map fun v => v.category).sum ≤ 8)
    (kx : ∀ (x : Nat) (h' : am_H) (nx' : Nat), post (.threw x) h' nx' → VX p l e R s m args below meth c nL X Q h' nx' (cells + rm.cells) (slots + rm.slots) pc L x)
    (kr : ∀ (v : Option Value) (h' : am_H) (nx' : Nat), post (.returned v) h' nx' → V p l e R s m args below meth c nL X Q h' nx' (cells + rm.cells) (slots + rm.slots) pc' L (v.toList ++ st)) :
    V p l e R s m args below meth c nL X Q h nx cells slots pc L st0 := by
  subst hst
  intro H locs ls hR hL hl T hT XS
  subst hT
  obtain ⟨f1, f2, f3, f4, hts, hK, f7, f8, f9, f10⟩ := id F
  obtain ⟨hcode, hini, hy, hlen⟩ := hcal
  obtain ⟨-, r, h1, cellB, hcell, hcl, hvm, -⟩ := hR.2.2.2 _ _ hb
  cases h1.symm.trans hc
  have hcls : s.vm.findClass C = some cellB.cls := by rw [hcl]; exact (hK.1.1 ci _ hc).2.1
  obtain ⟨mk, methM, hnamed, hmethM, hstM, habM⟩ := Cond.instanceMethod_spec (hts _ (am_in hinst rfl))
  obtain ⟨methM', cM, hmethM', -, -, hsigM, -⟩ := am_code_at hcode hts hnamed
  cases hmethM.symm.trans hmethM'
  obtain ⟨c2, r2, m2, q1, q2, q3, q4, kP, hkP, hkPi⟩ := Cond.selects_spec (hts _ (am_in hsel rfl))
  cases hcls.symm.trans q1
  cases (State.methodFound?_of_named hnamed hy).symm.trans q2
  cases hnamed.symm.trans q3
  have hselP : selectMethod e.platform s.vm cellB.cls mk = .method mk := by rw [Launch.admits_selectMethod XS.admits]; exact q4
  have hlen' : av.length = methM.sig.parameters.length := by rw [hsigM] at hlen; exact (Option.some.inj hlen).symm
  obtain ⟨vm₁, X₁, hstep₁⟩ := XS.invokevirtual f1 f4 (hts _ (am_in hlink rfl)) hnamed hmethM hstM hkP hkPi hy (a := b) (cell := cellB) hcell
    (fun z h => by rw [hvm] at h; cases h) hselP hmethM habM hkP hkPi (g := F0 m pc ls (av.reverse ++ .ref b :: st)) rfl (argsL := av) (rest := st) hlen' rfl (by rw [f2]; exact d)
  obtain ⟨t, a1, b1⟩ := am_go F d hp ⟨hcode, hini⟩ hfit hC hw kr kx (T := T.setVm vm₁) (ls := ls) hR hL hl X₁ hnamed
  exact ⟨t, hstep₁ _ fun acts => by rw [doInvoke_state]; exact a1, b1⟩
theorem v_callI (F : am_Fx p s m args meth c y cc nL ret et X) {st0 : List Value} {b : Nat} (d : decode cc pc = .ok (.invokespecial index, 3)) (hp : pc + 3 = pc') (hcode : Cond.code y' bytes maxL none ∈ lw_tbl) (hcal : am_cal y' bytes maxL none av.length) (hy1 : y'.name = "<init>") (hlink : Cond.methodLink y.cls index y' ∈ lw_tbl) (hinst : Cond.instanceMethod y' ∈ lw_tbl) (hC : Cn l X y' rm (.ref b :: av) h nx post) (hst : st0 = av.reverse ++ .ref b :: st) (hfit : am_fit R rm maxL cells slots) (hw : (st.map fun v => v.category).sum ≤ 8)
    (kx : ∀ (x : Nat) (h' : am_H) (nx' : Nat), post (.threw x) h' nx' → VX p l e R s m args below meth c nL X Q h' nx' (cells + rm.cells) (slots + rm.slots) pc L x)
    (kr : ∀ (v : Option Value) (h' : am_H) (nx' : Nat), post (.returned v) h' nx' → V p l e R s m args below meth c nL X Q h' nx' (cells + rm.cells) (slots + rm.slots) pc' L (v.toList ++ st)) :
    V p l e R s m args below meth c nL X Q h nx cells slots pc L st0 := by
  subst hst
  intro H locs ls hR hL hl T hT XS
  subst hT
  obtain ⟨f1, f2, f3, f4, hts, hK, f7, f8, f9, f10⟩ := id F
  obtain ⟨hcode', hini, hy, hlen⟩ := hcal
  have hpl : e.platform.magicAccessors = ({} : Platform).magicAccessors := by rw [XS.admits.platform]
  obtain ⟨mk, methM, cM, kP, vm₁, hnamed, hmethM, hcodeM, -, hlocalsM, -, hkP, -, hW₁, hstep₁⟩ := Steps.initColdArgs (e := e) XS.here f1 XS.warmed hpl f4 hy1 hy (hts _ (am_in hlink rfl)) (hts _ (am_in hinst rfl)) (hts _ (am_in hcode rfl)) (f := F0 m pc ls (av.reverse ++ .ref b :: st)) rfl (argsL := av) (rest := st) (fun sig hs => by rw [hs] at hlen; exact (Option.some.inj hlen).symm) rfl (by rw [f2]; exact d)
  have X₁ := XS.noted hW₁
  obtain ⟨t, a1, b1⟩ := am_go F d hp ⟨hcode', hini⟩ hfit hC hw kr kx (T := T.setVm vm₁) (ls := ls) hR hL hl X₁ hnamed
  exact ⟨t, hstep₁ _ fun acts => by rw [doInvoke_state]; exact a1, b1⟩
/-- a private method of a nest mate -/
theorem v_callIN (F : am_Fx p s m args meth c y cc nL ret et X) {st0 : List Value} {b : Nat} {host : String} (d : decode cc pc = .ok (.invokespecial index, 3)) (hp : pc + 3 = pc') (hcode : Cond.code y' bytes maxL none ∈ lw_tbl) (hcal : am_cal y' bytes maxL none av.length) (hy1 : y'.name = "<init>") (hlink : Cond.methodLinkNest y.cls index y' host ∈ lw_tbl) (hinst : Cond.instanceMethod y' ∈ lw_tbl) (hC : Cn l X y' rm (.ref b :: av) h nx post) (hst : st0 = av.reverse ++ .ref b :: st) (hfit : am_fit R rm maxL cells slots) (hw : (st.map fun v => v.category).sum ≤ 8)
    (kx : ∀ (x : Nat) (h' : am_H) (nx' : Nat), post (.threw x) h' nx' → VX p l e R s m args below meth c nL X Q h' nx' (cells + rm.cells) (slots + rm.slots) pc L x)
    (kr : ∀ (v : Option Value) (h' : am_H) (nx' : Nat), post (.returned v) h' nx' → V p l e R s m args below meth c nL X Q h' nx' (cells + rm.cells) (slots + rm.slots) pc' L (v.toList ++ st)) :
    V p l e R s m args below meth c nL X Q h nx cells slots pc L st0 := by
  subst hst
  intro H locs ls hR hL hl T hT XS
  subst hT
  obtain ⟨f1, f2, f3, f4, hts, hK, f7, f8, f9, f10⟩ := id F
  obtain ⟨hcode', hini, hy, hlen⟩ := hcal
  have hpl : e.platform.magicAccessors = ({} : Platform).magicAccessors := by rw [XS.admits.platform]
  obtain ⟨mk, methM, cM, kP, vm₁, hnamed, hmethM, hcodeM, -, hlocalsM, -, hkP, -, hW₁, hstep₁⟩ := Steps.initColdArgsNest (e := e) XS.here f1 XS.warmed hpl f4 hy1 hy (va_Nw.use (A := args) rfl (hK.2.1 _ hlink rfl)) (hts _ (am_in hinst rfl)) (hts _ (am_in hcode rfl)) (f := F0 m pc ls (av.reverse ++ .ref b :: st)) rfl (argsL := av) (rest := st) (fun sig hs => by rw [hs] at hlen; exact (Option.some.inj hlen).symm) rfl (by rw [f2]; exact d)
  have X₁ := XS.noted hW₁
  obtain ⟨t, a1, b1⟩ := am_go F d hp ⟨hcode', hini⟩ hfit hC hw kr kx (T := T.setVm vm₁) (ls := ls) hR hL hl X₁ hnamed
  exact ⟨t, hstep₁ _ fun acts => by rw [doInvoke_state]; exact a1, b1⟩
theorem v_callSN (F : am_Fx p s m args meth c y cc nL ret et X) {st0 : List Value} {host : String} (d : decode cc pc = .ok (.invokestatic index, 3)) (hp : pc + 3 = pc') (hcal : am_cal y' bytes maxL ret' av.length) (hlink : Cond.methodLinkNest y.cls index y' host ∈ lw_tbl) (hstat : Cond.static y' ∈ lw_tbl) (hC : Cn l X y' rm av h nx post) (hst : st0 = av.reverse ++ st) (hfit : am_fit R rm maxL cells slots) (hw : (st.map fun v => v.category).sum ≤ 8)
    (kx : ∀ (x : Nat) (h' : am_H) (nx' : Nat), post (.threw x) h' nx' → VX p l e R s m args below meth c nL X Q h' nx' (cells + rm.cells) (slots + rm.slots) pc L x)
    (kr : ∀ (v : Option Value) (h' : am_H) (nx' : Nat), post (.returned v) h' nx' → V p l e R s m args below meth c nL X Q h' nx' (cells + rm.cells) (slots + rm.slots) pc' L (v.toList ++ st)) :
    V p l e R s m args below meth c nL X Q h nx cells slots pc L st0 := by
  subst hst
  intro H locs ls hR hL hl T hT XS
  subst hT
  obtain ⟨f1, f2, f3, f4, hts, hK, f7, f8, f9, f10⟩ := id F
  obtain ⟨hcode, hini, hy, hlen⟩ := hcal
  obtain ⟨mk, hnamed⟩ := am_named hcode hts
  obtain ⟨methM, cM, hmethM, -, -, hsigM, -⟩ := am_code_at hcode hts hnamed
  have hstatic : methM.isStatic = true := Cond.static_spec hnamed hmethM (hts _ (am_in hstat rfl))
  obtain ⟨kP, hkP, -⟩ := className_of_methodNamed hnamed
  have hinitP : kP.init = .initialized := Cond.initialized_spec (findClass_of_methodNamed hnamed) hkP (hts _ (am_in hini rfl))
  have hlen' : av.length = methM.sig.parameters.length := by rw [hsigM] at hlen; exact (Option.some.inj hlen).symm
  obtain ⟨vm₁, X₁, hstep₁⟩ := XS.invokestaticNest f1 f4 (va_Nw.use (A := args) rfl (hK.2.1 _ hlink rfl)) hnamed hmethM hstatic hkP hinitP hy (g := F0 m pc ls (av.reverse ++ st)) rfl (argsL := av) (rest := st) hlen' rfl (by rw [f2]; exact d)
  obtain ⟨t, a1, b1⟩ := am_go F d hp ⟨hcode, hini⟩ hfit hC hw kr kx (T := T.setVm vm₁) (ls := ls) hR hL hl X₁ hnamed
  exact ⟨t, hstep₁ _ fun acts => by rw [doInvoke_state]; exact a1, b1⟩
/-- what is thrown and not caught here -/
theorem v_out (F : am_Fx p s m args meth c y cc nL ret [] X) {x : Nat} (hc : cells ≤ mc) (hs : slots ≤ ms) (hp : post (.threw x) h nx) : VX p l e R s m args below meth c nL X (am_Q X below s mc ms post) h nx cells slots pc L x := by
  intro T locs ls st hR hL hl XS
  obtain ⟨f1, f2, f3, f4, hts, hK, f7, f8, f9, f10⟩ := F
  have hout : ∀ z ∈ c.exceptionTable.toList, covers z pc = false := fun z hz => by rw [List.map_eq_nil_iff.mp f10] at hz; cases hz
  obtain ⟨st1, hrun, hend, hW, hsm⟩ := XS.leaveThrown x (g := F0 m pc ls st) rfl rfl rfl hout f7
  exact ⟨_, st1, .threw x, hrun, hend, ⟨h, nx, hR, hp⟩, hW, locs, hsm.mono hc hs, hL⟩
theorem v_athrow (F : am_Fx p s m args meth c y cc nL ret et X) {x : Nat} (d : decode cc pc = .ok (.athrow, 1)) (k : VX p l e R s m args below meth c nL X Q h nx cells slots pc L x) : V p l e R s m args below meth c nL X Q h nx cells slots pc L (.ref x :: st) := by
  intro H locs ls hR hL hl T hT XS
  subst hT
  obtain ⟨f1, f2, f3, f4, hts, hK, f7, f8, f9, f10⟩ := F
  obtain ⟨t, a1, b1⟩ := k T locs ls st hR hL hl XS
  refine ⟨t, ?_, b1⟩
  have d' : decode c.code pc = .ok (.athrow, 1) := by rw [f2]; exact d
  jvm_step XS.here [XS.here.top, f1, d', athrow.wp_sem]
  exact a1
/-- Object's constructor -/
theorem v_obj (F : am_Fx p s m args meth c y cc nL ret et X) {a : Nat} (d : decode cc pc = .ok (.invokespecial index, 3)) (hp : pc + 3 = pc') (hlink : Cond.methodLink y.cls index Lib.objectInit ∈ lw_tbl) (hinst : Cond.instanceMethod Lib.objectInit ∈ lw_tbl) (hcode : Cond.code Lib.objectInit ⟨#[0xb1]⟩ 1 none ∈ lw_tbl) (hfr : 1 ≤ R.frames) (hlo : (st.map fun v => v.category).sum + 12 ≤ R.locals)
    (k : V p l e R s m args below meth c nL X Q h nx cells slots pc' L st) : V p l e R s m args below meth c nL X Q h nx cells slots pc L (.ref a :: st) := by
  subst hp
  intro H locs ls hR hL hl
  obtain ⟨f1, f2, f3, f4, hts, hK, f7, f8, f9, f10⟩ := F
  refine W.objInit f1 f2 f4 (hts _ (am_in hlink rfl)) (hts _ (am_in hinst rfl)) (hts _ (am_in hcode rfl)) rfl (hl.1.trans f3.symm) rfl d hfr ?_ (k H locs ls hR hL hl)
  have : 2 * (F0 m pc ls (Value.ref a :: st)).monitorRoom = 0 := rfl
  omega
end AMI
end
