/-! names of classes and fields (written by wip/whole/mknames.py) -/
def zR_S : String := "BillShares"
def zF_S : u_T := fun k => match k with
  | 0 => ("BillShares", "flats", "Ljava/util/ArrayList;", true)
  | 1 => ("BillShares", "flatsByRank", "Ljava/util/ArrayList;", true)
  | 2 => ("BillShares", "meters", "Ljava/util/ArrayList;", true)
  | 3 => ("BillShares", "costs", "[I", true)
  | 4 => ("BillShares", "bases", "[I", true)
  | _ => ("BillShares", "editions", "[I", true)
def zt_S : Nat → FieldType := fun k => match k with
  | 0 => .object "java/util/ArrayList"
  | 1 => .object "java/util/ArrayList"
  | 2 => .object "java/util/ArrayList"
  | 3 => .array (.int)
  | 4 => .array (.int)
  | _ => .array (.int)
theorem zn_S : ∀ a, a < 6 → ∀ b, b < 6 → a ≠ b → (zF_S a).2.1 ≠ (zF_S b).2.1 := by decide +kernel
theorem zk_S : ∀ k, k < 6 → parseFieldDescriptor (zF_S k).2.2.1 = some (zt_S k) := by decide +kernel
theorem zi_S : ∀ w ∈ u_ws zR_S zF_S 6, w ∈ lw_tbl := by decide +kernel
def zR_F : String := "BillShares$Flat"
def zF_F : u_T := fun k => match k with
  | 0 => ("BillShares$Flat", "area", "I", true)
  | 1 => ("BillShares$Flat", "rank", "I", true)
  | 2 => ("BillShares$Flat", "meters", "Ljava/util/ArrayList;", true)
  | 3 => ("BillShares$Flat", "moveDays", "[I", true)
  | 4 => ("BillShares$Flat", "dwellers", "I", false)
  | 5 => ("BillShares$Flat", "paid", "[J", true)
  | 6 => ("BillShares$Flat", "bills", "[LBillShares$Bill;", true)
  | 7 => ("BillShares$Flat", "told", "Z", false)
  | 8 => ("BillShares$Flat", "weight", "J", false)
  | _ => ("BillShares$Flat", "dealt", "J", false)
def zt_F : Nat → FieldType := fun k => match k with
  | 0 => .int
  | 1 => .int
  | 2 => .object "java/util/ArrayList"
  | 3 => .array (.int)
  | 4 => .int
  | 5 => .array (.long)
  | 6 => .array (.object "BillShares$Bill")
  | 7 => .boolean
  | 8 => .long
  | _ => .long
theorem zn_F : ∀ a, a < 10 → ∀ b, b < 10 → a ≠ b → (zF_F a).2.1 ≠ (zF_F b).2.1 := by decide +kernel
theorem zk_F : ∀ k, k < 10 → parseFieldDescriptor (zF_F k).2.2.1 = some (zt_F k) := by decide +kernel
theorem zi_F : ∀ w ∈ u_ws zR_F zF_F 10, w ∈ lw_tbl := by decide +kernel
def zR_T : String := "BillShares$Meter"
def zF_T : u_T := fun k => match k with
  | 0 => ("BillShares$Meter", "kind", "I", true)
  | 1 => ("BillShares$Meter", "above", "I", true)
  | 2 => ("BillShares$Meter", "below", "I", true)
  | 3 => ("BillShares$Meter", "testedTo", "I", false)
  | 4 => ("BillShares$Meter", "readings", "I", false)
  | 5 => ("BillShares$Meter", "days", "[I", true)
  | 6 => ("BillShares$Meter", "values", "[I", true)
  | _ => ("BillShares$Meter", "starts", "[I", true)
def zt_T : Nat → FieldType := fun k => match k with
  | 0 => .int
  | 1 => .int
  | 2 => .int
  | 3 => .int
  | 4 => .int
  | 5 => .array (.int)
  | 6 => .array (.int)
  | _ => .array (.int)
theorem zn_T : ∀ a, a < 8 → ∀ b, b < 8 → a ≠ b → (zF_T a).2.1 ≠ (zF_T b).2.1 := by decide +kernel
theorem zk_T : ∀ k, k < 8 → parseFieldDescriptor (zF_T k).2.2.1 = some (zt_T k) := by decide +kernel
theorem zi_T : ∀ w ∈ u_ws zR_T zF_T 8, w ∈ lw_tbl := by decide +kernel
def zR_B : String := "BillShares$Bill"
def zF_B : u_T := fun k => match k with
  | 0 => ("BillShares$Bill", "base", "[J", true)
  | 1 => ("BillShares$Bill", "used", "[J", true)
  | _ => ("BillShares$Bill", "before", "J", false)
def zt_B : Nat → FieldType := fun k => match k with
  | 0 => .array (.long)
  | 1 => .array (.long)
  | _ => .long
theorem zn_B : ∀ a, a < 3 → ∀ b, b < 3 → a ≠ b → (zF_B a).2.1 ≠ (zF_B b).2.1 := by decide +kernel
theorem zk_B : ∀ k, k < 3 → parseFieldDescriptor (zF_B k).2.2.1 = some (zt_B k) := by decide +kernel
theorem zi_B : ∀ w ∈ u_ws zR_B zF_B 3, w ∈ lw_tbl := by decide +kernel
def zR_M : String := "BillSharesModel"
def zF_M : u_T := fun k => match k with
  | 0 => ("BillSharesModel", "code", "I", false)
  | 1 => ("BillSharesModel", "flats", "I", false)
  | 2 => ("BillSharesModel", "area", "[I", true)
  | 3 => ("BillSharesModel", "rank", "[I", true)
  | 4 => ("BillSharesModel", "lives", "[I", true)
  | 5 => ("BillSharesModel", "since", "[I", true)
  | 6 => ("BillSharesModel", "paid", "[J", true)
  | 7 => ("BillSharesModel", "meters", "I", false)
  | 8 => ("BillSharesModel", "flatOf", "[I", true)
  | 9 => ("BillSharesModel", "kindOf", "[I", true)
  | 10 => ("BillSharesModel", "above", "[I", true)
  | 11 => ("BillSharesModel", "below", "[I", true)
  | 12 => ("BillSharesModel", "tested", "[I", true)
  | 13 => ("BillSharesModel", "readings", "[I", true)
  | 14 => ("BillSharesModel", "day", "[I", true)
  | 15 => ("BillSharesModel", "value", "[I", true)
  | 16 => ("BillSharesModel", "goes", "[I", true)
  | 17 => ("BillSharesModel", "renewed", "[Z", true)
  | 18 => ("BillSharesModel", "cost", "[I", true)
  | 19 => ("BillSharesModel", "base", "[I", true)
  | 20 => ("BillSharesModel", "edition", "[I", true)
  | 21 => ("BillSharesModel", "there", "[I", true)
  | 22 => ("BillSharesModel", "thereBefore", "[I", true)
  | 23 => ("BillSharesModel", "basePart", "[J", true)
  | 24 => ("BillSharesModel", "usedPart", "[J", true)
  | 25 => ("BillSharesModel", "shareBefore", "[J", true)
  | 26 => ("BillSharesModel", "numbers", "[J", true)
  | _ => ("BillSharesModel", "gets", "[J", true)
def zt_M : Nat → FieldType := fun k => match k with
  | 0 => .int
  | 1 => .int
  | 2 => .array (.int)
  | 3 => .array (.int)
  | 4 => .array (.int)
  | 5 => .array (.int)
  | 6 => .array (.long)
  | 7 => .int
  | 8 => .array (.int)
  | 9 => .array (.int)
  | 10 => .array (.int)
  | 11 => .array (.int)
  | 12 => .array (.int)
  | 13 => .array (.int)
  | 14 => .array (.int)
  | 15 => .array (.int)
  | 16 => .array (.int)
  | 17 => .array (.boolean)
  | 18 => .array (.int)
  | 19 => .array (.int)
  | 20 => .array (.int)
  | 21 => .array (.int)
  | 22 => .array (.int)
  | 23 => .array (.long)
  | 24 => .array (.long)
  | 25 => .array (.long)
  | 26 => .array (.long)
  | _ => .array (.long)
theorem zn_M : ∀ a, a < 28 → ∀ b, b < 28 → a ≠ b → (zF_M a).2.1 ≠ (zF_M b).2.1 := by decide +kernel
theorem zk_M : ∀ k, k < 28 → parseFieldDescriptor (zF_M k).2.2.1 = some (zt_M k) := by decide +kernel
theorem zi_M : ∀ w ∈ u_ws zR_M zF_M 28, w ∈ lw_tbl := by decide +kernel
def zR_A : String := "java/util/ArrayList"
def zF_A : u_T := fun k => match k with
  | 0 => ("java/util/ArrayList", "elementData", "[Ljava/lang/Object;", false)
  | 1 => ("java/util/ArrayList", "size", "I", false)
  | _ => ("java/util/AbstractList", "modCount", "I", false)
def zt_A : Nat → FieldType := fun k => match k with
  | 0 => .array (.object "java/lang/Object")
  | 1 => .int
  | _ => .int
theorem zn_A : ∀ a, a < 3 → ∀ b, b < 3 → a ≠ b → (zF_A a).2.1 ≠ (zF_A b).2.1 := by decide +kernel
theorem zk_A : ∀ k, k < 3 → parseFieldDescriptor (zF_A k).2.2.1 = some (zt_A k) := by decide +kernel
theorem zi_A : ∀ w ∈ u_ws zR_A zF_A 3, w ∈ lw_tbl := by decide +kernel
def zR_IA : String := "java/lang/IllegalArgumentException"
def zF_IA : u_T := fun k => match k with
  | 0 => ("java/lang/Throwable", "cause", "Ljava/lang/Throwable;", false)
  | 1 => ("java/lang/Throwable", "stackTrace", "[Ljava/lang/StackTraceElement;", false)
  | 2 => ("java/lang/Throwable", "suppressedExceptions", "Ljava/util/List;", false)
  | 3 => ("java/lang/Throwable", "detailMessage", "Ljava/lang/String;", false)
  | 4 => ("java/lang/Throwable", "backtrace", "Ljava/lang/Object;", false)
  | _ => ("java/lang/Throwable", "depth", "I", false)
def zt_IA : Nat → FieldType := fun k => match k with
  | 0 => .object "java/lang/Throwable"
  | 1 => .array (.object "java/lang/StackTraceElement")
  | 2 => .object "java/util/List"
  | 3 => .object "java/lang/String"
  | 4 => .object "java/lang/Object"
  | _ => .int
theorem zn_IA : ∀ a, a < 6 → ∀ b, b < 6 → a ≠ b → (zF_IA a).2.1 ≠ (zF_IA b).2.1 := by decide +kernel
theorem zk_IA : ∀ k, k < 6 → parseFieldDescriptor (zF_IA k).2.2.1 = some (zt_IA k) := by decide +kernel
theorem zi_IA : ∀ w ∈ u_ws zR_IA zF_IA 6, w ∈ lw_tbl := by decide +kernel
def zR_IS : String := "java/lang/IllegalStateException"
def zF_IS : u_T := fun k => match k with
  | 0 => ("java/lang/Throwable", "cause", "Ljava/lang/Throwable;", false)
  | 1 => ("java/lang/Throwable", "stackTrace", "[Ljava/lang/StackTraceElement;", false)
  | 2 => ("java/lang/Throwable", "suppressedExceptions", "Ljava/util/List;", false)
  | 3 => ("java/lang/Throwable", "detailMessage", "Ljava/lang/String;", false)
  | 4 => ("java/lang/Throwable", "backtrace", "Ljava/lang/Object;", false)
  | _ => ("java/lang/Throwable", "depth", "I", false)
def zt_IS : Nat → FieldType := fun k => match k with
  | 0 => .object "java/lang/Throwable"
  | 1 => .array (.object "java/lang/StackTraceElement")
  | 2 => .object "java/util/List"
  | 3 => .object "java/lang/String"
  | 4 => .object "java/lang/Object"
  | _ => .int
theorem zn_IS : ∀ a, a < 6 → ∀ b, b < 6 → a ≠ b → (zF_IS a).2.1 ≠ (zF_IS b).2.1 := by decide +kernel
theorem zk_IS : ∀ k, k < 6 → parseFieldDescriptor (zF_IS k).2.2.1 = some (zt_IS k) := by decide +kernel
theorem zi_IS : ∀ w ∈ u_ws zR_IS zF_IS 6, w ∈ lw_tbl := by decide +kernel
abbrev am_cl : List vw_C := [(zR_S, zF_S, 6), (zR_F, zF_F, 10), (zR_T, zF_T, 8), (zR_B, zF_B, 3), (zR_M, zF_M, 28), (zR_A, zF_A, 3), (zR_IA, zF_IA, 6), (zR_IS, zF_IS, 6)]
abbrev am_ty : List (Nat × FieldType) := [(0, .int), (1, .long), (2, .object "java/lang/Object"), (3, .object "BillShares$Bill"), (4, .boolean)]
