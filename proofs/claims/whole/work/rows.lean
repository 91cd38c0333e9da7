section
-- ===== PART A: goes FIRST, ahead of the names: the tables' words, and 'selects' of the private methods out of them =====
/-- a private method of a class that the tables say can be made, by its rows of tables_1 -/
def lw_okq (q : MethodName × Nat) : Prop := (q.1.cls ≠ "java/lang/invoke/MethodHandle" ∧ q.1.cls ≠ "java/lang/invoke/VarHandle") ∧ Cond.instantiable q.1.cls q.2 ∈ tables_1 ∧ Cond.privateMethod q.1 ∈ tables_1 ∧ Cond.instanceMethod q.1 ∈ tables_1
theorem lw_p0 : lw_okq (⟨"BatchCellars", "rehearse", "()V"⟩, 7) := ⟨⟨by decide +kernel, by decide +kernel⟩, List.mem_of_getElem? (i := 15) (by decide +kernel), List.mem_of_getElem? (i := 693) (by decide +kernel), List.mem_of_getElem? (i := 694) (by decide +kernel)⟩
theorem lw_p1 : lw_okq (⟨"BatchCellars", "perform", "()I"⟩, 7) := ⟨⟨by decide +kernel, by decide +kernel⟩, List.mem_of_getElem? (i := 15) (by decide +kernel), List.mem_of_getElem? (i := 714) (by decide +kernel), List.mem_of_getElem? (i := 715) (by decide +kernel)⟩
theorem lw_p2 : lw_okq (⟨"BatchCellarsModel", "changes", "()V"⟩, 11) := ⟨⟨by decide +kernel, by decide +kernel⟩, List.mem_of_getElem? (i := 725) (by decide +kernel), List.mem_of_getElem? (i := 772) (by decide +kernel), List.mem_of_getElem? (i := 773) (by decide +kernel)⟩
theorem lw_p3 : lw_okq (⟨"BatchCellarsModel", "isRecipe", "(I)Z"⟩, 11) := ⟨⟨by decide +kernel, by decide +kernel⟩, List.mem_of_getElem? (i := 725) (by decide +kernel), List.mem_of_getElem? (i := 780) (by decide +kernel), List.mem_of_getElem? (i := 781) (by decide +kernel)⟩
theorem lw_p4 : lw_okq (⟨"BatchCellarsModel", "isMade", "(I)Z"⟩, 11) := ⟨⟨by decide +kernel, by decide +kernel⟩, List.mem_of_getElem? (i := 725) (by decide +kernel), List.mem_of_getElem? (i := 784) (by decide +kernel), List.mem_of_getElem? (i := 785) (by decide +kernel)⟩
theorem lw_p5 : lw_okq (⟨"BatchCellarsModel", "isBatch", "(I)Z"⟩, 11) := ⟨⟨by decide +kernel, by decide +kernel⟩, List.mem_of_getElem? (i := 725) (by decide +kernel), List.mem_of_getElem? (i := 788) (by decide +kernel), List.mem_of_getElem? (i := 789) (by decide +kernel)⟩
theorem lw_p6 : lw_okq (⟨"BatchCellarsModel", "of", "(II)I"⟩, 11) := ⟨⟨by decide +kernel, by decide +kernel⟩, List.mem_of_getElem? (i := 725) (by decide +kernel), List.mem_of_getElem? (i := 792) (by decide +kernel), List.mem_of_getElem? (i := 793) (by decide +kernel)⟩
theorem lw_p7 : lw_okq (⟨"BatchCellarsModel", "stages", "(I)I"⟩, 11) := ⟨⟨by decide +kernel, by decide +kernel⟩, List.mem_of_getElem? (i := 725) (by decide +kernel), List.mem_of_getElem? (i := 796) (by decide +kernel), List.mem_of_getElem? (i := 797) (by decide +kernel)⟩
theorem lw_p8 : lw_okq (⟨"BatchCellarsModel", "putsVessel", "(III)V"⟩, 11) := ⟨⟨by decide +kernel, by decide +kernel⟩, List.mem_of_getElem? (i := 725) (by decide +kernel), List.mem_of_getElem? (i := 804) (by decide +kernel), List.mem_of_getElem? (i := 805) (by decide +kernel)⟩
theorem lw_p9 : lw_okq (⟨"BatchCellarsModel", "product", "(I)I"⟩, 11) := ⟨⟨by decide +kernel, by decide +kernel⟩, List.mem_of_getElem? (i := 725) (by decide +kernel), List.mem_of_getElem? (i := 823) (by decide +kernel), List.mem_of_getElem? (i := 824) (by decide +kernel)⟩
theorem lw_p10 : lw_okq (⟨"BatchCellarsModel", "ofStage", "(III)I"⟩, 11) := ⟨⟨by decide +kernel, by decide +kernel⟩, List.mem_of_getElem? (i := 725) (by decide +kernel), List.mem_of_getElem? (i := 827) (by decide +kernel), List.mem_of_getElem? (i := 828) (by decide +kernel)⟩
theorem lw_p11 : lw_okq (⟨"BatchCellarsModel", "isVessel", "(I)Z"⟩, 11) := ⟨⟨by decide +kernel, by decide +kernel⟩, List.mem_of_getElem? (i := 725) (by decide +kernel), List.mem_of_getElem? (i := 835) (by decide +kernel), List.mem_of_getElem? (i := 836) (by decide +kernel)⟩
theorem lw_p12 : lw_okq (⟨"BatchCellarsModel", "takes", "(III)Z"⟩, 11) := ⟨⟨by decide +kernel, by decide +kernel⟩, List.mem_of_getElem? (i := 725) (by decide +kernel), List.mem_of_getElem? (i := 839) (by decide +kernel), List.mem_of_getElem? (i := 840) (by decide +kernel)⟩
theorem lw_p13 : lw_okq (⟨"BatchCellarsModel", "ofVessel", "(II)I"⟩, 11) := ⟨⟨by decide +kernel, by decide +kernel⟩, List.mem_of_getElem? (i := 725) (by decide +kernel), List.mem_of_getElem? (i := 843) (by decide +kernel), List.mem_of_getElem? (i := 844) (by decide +kernel)⟩
theorem lw_p14 : lw_okq (⟨"BatchCellarsModel", "puts", "(III)V"⟩, 11) := ⟨⟨by decide +kernel, by decide +kernel⟩, List.mem_of_getElem? (i := 725) (by decide +kernel), List.mem_of_getElem? (i := 847) (by decide +kernel), List.mem_of_getElem? (i := 848) (by decide +kernel)⟩
theorem lw_p15 : lw_okq (⟨"BatchCellarsModel", "comes", "(II)I"⟩, 11) := ⟨⟨by decide +kernel, by decide +kernel⟩, List.mem_of_getElem? (i := 725) (by decide +kernel), List.mem_of_getElem? (i := 851) (by decide +kernel), List.mem_of_getElem? (i := 852) (by decide +kernel)⟩
def lw_privs_1 : List (MethodName × Nat) := [(⟨"BatchCellars", "rehearse", "()V"⟩, 7), (⟨"BatchCellars", "perform", "()I"⟩, 7), (⟨"BatchCellarsModel", "changes", "()V"⟩, 11), (⟨"BatchCellarsModel", "isRecipe", "(I)Z"⟩, 11), (⟨"BatchCellarsModel", "isMade", "(I)Z"⟩, 11), (⟨"BatchCellarsModel", "isBatch", "(I)Z"⟩, 11), (⟨"BatchCellarsModel", "of", "(II)I"⟩, 11), (⟨"BatchCellarsModel", "stages", "(I)I"⟩, 11), (⟨"BatchCellarsModel", "putsVessel", "(III)V"⟩, 11), (⟨"BatchCellarsModel", "product", "(I)I"⟩, 11), (⟨"BatchCellarsModel", "ofStage", "(III)I"⟩, 11), (⟨"BatchCellarsModel", "isVessel", "(I)Z"⟩, 11), (⟨"BatchCellarsModel", "takes", "(III)Z"⟩, 11), (⟨"BatchCellarsModel", "ofVessel", "(II)I"⟩, 11), (⟨"BatchCellarsModel", "puts", "(III)V"⟩, 11), (⟨"BatchCellarsModel", "comes", "(II)I"⟩, 11)]
theorem lw_r1 : ∀ q ∈ lw_privs_1, lw_okq q := List.forall_mem_cons.mpr ⟨lw_p0, List.forall_mem_cons.mpr ⟨lw_p1, List.forall_mem_cons.mpr ⟨lw_p2, List.forall_mem_cons.mpr ⟨lw_p3, List.forall_mem_cons.mpr ⟨lw_p4, List.forall_mem_cons.mpr ⟨lw_p5, List.forall_mem_cons.mpr ⟨lw_p6, List.forall_mem_cons.mpr ⟨lw_p7, List.forall_mem_cons.mpr ⟨lw_p8, List.forall_mem_cons.mpr ⟨lw_p9, List.forall_mem_cons.mpr ⟨lw_p10, List.forall_mem_cons.mpr ⟨lw_p11, List.forall_mem_cons.mpr ⟨lw_p12, List.forall_mem_cons.mpr ⟨lw_p13, List.forall_mem_cons.mpr ⟨lw_p14, List.forall_mem_cons.mpr ⟨lw_p15, fun _ h => absurd h List.not_mem_nil⟩⟩⟩⟩⟩⟩⟩⟩⟩⟩⟩⟩⟩⟩⟩⟩
theorem lw_p16 : lw_okq (⟨"BatchCellarsModel", "cleans", "(II)I"⟩, 11) := ⟨⟨by decide +kernel, by decide +kernel⟩, List.mem_of_getElem? (i := 725) (by decide +kernel), List.mem_of_getElem? (i := 855) (by decide +kernel), List.mem_of_getElem? (i := 856) (by decide +kernel)⟩
theorem lw_p17 : lw_okq (⟨"BatchCellarsModel", "lineTo", "(II)I"⟩, 11) := ⟨⟨by decide +kernel, by decide +kernel⟩, List.mem_of_getElem? (i := 725) (by decide +kernel), List.mem_of_getElem? (i := 863) (by decide +kernel), List.mem_of_getElem? (i := 864) (by decide +kernel)⟩
theorem lw_p18 : lw_okq (⟨"BatchCellarsModel", "isRipe", "(I)Z"⟩, 11) := ⟨⟨by decide +kernel, by decide +kernel⟩, List.mem_of_getElem? (i := 725) (by decide +kernel), List.mem_of_getElem? (i := 867) (by decide +kernel), List.mem_of_getElem? (i := 868) (by decide +kernel)⟩
theorem lw_p19 : lw_okq (⟨"BatchCellarsModel", "ripeAt", "(I)I"⟩, 11) := ⟨⟨by decide +kernel, by decide +kernel⟩, List.mem_of_getElem? (i := 725) (by decide +kernel), List.mem_of_getElem? (i := 871) (by decide +kernel), List.mem_of_getElem? (i := 872) (by decide +kernel)⟩
theorem lw_p20 : lw_okq (⟨"BatchCellarsModel", "over", "(I)I"⟩, 11) := ⟨⟨by decide +kernel, by decide +kernel⟩, List.mem_of_getElem? (i := 725) (by decide +kernel), List.mem_of_getElem? (i := 875) (by decide +kernel), List.mem_of_getElem? (i := 876) (by decide +kernel)⟩
theorem lw_p21 : lw_okq (⟨"BatchCellarsModel", "ofLine", "(II)I"⟩, 11) := ⟨⟨by decide +kernel, by decide +kernel⟩, List.mem_of_getElem? (i := 725) (by decide +kernel), List.mem_of_getElem? (i := 879) (by decide +kernel), List.mem_of_getElem? (i := 880) (by decide +kernel)⟩
theorem lw_p22 : lw_okq (⟨"BatchCellarsModel", "minutesTo", "(III)I"⟩, 11) := ⟨⟨by decide +kernel, by decide +kernel⟩, List.mem_of_getElem? (i := 725) (by decide +kernel), List.mem_of_getElem? (i := 883) (by decide +kernel), List.mem_of_getElem? (i := 884) (by decide +kernel)⟩
theorem lw_p23 : lw_okq (⟨"BatchCellarsModel", "goes", "(I)I"⟩, 11) := ⟨⟨by decide +kernel, by decide +kernel⟩, List.mem_of_getElem? (i := 725) (by decide +kernel), List.mem_of_getElem? (i := 891) (by decide +kernel), List.mem_of_getElem? (i := 892) (by decide +kernel)⟩
theorem lw_p24 : lw_okq (⟨"BatchCellarsModel", "canBlend", "(II)Z"⟩, 11) := ⟨⟨by decide +kernel, by decide +kernel⟩, List.mem_of_getElem? (i := 725) (by decide +kernel), List.mem_of_getElem? (i := 903) (by decide +kernel), List.mem_of_getElem? (i := 904) (by decide +kernel)⟩
theorem lw_p25 : lw_okq (⟨"BatchCellarsModel", "goodTill", "(I)I"⟩, 11) := ⟨⟨by decide +kernel, by decide +kernel⟩, List.mem_of_getElem? (i := 725) (by decide +kernel), List.mem_of_getElem? (i := 911) (by decide +kernel), List.mem_of_getElem? (i := 912) (by decide +kernel)⟩
theorem lw_p26 : lw_okq (⟨"BatchCellarsModel", "ofBatches", "(I)I"⟩, 11) := ⟨⟨by decide +kernel, by decide +kernel⟩, List.mem_of_getElem? (i := 725) (by decide +kernel), List.mem_of_getElem? (i := 935) (by decide +kernel), List.mem_of_getElem? (i := 936) (by decide +kernel)⟩
theorem lw_p27 : lw_okq (⟨"BatchCellarsModel", "isRoom", "(II)Z"⟩, 11) := ⟨⟨by decide +kernel, by decide +kernel⟩, List.mem_of_getElem? (i := 725) (by decide +kernel), List.mem_of_getElem? (i := 951) (by decide +kernel), List.mem_of_getElem? (i := 952) (by decide +kernel)⟩
theorem lw_p28 : lw_okq (⟨"BatchCellarsModel", "plays", "()I"⟩, 11) := ⟨⟨by decide +kernel, by decide +kernel⟩, List.mem_of_getElem? (i := 725) (by decide +kernel), List.mem_of_getElem? (i := 978) (by decide +kernel), List.mem_of_getElem? (i := 979) (by decide +kernel)⟩
theorem lw_p29 : lw_okq (⟨"BatchCellarsModel", "number", "(II)Z"⟩, 11) := ⟨⟨by decide +kernel, by decide +kernel⟩, List.mem_of_getElem? (i := 725) (by decide +kernel), List.mem_of_getElem? (i := 985) (by decide +kernel), List.mem_of_getElem? (i := 986) (by decide +kernel)⟩
theorem lw_p30 : lw_okq (⟨"BatchCellarsModel", "isAt", "(II)Z"⟩, 11) := ⟨⟨by decide +kernel, by decide +kernel⟩, List.mem_of_getElem? (i := 725) (by decide +kernel), List.mem_of_getElem? (i := 989) (by decide +kernel), List.mem_of_getElem? (i := 990) (by decide +kernel)⟩
theorem lw_p31 : lw_okq (⟨"BatchCellarsModel", "calls", "(I)I"⟩, 11) := ⟨⟨by decide +kernel, by decide +kernel⟩, List.mem_of_getElem? (i := 725) (by decide +kernel), List.mem_of_getElem? (i := 993) (by decide +kernel), List.mem_of_getElem? (i := 994) (by decide +kernel)⟩
def lw_privs_2 : List (MethodName × Nat) := [(⟨"BatchCellarsModel", "cleans", "(II)I"⟩, 11), (⟨"BatchCellarsModel", "lineTo", "(II)I"⟩, 11), (⟨"BatchCellarsModel", "isRipe", "(I)Z"⟩, 11), (⟨"BatchCellarsModel", "ripeAt", "(I)I"⟩, 11), (⟨"BatchCellarsModel", "over", "(I)I"⟩, 11), (⟨"BatchCellarsModel", "ofLine", "(II)I"⟩, 11), (⟨"BatchCellarsModel", "minutesTo", "(III)I"⟩, 11), (⟨"BatchCellarsModel", "goes", "(I)I"⟩, 11), (⟨"BatchCellarsModel", "canBlend", "(II)Z"⟩, 11), (⟨"BatchCellarsModel", "goodTill", "(I)I"⟩, 11), (⟨"BatchCellarsModel", "ofBatches", "(I)I"⟩, 11), (⟨"BatchCellarsModel", "isRoom", "(II)Z"⟩, 11), (⟨"BatchCellarsModel", "plays", "()I"⟩, 11), (⟨"BatchCellarsModel", "number", "(II)Z"⟩, 11), (⟨"BatchCellarsModel", "isAt", "(II)Z"⟩, 11), (⟨"BatchCellarsModel", "calls", "(I)I"⟩, 11)]
theorem lw_r2 : ∀ q ∈ lw_privs_2, lw_okq q := List.forall_mem_cons.mpr ⟨lw_p16, List.forall_mem_cons.mpr ⟨lw_p17, List.forall_mem_cons.mpr ⟨lw_p18, List.forall_mem_cons.mpr ⟨lw_p19, List.forall_mem_cons.mpr ⟨lw_p20, List.forall_mem_cons.mpr ⟨lw_p21, List.forall_mem_cons.mpr ⟨lw_p22, List.forall_mem_cons.mpr ⟨lw_p23, List.forall_mem_cons.mpr ⟨lw_p24, List.forall_mem_cons.mpr ⟨lw_p25, List.forall_mem_cons.mpr ⟨lw_p26, List.forall_mem_cons.mpr ⟨lw_p27, List.forall_mem_cons.mpr ⟨lw_p28, List.forall_mem_cons.mpr ⟨lw_p29, List.forall_mem_cons.mpr ⟨lw_p30, List.forall_mem_cons.mpr ⟨lw_p31, fun _ h => absurd h List.not_mem_nil⟩⟩⟩⟩⟩⟩⟩⟩⟩⟩⟩⟩⟩⟩⟩⟩
def lw_privs : List (MethodName × Nat) := lw_privs_1 ++ (lw_privs_2)
def lw_tbl : List Cond := k2_sels lw_privs ++ tables_1
theorem lw_privs_ok : ∀ q ∈ lw_privs, lw_okq q := by
  show ∀ q ∈ lw_privs_1 ++ (lw_privs_2), lw_okq q
  exact List.forall_mem_append.mpr ⟨lw_r1, lw_r2⟩
def RX0 : String := "BatchCellars$Batch"
def TX0 : u_T := fun k => match k with
  | 0 => ("BatchCellars$Batch", "there", "Z", false)
  | 1 => ("BatchCellars$Batch", "recipe", "I", false)
  | 2 => ("BatchCellars$Batch", "product", "I", false)
  | 3 => ("BatchCellars$Batch", "firstMass", "I", false)
  | 4 => ("BatchCellars$Batch", "mass", "I", false)
  | 5 => ("BatchCellars$Batch", "blended", "I", false)
  | 6 => ("BatchCellars$Batch", "spoiled", "Z", false)
  | 7 => ("BatchCellars$Batch", "stage", "I", false)
  | 8 => ("BatchCellars$Batch", "vessel", "I", false)
  | 9 => ("BatchCellars$Batch", "workBegins", "I", false)
  | 10 => ("BatchCellars$Batch", "workEnds", "I", false)
  | 11 => ("BatchCellars$Batch", "ripeFrom", "I", false)
  | _ => ("BatchCellars$Batch", "goodUntil", "I", false)
def tyX0 : Nat → FieldType := fun k => match k with
  | 0 => .boolean
  | 1 => .int
  | 2 => .int
  | 3 => .int
  | 4 => .int
  | 5 => .int
  | 6 => .boolean
  | 7 => .int
  | 8 => .int
  | 9 => .int
  | 10 => .int
  | 11 => .int
  | _ => .int
abbrev wsX00 : List Cond := u_ws RX0 TX0 13
theorem nmX0 : ∀ a, a < 13 → ∀ b, b < 13 → a ≠ b → (TX0 a).2.1 ≠ (TX0 b).2.1 := by decide +kernel
theorem tyX0_ok : ∀ k, k < 13 → parseFieldDescriptor (TX0 k).2.2.1 = some (tyX0 k) := by decide +kernel
abbrev cX0_init : ByteArray := prog_2_method_1_code
def yX0_init : MethodName := ⟨RX0, "<init>", "()V"⟩
abbrev cX0_copyFrom : ByteArray := prog_2_method_2_code
def yX0_copyFrom : MethodName := ⟨RX0, "copyFrom", "(LBatchCellars$Batch;)V"⟩
abbrev cX0_start : ByteArray := prog_2_method_3_code
def yX0_start : MethodName := ⟨RX0, "start", "(III)V"⟩
abbrev cX0_enter : ByteArray := prog_2_method_4_code
def yX0_enter : MethodName := ⟨RX0, "enter", "(ILBatchCellars$Stage;II)V"⟩
abbrev cX0_isRipe : ByteArray := prog_2_method_5_code
def yX0_isRipe : MethodName := ⟨RX0, "isRipe", "(I)Z"⟩
abbrev cX0_detail : ByteArray := prog_2_method_6_code
def yX0_detail : MethodName := ⟨RX0, "detail", "(II)I"⟩
def RX1 : String := "BatchCellars$History"
def TX1 : u_T := fun k => match k with
  | 0 => ("BatchCellars$History", "rows", "[LBatchCellars$Plant;", true)
  | 1 => ("BatchCellars$History", "open", "I", false)
  | _ => ("BatchCellars$History", "states", "I", false)
def tyX1 : Nat → FieldType := fun k => match k with
  | 0 => .array (.object "BatchCellars$Plant")
  | 1 => .int
  | _ => .int
abbrev wsX10 : List Cond := u_ws RX1 TX1 3
theorem nmX1 : ∀ a, a < 3 → ∀ b, b < 3 → a ≠ b → (TX1 a).2.1 ≠ (TX1 b).2.1 := by decide +kernel
theorem tyX1_ok : ∀ k, k < 3 → parseFieldDescriptor (TX1 k).2.2.1 = some (tyX1 k) := by decide +kernel
abbrev cX1_init : ByteArray := prog_3_method_1_code
def yX1_init : MethodName := ⟨RX1, "<init>", "()V"⟩
abbrev cX1_prepare : ByteArray := prog_3_method_2_code
def yX1_prepare : MethodName := ⟨RX1, "prepare", "(LBatchCellars$Plant;)V"⟩
abbrev cX1_settle : ByteArray := prog_3_method_3_code
def yX1_settle : MethodName := ⟨RX1, "settle", "(I)I"⟩
abbrev cX1_restore : ByteArray := prog_3_method_4_code
def yX1_restore : MethodName := ⟨RX1, "restore", "(LBatchCellars$Plant;)I"⟩
def RX2 : String := "BatchCellars$Line"
def TX2 : u_T := fun k => match k with
  | 0 => ("BatchCellars$Line", "vessels", "I", false)
  | 1 => ("BatchCellars$Line", "speed", "I", false)
  | 2 => ("BatchCellars$Line", "busyUntil", "I", false)
  | _ => ("BatchCellars$Line", "carried", "I", false)
def tyX2 : Nat → FieldType := fun k => match k with
  | 0 => .int
  | 1 => .int
  | 2 => .int
  | _ => .int
abbrev wsX20 : List Cond := u_ws RX2 TX2 4
theorem nmX2 : ∀ a, a < 4 → ∀ b, b < 4 → a ≠ b → (TX2 a).2.1 ≠ (TX2 b).2.1 := by decide +kernel
theorem tyX2_ok : ∀ k, k < 4 → parseFieldDescriptor (TX2 k).2.2.1 = some (tyX2 k) := by decide +kernel
abbrev cX2_init : ByteArray := prog_4_method_1_code
def yX2_init : MethodName := ⟨RX2, "<init>", "()V"⟩
abbrev cX2_copyFrom : ByteArray := prog_4_method_2_code
def yX2_copyFrom : MethodName := ⟨RX2, "copyFrom", "(LBatchCellars$Line;)V"⟩
abbrev cX2_isFree : ByteArray := prog_4_method_3_code
def yX2_isFree : MethodName := ⟨RX2, "isFree", "(I)Z"⟩
abbrev cX2_joins : ByteArray := prog_4_method_4_code
def yX2_joins : MethodName := ⟨RX2, "joins", "(II)Z"⟩
abbrev cX2_minutesFor : ByteArray := prog_4_method_5_code
def yX2_minutesFor : MethodName := ⟨RX2, "minutesFor", "(I)I"⟩
abbrev cX2_detail : ByteArray := prog_4_method_6_code
def yX2_detail : MethodName := ⟨RX2, "detail", "(II)I"⟩
def RX3 : String := "BatchCellars$Plant"
def TX3 : u_T := fun k => match k with
  | 0 => ("BatchCellars$Plant", "recipes", "[LBatchCellars$Recipe;", true)
  | 1 => ("BatchCellars$Plant", "recipeCount", "I", false)
  | 2 => ("BatchCellars$Plant", "vessels", "[LBatchCellars$Vessel;", true)
  | 3 => ("BatchCellars$Plant", "vesselCount", "I", false)
  | 4 => ("BatchCellars$Plant", "lines", "[LBatchCellars$Line;", true)
  | 5 => ("BatchCellars$Plant", "lineCount", "I", false)
  | 6 => ("BatchCellars$Plant", "batches", "[LBatchCellars$Batch;", true)
  | 7 => ("BatchCellars$Plant", "cleaningTable", "[I", true)
  | 8 => ("BatchCellars$Plant", "settings", "[I", true)
  | 9 => ("BatchCellars$Plant", "offGrade", "[I", true)
  | 10 => ("BatchCellars$Plant", "time", "I", false)
  | 11 => ("BatchCellars$Plant", "begunMass", "I", false)
  | 12 => ("BatchCellars$Plant", "madeMass", "I", false)
  | 13 => ("BatchCellars$Plant", "lostMass", "I", false)
  | 14 => ("BatchCellars$Plant", "madeBatches", "I", false)
  | _ => ("BatchCellars$Plant", "spoiledBatches", "I", false)
def tyX3 : Nat → FieldType := fun k => match k with
  | 0 => .array (.object "BatchCellars$Recipe")
  | 1 => .int
  | 2 => .array (.object "BatchCellars$Vessel")
  | 3 => .int
  | 4 => .array (.object "BatchCellars$Line")
  | 5 => .int
  | 6 => .array (.object "BatchCellars$Batch")
  | 7 => .array .int
  | 8 => .array .int
  | 9 => .array .int
  | 10 => .int
  | 11 => .int
  | 12 => .int
  | 13 => .int
  | 14 => .int
  | _ => .int
abbrev wsX30 : List Cond := u_ws RX3 TX3 16
theorem nmX3 : ∀ a, a < 16 → ∀ b, b < 16 → a ≠ b → (TX3 a).2.1 ≠ (TX3 b).2.1 := by decide +kernel
theorem tyX3_ok : ∀ k, k < 16 → parseFieldDescriptor (TX3 k).2.2.1 = some (tyX3 k) := by decide +kernel
abbrev cX3_init : ByteArray := prog_5_method_1_code
def yX3_init : MethodName := ⟨RX3, "<init>", "()V"⟩
abbrev cX3_copyFrom : ByteArray := prog_5_method_2_code
def yX3_copyFrom : MethodName := ⟨RX3, "copyFrom", "(LBatchCellars$Plant;)V"⟩
abbrev cX3_copyParts : ByteArray := prog_5_method_3_code
def yX3_copyParts : MethodName := ⟨RX3, "copyParts", "(LBatchCellars$Plant;)V"⟩
abbrev cX3_recipeAt : ByteArray := prog_5_method_4_code
def yX3_recipeAt : MethodName := ⟨RX3, "recipeAt", "(I)LBatchCellars$Recipe;"⟩
abbrev cX3_vesselAt : ByteArray := prog_5_method_5_code
def yX3_vesselAt : MethodName := ⟨RX3, "vesselAt", "(I)LBatchCellars$Vessel;"⟩
abbrev cX3_lineAt : ByteArray := prog_5_method_6_code
def yX3_lineAt : MethodName := ⟨RX3, "lineAt", "(I)LBatchCellars$Line;"⟩
abbrev cX3_batchAt : ByteArray := prog_5_method_7_code
def yX3_batchAt : MethodName := ⟨RX3, "batchAt", "(I)LBatchCellars$Batch;"⟩
abbrev cX3_addRecipe : ByteArray := prog_5_method_8_code
def yX3_addRecipe : MethodName := ⟨RX3, "addRecipe", "(I)I"⟩
abbrev cX3_addStage : ByteArray := prog_5_method_9_code
def yX3_addStage : MethodName := ⟨RX3, "addStage", "(IIIII)I"⟩
abbrev cX3_hasBatchOf : ByteArray := prog_5_method_10_code
def yX3_hasBatchOf : MethodName := ⟨RX3, "hasBatchOf", "(I)Z"⟩
abbrev cX3_addVessel : ByteArray := prog_5_method_11_code
def yX3_addVessel : MethodName := ⟨RX3, "addVessel", "(II)I"⟩
abbrev cX3_addLine : ByteArray := prog_5_method_12_code
def yX3_addLine : MethodName := ⟨RX3, "addLine", "(II)I"⟩
abbrev cX3_changeCleaning : ByteArray := prog_5_method_13_code
def yX3_changeCleaning : MethodName := ⟨RX3, "changeCleaning", "(III)I"⟩
abbrev cX3_changeSetting : ByteArray := prog_5_method_14_code
def yX3_changeSetting : MethodName := ⟨RX3, "changeSetting", "(II)I"⟩
abbrev cX3_beginBatch : ByteArray := prog_5_method_15_code
def yX3_beginBatch : MethodName := ⟨RX3, "beginBatch", "(III)I"⟩
abbrev cX3_lowestFreeNumber : ByteArray := prog_5_method_16_code
def yX3_lowestFreeNumber : MethodName := ⟨RX3, "lowestFreeNumber", "()I"⟩
abbrev cX3_occupy : ByteArray := prog_5_method_17_code
def yX3_occupy : MethodName := ⟨RX3, "occupy", "(LBatchCellars$Vessel;II)I"⟩
abbrev cX3_cleaningMinutes : ByteArray := prog_5_method_18_code
def yX3_cleaningMinutes : MethodName := ⟨RX3, "cleaningMinutes", "(LBatchCellars$Vessel;I)I"⟩
abbrev cX3_moveBatch : ByteArray := prog_5_method_19_code
def yX3_moveBatch : MethodName := ⟨RX3, "moveBatch", "(II)I"⟩
abbrev cX3_lineTo : ByteArray := prog_5_method_20_code
def yX3_lineTo : MethodName := ⟨RX3, "lineTo", "(LBatchCellars$Batch;I)I"⟩
abbrev cX3_nextStage : ByteArray := prog_5_method_21_code
def yX3_nextStage : MethodName := ⟨RX3, "nextStage", "(LBatchCellars$Batch;)LBatchCellars$Stage;"⟩
abbrev cX3_transferLoss : ByteArray := prog_5_method_22_code
def yX3_transferLoss : MethodName := ⟨RX3, "transferLoss", "(I)I"⟩
abbrev cX3_leaveVessel : ByteArray := prog_5_method_23_code
def yX3_leaveVessel : MethodName := ⟨RX3, "leaveVessel", "(LBatchCellars$Batch;)V"⟩
abbrev cX3_endBatch : ByteArray := prog_5_method_24_code
def yX3_endBatch : MethodName := ⟨RX3, "endBatch", "(I)I"⟩
abbrev cX3_throwAway : ByteArray := prog_5_method_25_code
def yX3_throwAway : MethodName := ⟨RX3, "throwAway", "(I)I"⟩
abbrev cX3_remove : ByteArray := prog_5_method_26_code
def yX3_remove : MethodName := ⟨RX3, "remove", "(LBatchCellars$Batch;)V"⟩
abbrev cX3_addOffGrade : ByteArray := prog_5_method_27_code
def yX3_addOffGrade : MethodName := ⟨RX3, "addOffGrade", "(II)V"⟩
abbrev cX3_blendIn : ByteArray := prog_5_method_28_code
def yX3_blendIn : MethodName := ⟨RX3, "blendIn", "(II)I"⟩
abbrev cX3_letPass : ByteArray := prog_5_method_29_code
def yX3_letPass : MethodName := ⟨RX3, "letPass", "(I)I"⟩
abbrev cX3_total : ByteArray := prog_5_method_30_code
def yX3_total : MethodName := ⟨RX3, "total", "(I)I"⟩
abbrev cX3_batchTotal : ByteArray := prog_5_method_31_code
def yX3_batchTotal : MethodName := ⟨RX3, "batchTotal", "()I"⟩
abbrev cX3_massTotal : ByteArray := prog_5_method_32_code
def yX3_massTotal : MethodName := ⟨RX3, "massTotal", "()I"⟩
abbrev cX3_openTargets : ByteArray := prog_5_method_33_code
def yX3_openTargets : MethodName := ⟨RX3, "openTargets", "(LBatchCellars$Batch;)I"⟩
abbrev cX3_minutesTo : ByteArray := prog_5_method_34_code
def yX3_minutesTo : MethodName := ⟨RX3, "minutesTo", "(LBatchCellars$Batch;I)I"⟩
abbrev cX3_quickestTarget : ByteArray := prog_5_method_35_code
def yX3_quickestTarget : MethodName := ⟨RX3, "quickestTarget", "(LBatchCellars$Batch;)I"⟩
abbrev cX3_earliestEnd : ByteArray := prog_5_method_36_code
def yX3_earliestEnd : MethodName := ⟨RX3, "earliestEnd", "(LBatchCellars$Batch;)I"⟩
abbrev cX3_hasVesselFor : ByteArray := prog_5_method_37_code
def yX3_hasVesselFor : MethodName := ⟨RX3, "hasVesselFor", "(II)Z"⟩
abbrev cX3_batchInPlace : ByteArray := prog_5_method_38_code
def yX3_batchInPlace : MethodName := ⟨RX3, "batchInPlace", "(I)I"⟩
abbrev cX3_canSpoil : ByteArray := prog_5_method_39_code
def yX3_canSpoil : MethodName := ⟨RX3, "canSpoil", "(I)Z"⟩
abbrev cX3_moreUrgentThan : ByteArray := prog_5_method_40_code
def yX3_moreUrgentThan : MethodName := ⟨RX3, "moreUrgentThan", "(I)I"⟩
def RX4 : String := "BatchCellars$Recipe"
def TX4 : u_T := fun k => match k with
  | 0 => ("BatchCellars$Recipe", "product", "I", false)
  | 1 => ("BatchCellars$Recipe", "stageCount", "I", false)
  | _ => ("BatchCellars$Recipe", "stages", "[LBatchCellars$Stage;", true)
def tyX4 : Nat → FieldType := fun k => match k with
  | 0 => .int
  | 1 => .int
  | _ => .array (.object "BatchCellars$Stage")
abbrev wsX40 : List Cond := u_ws RX4 TX4 3
theorem nmX4 : ∀ a, a < 3 → ∀ b, b < 3 → a ≠ b → (TX4 a).2.1 ≠ (TX4 b).2.1 := by decide +kernel
theorem tyX4_ok : ∀ k, k < 3 → parseFieldDescriptor (TX4 k).2.2.1 = some (tyX4 k) := by decide +kernel
abbrev cX4_init : ByteArray := prog_6_method_1_code
def yX4_init : MethodName := ⟨RX4, "<init>", "()V"⟩
abbrev cX4_copyFrom : ByteArray := prog_6_method_2_code
def yX4_copyFrom : MethodName := ⟨RX4, "copyFrom", "(LBatchCellars$Recipe;)V"⟩
abbrev cX4_stageAt : ByteArray := prog_6_method_3_code
def yX4_stageAt : MethodName := ⟨RX4, "stageAt", "(I)LBatchCellars$Stage;"⟩
def RX5 : String := "BatchCellars$Script"
def TX5 : u_T := fun k => match k with
  | 0 => ("BatchCellars$Script", "signs", "[C", true)
  | 1 => ("BatchCellars$Script", "length", "I", false)
  | 2 => ("BatchCellars$Script", "letter", "C", false)
  | 3 => ("BatchCellars$Script", "numbers", "[I", true)
  | _ => ("BatchCellars$Script", "behind", "I", false)
def tyX5 : Nat → FieldType := fun k => match k with
  | 0 => .array .char
  | 1 => .int
  | 2 => .char
  | 3 => .array .int
  | _ => .int
abbrev wsX50 : List Cond := u_ws RX5 TX5 5
theorem nmX5 : ∀ a, a < 5 → ∀ b, b < 5 → a ≠ b → (TX5 a).2.1 ≠ (TX5 b).2.1 := by decide +kernel
theorem tyX5_ok : ∀ k, k < 5 → parseFieldDescriptor (TX5 k).2.2.1 = some (tyX5 k) := by decide +kernel
abbrev cX5_init : ByteArray := prog_7_method_1_code
def yX5_init : MethodName := ⟨RX5, "<init>", "()V"⟩
abbrev cX5_append : ByteArray := prog_7_method_2_code
def yX5_append : MethodName := ⟨RX5, "append", "(I)I"⟩
abbrev cX5_signAt : ByteArray := prog_7_method_3_code
def yX5_signAt : MethodName := ⟨RX5, "signAt", "(I)C"⟩
abbrev cX5_readCommand : ByteArray := prog_7_method_4_code
def yX5_readCommand : MethodName := ⟨RX5, "readCommand", "(I)Z"⟩
abbrev cX5_numbersOf : ByteArray := prog_7_method_5_code
def yX5_numbersOf : MethodName := ⟨RX5, "numbersOf", "(C)I"⟩
abbrev cX5_readNumber : ByteArray := prog_7_method_6_code
def yX5_readNumber : MethodName := ⟨RX5, "readNumber", "(I)Z"⟩
def RX6 : String := "BatchCellars$Stage"
def TX6 : u_T := fun k => match k with
  | 0 => ("BatchCellars$Stage", "kind", "I", false)
  | 1 => ("BatchCellars$Stage", "work", "I", false)
  | 2 => ("BatchCellars$Stage", "least", "I", false)
  | _ => ("BatchCellars$Stage", "most", "I", false)
def tyX6 : Nat → FieldType := fun k => match k with
  | 0 => .int
  | 1 => .int
  | 2 => .int
  | _ => .int
abbrev wsX60 : List Cond := u_ws RX6 TX6 4
theorem nmX6 : ∀ a, a < 4 → ∀ b, b < 4 → a ≠ b → (TX6 a).2.1 ≠ (TX6 b).2.1 := by decide +kernel
theorem tyX6_ok : ∀ k, k < 4 → parseFieldDescriptor (TX6 k).2.2.1 = some (tyX6 k) := by decide +kernel
abbrev cX6_init : ByteArray := prog_8_method_1_code
def yX6_init : MethodName := ⟨RX6, "<init>", "()V"⟩
abbrev cX6_copyFrom : ByteArray := prog_8_method_2_code
def yX6_copyFrom : MethodName := ⟨RX6, "copyFrom", "(LBatchCellars$Stage;)V"⟩
abbrev cX6_detail : ByteArray := prog_8_method_3_code
def yX6_detail : MethodName := ⟨RX6, "detail", "(I)I"⟩
def RX7 : String := "BatchCellars$Vessel"
def TX7 : u_T := fun k => match k with
  | 0 => ("BatchCellars$Vessel", "kind", "I", false)
  | 1 => ("BatchCellars$Vessel", "size", "I", false)
  | 2 => ("BatchCellars$Vessel", "batch", "I", false)
  | 3 => ("BatchCellars$Vessel", "lastProduct", "I", false)
  | _ => ("BatchCellars$Vessel", "cleaned", "I", false)
def tyX7 : Nat → FieldType := fun k => match k with
  | 0 => .int
  | 1 => .int
  | 2 => .int
  | 3 => .int
  | _ => .int
abbrev wsX70 : List Cond := u_ws RX7 TX7 5
theorem nmX7 : ∀ a, a < 5 → ∀ b, b < 5 → a ≠ b → (TX7 a).2.1 ≠ (TX7 b).2.1 := by decide +kernel
theorem tyX7_ok : ∀ k, k < 5 → parseFieldDescriptor (TX7 k).2.2.1 = some (tyX7 k) := by decide +kernel
abbrev cX7_init : ByteArray := prog_9_method_1_code
def yX7_init : MethodName := ⟨RX7, "<init>", "()V"⟩
abbrev cX7_copyFrom : ByteArray := prog_9_method_2_code
def yX7_copyFrom : MethodName := ⟨RX7, "copyFrom", "(LBatchCellars$Vessel;)V"⟩
abbrev cX7_canTake : ByteArray := prog_9_method_3_code
def yX7_canTake : MethodName := ⟨RX7, "canTake", "(II)Z"⟩
abbrev cX7_suits : ByteArray := prog_9_method_4_code
def yX7_suits : MethodName := ⟨RX7, "suits", "(II)Z"⟩
abbrev cX7_detail : ByteArray := prog_9_method_5_code
def yX7_detail : MethodName := ⟨RX7, "detail", "(I)I"⟩
def RX8 : String := "BatchCellars"
def TX8 : u_T := fun k => match k with
  | 0 => ("BatchCellars", "plant", "LBatchCellars$Plant;", true)
  | 1 => ("BatchCellars", "rehearsal", "LBatchCellars$Plant;", true)
  | 2 => ("BatchCellars", "history", "LBatchCellars$History;", true)
  | 3 => ("BatchCellars", "script", "LBatchCellars$Script;", true)
  | 4 => ("BatchCellars", "faultReason", "I", false)
  | 5 => ("BatchCellars", "faultPlace", "I", false)
  | _ => ("BatchCellars", "commandsDone", "I", false)
def tyX8 : Nat → FieldType := fun k => match k with
  | 0 => .object "BatchCellars$Plant"
  | 1 => .object "BatchCellars$Plant"
  | 2 => .object "BatchCellars$History"
  | 3 => .object "BatchCellars$Script"
  | 4 => .int
  | 5 => .int
  | _ => .int
abbrev wsX80 : List Cond := u_ws RX8 TX8 7
theorem nmX8 : ∀ a, a < 7 → ∀ b, b < 7 → a ≠ b → (TX8 a).2.1 ≠ (TX8 b).2.1 := by decide +kernel
theorem tyX8_ok : ∀ k, k < 7 → parseFieldDescriptor (TX8 k).2.2.1 = some (tyX8 k) := by decide +kernel
abbrev cX8_init : ByteArray := prog_1_method_1_code
def yX8_init : MethodName := ⟨RX8, "<init>", "()V"⟩
abbrev cX8_recipe : ByteArray := prog_1_method_2_code
def yX8_recipe : MethodName := ⟨RX8, "recipe", "(I)I"⟩
abbrev cX8_stage : ByteArray := prog_1_method_3_code
def yX8_stage : MethodName := ⟨RX8, "stage", "(IIIII)I"⟩
abbrev cX8_vessel : ByteArray := prog_1_method_4_code
def yX8_vessel : MethodName := ⟨RX8, "vessel", "(II)I"⟩
abbrev cX8_line : ByteArray := prog_1_method_5_code
def yX8_line : MethodName := ⟨RX8, "line", "(II)I"⟩
abbrev cX8_cleaning : ByteArray := prog_1_method_6_code
def yX8_cleaning : MethodName := ⟨RX8, "cleaning", "(III)I"⟩
abbrev cX8_stageOf : ByteArray := prog_1_method_7_code
def yX8_stageOf : MethodName := ⟨RX8, "stageOf", "(III)I"⟩
abbrev cX8_begin : ByteArray := prog_1_method_8_code
def yX8_begin : MethodName := ⟨RX8, "begin", "(III)I"⟩
abbrev cX8_move : ByteArray := prog_1_method_9_code
def yX8_move : MethodName := ⟨RX8, "move", "(II)I"⟩
abbrev cX8_end : ByteArray := prog_1_method_10_code
def yX8_end : MethodName := ⟨RX8, "end", "(I)I"⟩
abbrev cX8_discard : ByteArray := prog_1_method_11_code
def yX8_discard : MethodName := ⟨RX8, "discard", "(I)I"⟩
abbrev cX8_blend : ByteArray := prog_1_method_12_code
def yX8_blend : MethodName := ⟨RX8, "blend", "(II)I"⟩
abbrev cX8_pass : ByteArray := prog_1_method_13_code
def yX8_pass : MethodName := ⟨RX8, "pass", "(I)I"⟩
abbrev cX8_set : ByteArray := prog_1_method_14_code
def yX8_set : MethodName := ⟨RX8, "set", "(II)I"⟩
abbrev cX8_batchOf : ByteArray := prog_1_method_15_code
def yX8_batchOf : MethodName := ⟨RX8, "batchOf", "(II)I"⟩
abbrev cX8_vesselOf : ByteArray := prog_1_method_16_code
def yX8_vesselOf : MethodName := ⟨RX8, "vesselOf", "(II)I"⟩
abbrev cX8_lineOf : ByteArray := prog_1_method_17_code
def yX8_lineOf : MethodName := ⟨RX8, "lineOf", "(II)I"⟩
abbrev cX8_count : ByteArray := prog_1_method_18_code
def yX8_count : MethodName := ⟨RX8, "count", "(I)I"⟩
abbrev cX8_targets : ByteArray := prog_1_method_19_code
def yX8_targets : MethodName := ⟨RX8, "targets", "(I)I"⟩
abbrev cX8_quickest : ByteArray := prog_1_method_20_code
def yX8_quickest : MethodName := ⟨RX8, "quickest", "(II)I"⟩
abbrev cX8_soonest : ByteArray := prog_1_method_21_code
def yX8_soonest : MethodName := ⟨RX8, "soonest", "(I)I"⟩
abbrev cX8_urgent : ByteArray := prog_1_method_22_code
def yX8_urgent : MethodName := ⟨RX8, "urgent", "(I)I"⟩
abbrev cX8_undo : ByteArray := prog_1_method_23_code
def yX8_undo : MethodName := ⟨RX8, "undo", "()I"⟩
abbrev cX8_type : ByteArray := prog_1_method_24_code
def yX8_type : MethodName := ⟨RX8, "type", "(I)I"⟩
abbrev cX8_clearText : ByteArray := prog_1_method_25_code
def yX8_clearText : MethodName := ⟨RX8, "clearText", "()I"⟩
abbrev cX8_fault : ByteArray := prog_1_method_26_code
def yX8_fault : MethodName := ⟨RX8, "fault", "(I)I"⟩
abbrev cX8_play : ByteArray := prog_1_method_27_code
def yX8_play : MethodName := ⟨RX8, "play", "()I"⟩
abbrev cX8_rehearse : ByteArray := prog_1_method_28_code
def yX8_rehearse : MethodName := ⟨RX8, "rehearse", "()V"⟩
abbrev cX8_perform : ByteArray := prog_1_method_29_code
def yX8_perform : MethodName := ⟨RX8, "perform", "()I"⟩
abbrev cX8_reasonOf : ByteArray := prog_1_method_30_code
def yX8_reasonOf : MethodName := ⟨RX8, "reasonOf", "(I)I"⟩
abbrev cX8_isWithin : ByteArray := prog_1_method_31_code
def yX8_isWithin : MethodName := ⟨RX8, "isWithin", "(III)Z"⟩
abbrev cX8_entryAt : ByteArray := prog_1_method_32_code
def yX8_entryAt : MethodName := ⟨RX8, "entryAt", "([II)I"⟩
abbrev cX8_putEntry : ByteArray := prog_1_method_33_code
def yX8_putEntry : MethodName := ⟨RX8, "putEntry", "([III)V"⟩
abbrev cX8_copyEntries : ByteArray := prog_1_method_34_code
def yX8_copyEntries : MethodName := ⟨RX8, "copyEntries", "([I[I)V"⟩
def RX9 : String := "BatchCellarsModel"
def TX9 : u_T := fun k => match k with
  | 0 => ("BatchCellarsModel", "s", "[I", true)
  | 1 => ("BatchCellarsModel", "past", "[I", true)
  | 2 => ("BatchCellarsModel", "held", "[I", true)
  | 3 => ("BatchCellarsModel", "pasts", "I", false)
  | 4 => ("BatchCellarsModel", "runs", "Z", false)
  | 5 => ("BatchCellarsModel", "text", "[I", true)
  | 6 => ("BatchCellarsModel", "typed", "I", false)
  | 7 => ("BatchCellarsModel", "spot", "I", false)
  | 8 => ("BatchCellarsModel", "cause", "I", false)
  | 9 => ("BatchCellarsModel", "commands", "I", false)
  | _ => ("BatchCellarsModel", "told", "[I", true)
def tyX9 : Nat → FieldType := fun k => match k with
  | 0 => .array .int
  | 1 => .array .int
  | 2 => .array .int
  | 3 => .int
  | 4 => .boolean
  | 5 => .array .int
  | 6 => .int
  | 7 => .int
  | 8 => .int
  | 9 => .int
  | _ => .array .int
abbrev wsX90 : List Cond := u_ws RX9 TX9 11
theorem nmX9 : ∀ a, a < 11 → ∀ b, b < 11 → a ≠ b → (TX9 a).2.1 ≠ (TX9 b).2.1 := by decide +kernel
theorem tyX9_ok : ∀ k, k < 11 → parseFieldDescriptor (TX9 k).2.2.1 = some (tyX9 k) := by decide +kernel
abbrev cX9_init : ByteArray := prog_11_method_1_code
def yX9_init : MethodName := ⟨RX9, "<init>", "()V"⟩
abbrev cX9_in : ByteArray := prog_11_method_3_code
def yX9_in : MethodName := ⟨RX9, "in", "(III)Z"⟩
abbrev cX9_copies : ByteArray := prog_11_method_4_code
def yX9_copies : MethodName := ⟨RX9, "copies", "([I[I)V"⟩
abbrev cX9_changes : ByteArray := prog_11_method_5_code
def yX9_changes : MethodName := ⟨RX9, "changes", "()V"⟩
abbrev cX9_isRecipe : ByteArray := prog_11_method_6_code
def yX9_isRecipe : MethodName := ⟨RX9, "isRecipe", "(I)Z"⟩
abbrev cX9_isVessel : ByteArray := prog_11_method_7_code
def yX9_isVessel : MethodName := ⟨RX9, "isVessel", "(I)Z"⟩
abbrev cX9_ofVessel : ByteArray := prog_11_method_8_code
def yX9_ofVessel : MethodName := ⟨RX9, "ofVessel", "(II)I"⟩
abbrev cX9_putsVessel : ByteArray := prog_11_method_9_code
def yX9_putsVessel : MethodName := ⟨RX9, "putsVessel", "(III)V"⟩
abbrev cX9_ofLine : ByteArray := prog_11_method_10_code
def yX9_ofLine : MethodName := ⟨RX9, "ofLine", "(II)I"⟩
abbrev cX9_of : ByteArray := prog_11_method_11_code
def yX9_of : MethodName := ⟨RX9, "of", "(II)I"⟩
abbrev cX9_puts : ByteArray := prog_11_method_12_code
def yX9_puts : MethodName := ⟨RX9, "puts", "(III)V"⟩
abbrev cX9_isBatch : ByteArray := prog_11_method_13_code
def yX9_isBatch : MethodName := ⟨RX9, "isBatch", "(I)Z"⟩
abbrev cX9_product : ByteArray := prog_11_method_14_code
def yX9_product : MethodName := ⟨RX9, "product", "(I)I"⟩
abbrev cX9_stages : ByteArray := prog_11_method_15_code
def yX9_stages : MethodName := ⟨RX9, "stages", "(I)I"⟩
abbrev cX9_ofStage : ByteArray := prog_11_method_16_code
def yX9_ofStage : MethodName := ⟨RX9, "ofStage", "(III)I"⟩
abbrev cX9_recipe : ByteArray := prog_11_method_17_code
def yX9_recipe : MethodName := ⟨RX9, "recipe", "(I)I"⟩
abbrev cX9_isMade : ByteArray := prog_11_method_18_code
def yX9_isMade : MethodName := ⟨RX9, "isMade", "(I)Z"⟩
abbrev cX9_stage : ByteArray := prog_11_method_19_code
def yX9_stage : MethodName := ⟨RX9, "stage", "(IIIII)I"⟩
abbrev cX9_vessel : ByteArray := prog_11_method_20_code
def yX9_vessel : MethodName := ⟨RX9, "vessel", "(II)I"⟩
abbrev cX9_bits : ByteArray := prog_11_method_21_code
def yX9_bits : MethodName := ⟨RX9, "bits", "(I)I"⟩
abbrev cX9_line : ByteArray := prog_11_method_22_code
def yX9_line : MethodName := ⟨RX9, "line", "(II)I"⟩
abbrev cX9_cleaning : ByteArray := prog_11_method_23_code
def yX9_cleaning : MethodName := ⟨RX9, "cleaning", "(III)I"⟩
abbrev cX9_stageOf : ByteArray := prog_11_method_24_code
def yX9_stageOf : MethodName := ⟨RX9, "stageOf", "(III)I"⟩
abbrev cX9_over : ByteArray := prog_11_method_25_code
def yX9_over : MethodName := ⟨RX9, "over", "(I)I"⟩
abbrev cX9_ripeAt : ByteArray := prog_11_method_26_code
def yX9_ripeAt : MethodName := ⟨RX9, "ripeAt", "(I)I"⟩
abbrev cX9_goodTill : ByteArray := prog_11_method_27_code
def yX9_goodTill : MethodName := ⟨RX9, "goodTill", "(I)I"⟩
abbrev cX9_isRipe : ByteArray := prog_11_method_28_code
def yX9_isRipe : MethodName := ⟨RX9, "isRipe", "(I)Z"⟩
abbrev cX9_cleans : ByteArray := prog_11_method_29_code
def yX9_cleans : MethodName := ⟨RX9, "cleans", "(II)I"⟩
abbrev cX9_takes : ByteArray := prog_11_method_30_code
def yX9_takes : MethodName := ⟨RX9, "takes", "(III)Z"⟩
abbrev cX9_comes : ByteArray := prog_11_method_31_code
def yX9_comes : MethodName := ⟨RX9, "comes", "(II)I"⟩
abbrev cX9_begin : ByteArray := prog_11_method_32_code
def yX9_begin : MethodName := ⟨RX9, "begin", "(III)I"⟩
abbrev cX9_lineTo : ByteArray := prog_11_method_33_code
def yX9_lineTo : MethodName := ⟨RX9, "lineTo", "(II)I"⟩
abbrev cX9_minutesTo : ByteArray := prog_11_method_34_code
def yX9_minutesTo : MethodName := ⟨RX9, "minutesTo", "(III)I"⟩
abbrev cX9_move : ByteArray := prog_11_method_35_code
def yX9_move : MethodName := ⟨RX9, "move", "(II)I"⟩
abbrev cX9_goes : ByteArray := prog_11_method_36_code
def yX9_goes : MethodName := ⟨RX9, "goes", "(I)I"⟩
abbrev cX9_end : ByteArray := prog_11_method_37_code
def yX9_end : MethodName := ⟨RX9, "end", "(I)I"⟩
abbrev cX9_discard : ByteArray := prog_11_method_38_code
def yX9_discard : MethodName := ⟨RX9, "discard", "(I)I"⟩
abbrev cX9_canBlend : ByteArray := prog_11_method_39_code
def yX9_canBlend : MethodName := ⟨RX9, "canBlend", "(II)Z"⟩
abbrev cX9_blend : ByteArray := prog_11_method_40_code
def yX9_blend : MethodName := ⟨RX9, "blend", "(II)I"⟩
abbrev cX9_pass : ByteArray := prog_11_method_41_code
def yX9_pass : MethodName := ⟨RX9, "pass", "(I)I"⟩
abbrev cX9_set : ByteArray := prog_11_method_42_code
def yX9_set : MethodName := ⟨RX9, "set", "(II)I"⟩
abbrev cX9_batchOf : ByteArray := prog_11_method_43_code
def yX9_batchOf : MethodName := ⟨RX9, "batchOf", "(II)I"⟩
abbrev cX9_vesselOf : ByteArray := prog_11_method_44_code
def yX9_vesselOf : MethodName := ⟨RX9, "vesselOf", "(II)I"⟩
abbrev cX9_lineOf : ByteArray := prog_11_method_45_code
def yX9_lineOf : MethodName := ⟨RX9, "lineOf", "(II)I"⟩
abbrev cX9_ofBatches : ByteArray := prog_11_method_46_code
def yX9_ofBatches : MethodName := ⟨RX9, "ofBatches", "(I)I"⟩
abbrev cX9_count : ByteArray := prog_11_method_47_code
def yX9_count : MethodName := ⟨RX9, "count", "(I)I"⟩
abbrev cX9_targets : ByteArray := prog_11_method_48_code
def yX9_targets : MethodName := ⟨RX9, "targets", "(I)I"⟩
abbrev cX9_quickest : ByteArray := prog_11_method_49_code
def yX9_quickest : MethodName := ⟨RX9, "quickest", "(II)I"⟩
abbrev cX9_isRoom : ByteArray := prog_11_method_50_code
def yX9_isRoom : MethodName := ⟨RX9, "isRoom", "(II)Z"⟩
abbrev cX9_soonest : ByteArray := prog_11_method_51_code
def yX9_soonest : MethodName := ⟨RX9, "soonest", "(I)I"⟩
abbrev cX9_urgent : ByteArray := prog_11_method_52_code
def yX9_urgent : MethodName := ⟨RX9, "urgent", "(I)I"⟩
abbrev cX9_undo : ByteArray := prog_11_method_53_code
def yX9_undo : MethodName := ⟨RX9, "undo", "()I"⟩
abbrev cX9_type : ByteArray := prog_11_method_54_code
def yX9_type : MethodName := ⟨RX9, "type", "(I)I"⟩
abbrev cX9_clearText : ByteArray := prog_11_method_55_code
def yX9_clearText : MethodName := ⟨RX9, "clearText", "()I"⟩
abbrev cX9_isAt : ByteArray := prog_11_method_56_code
def yX9_isAt : MethodName := ⟨RX9, "isAt", "(II)Z"⟩
abbrev cX9_number : ByteArray := prog_11_method_57_code
def yX9_number : MethodName := ⟨RX9, "number", "(II)Z"⟩
abbrev cX9_numbersOf : ByteArray := prog_11_method_58_code
def yX9_numbersOf : MethodName := ⟨RX9, "numbersOf", "(I)I"⟩
abbrev cX9_calls : ByteArray := prog_11_method_59_code
def yX9_calls : MethodName := ⟨RX9, "calls", "(I)I"⟩
abbrev cX9_plays : ByteArray := prog_11_method_60_code
def yX9_plays : MethodName := ⟨RX9, "plays", "()I"⟩
abbrev cX9_fault : ByteArray := prog_11_method_61_code
def yX9_fault : MethodName := ⟨RX9, "fault", "(I)I"⟩
abbrev cX9_play : ByteArray := prog_11_method_62_code
def yX9_play : MethodName := ⟨RX9, "play", "()I"⟩
def RJ6 : String := "java/lang/Integer"
def TJ6 : u_T := fun k => match k with
  | _ => ("", "", "", false)
def tyJ6 : Nat → FieldType := fun k => match k with
  | _ => .int
abbrev wsJ60 : List Cond := u_ws RJ6 TJ6 0
abbrev cJ6_bitCount_0f7a4 : ByteArray := prog_12_method_49_code
def yJ6_bitCount_0f7a4 : MethodName := ⟨RJ6, "bitCount", "(I)I"⟩
def RJ9 : String := "java/lang/Math"
def TJ9 : u_T := fun k => match k with
  | _ => ("", "", "", false)
def tyJ9 : Nat → FieldType := fun k => match k with
  | _ => .int
abbrev wsJ90 : List Cond := u_ws RJ9 TJ9 0
abbrev cJ9_max_7cf53 : ByteArray := prog_13_method_65_code
def yJ9_max_7cf53 : MethodName := ⟨RJ9, "max", "(II)I"⟩
abbrev cJ9_min_7cf53 : ByteArray := prog_13_method_69_code
def yJ9_min_7cf53 : MethodName := ⟨RJ9, "min", "(II)I"⟩
def RJ10 : String := "java/lang/System"
def TJ10 : u_T := fun k => match k with
  | _ => ("", "", "", false)
def tyJ10 : Nat → FieldType := fun k => match k with
  | _ => .int
abbrev wsJ100 : List Cond := u_ws RJ10 TJ10 0
def RL : String := "BatchCellarsLaw"
abbrev cL_law : ByteArray := code
def yL_law : MethodName := ⟨RL, "law", "([I)Z"⟩
theorem dX0_init_0 : decode cX0_init 0 = .ok (.aload_n 0, 1) := by decide +kernel
theorem dX0_init_1 : decode cX0_init 1 = .ok (.invokespecial 1, 3) := by decide +kernel
theorem dX0_init_4 : decode cX0_init 4 = .ok (.return_, 1) := by decide +kernel
theorem dX0_copyFrom_0 : decode cX0_copyFrom 0 = .ok (.aload_n 0, 1) := by decide +kernel
theorem dX0_copyFrom_1 : decode cX0_copyFrom 1 = .ok (.aload_n 1, 1) := by decide +kernel
theorem dX0_copyFrom_2 : decode cX0_copyFrom 2 = .ok (.getfield 7, 3) := by decide +kernel
theorem dX0_copyFrom_5 : decode cX0_copyFrom 5 = .ok (.putfield 7, 3) := by decide +kernel
theorem dX0_copyFrom_8 : decode cX0_copyFrom 8 = .ok (.aload_n 0, 1) := by decide +kernel
theorem dX0_copyFrom_9 : decode cX0_copyFrom 9 = .ok (.aload_n 1, 1) := by decide +kernel
theorem dX0_copyFrom_10 : decode cX0_copyFrom 10 = .ok (.getfield 13, 3) := by decide +kernel
theorem dX0_copyFrom_13 : decode cX0_copyFrom 13 = .ok (.putfield 13, 3) := by decide +kernel
theorem dX0_copyFrom_16 : decode cX0_copyFrom 16 = .ok (.aload_n 0, 1) := by decide +kernel
theorem dX0_copyFrom_17 : decode cX0_copyFrom 17 = .ok (.aload_n 1, 1) := by decide +kernel
theorem dX0_copyFrom_18 : decode cX0_copyFrom 18 = .ok (.getfield 17, 3) := by decide +kernel
theorem dX0_copyFrom_21 : decode cX0_copyFrom 21 = .ok (.putfield 17, 3) := by decide +kernel
theorem dX0_copyFrom_24 : decode cX0_copyFrom 24 = .ok (.aload_n 0, 1) := by decide +kernel
theorem dX0_copyFrom_25 : decode cX0_copyFrom 25 = .ok (.aload_n 1, 1) := by decide +kernel
theorem dX0_copyFrom_26 : decode cX0_copyFrom 26 = .ok (.getfield 20, 3) := by decide +kernel
theorem dX0_copyFrom_29 : decode cX0_copyFrom 29 = .ok (.putfield 20, 3) := by decide +kernel
theorem dX0_copyFrom_32 : decode cX0_copyFrom 32 = .ok (.aload_n 0, 1) := by decide +kernel
theorem dX0_copyFrom_33 : decode cX0_copyFrom 33 = .ok (.aload_n 1, 1) := by decide +kernel
theorem dX0_copyFrom_34 : decode cX0_copyFrom 34 = .ok (.getfield 23, 3) := by decide +kernel
theorem dX0_copyFrom_37 : decode cX0_copyFrom 37 = .ok (.putfield 23, 3) := by decide +kernel
theorem dX0_copyFrom_40 : decode cX0_copyFrom 40 = .ok (.aload_n 0, 1) := by decide +kernel
theorem dX0_copyFrom_41 : decode cX0_copyFrom 41 = .ok (.aload_n 1, 1) := by decide +kernel
theorem dX0_copyFrom_42 : decode cX0_copyFrom 42 = .ok (.getfield 26, 3) := by decide +kernel
theorem dX0_copyFrom_45 : decode cX0_copyFrom 45 = .ok (.putfield 26, 3) := by decide +kernel
theorem dX0_copyFrom_48 : decode cX0_copyFrom 48 = .ok (.aload_n 0, 1) := by decide +kernel
theorem dX0_copyFrom_49 : decode cX0_copyFrom 49 = .ok (.aload_n 1, 1) := by decide +kernel
theorem dX0_copyFrom_50 : decode cX0_copyFrom 50 = .ok (.getfield 29, 3) := by decide +kernel
theorem dX0_copyFrom_53 : decode cX0_copyFrom 53 = .ok (.putfield 29, 3) := by decide +kernel
theorem dX0_copyFrom_56 : decode cX0_copyFrom 56 = .ok (.aload_n 0, 1) := by decide +kernel
theorem dX0_copyFrom_57 : decode cX0_copyFrom 57 = .ok (.aload_n 1, 1) := by decide +kernel
theorem dX0_copyFrom_58 : decode cX0_copyFrom 58 = .ok (.getfield 32, 3) := by decide +kernel
theorem dX0_copyFrom_61 : decode cX0_copyFrom 61 = .ok (.putfield 32, 3) := by decide +kernel
theorem dX0_copyFrom_64 : decode cX0_copyFrom 64 = .ok (.aload_n 0, 1) := by decide +kernel
theorem dX0_copyFrom_65 : decode cX0_copyFrom 65 = .ok (.aload_n 1, 1) := by decide +kernel
theorem dX0_copyFrom_66 : decode cX0_copyFrom 66 = .ok (.getfield 35, 3) := by decide +kernel
theorem dX0_copyFrom_69 : decode cX0_copyFrom 69 = .ok (.putfield 35, 3) := by decide +kernel
theorem dX0_copyFrom_72 : decode cX0_copyFrom 72 = .ok (.aload_n 0, 1) := by decide +kernel
theorem dX0_copyFrom_73 : decode cX0_copyFrom 73 = .ok (.aload_n 1, 1) := by decide +kernel
theorem dX0_copyFrom_74 : decode cX0_copyFrom 74 = .ok (.getfield 38, 3) := by decide +kernel
theorem dX0_copyFrom_77 : decode cX0_copyFrom 77 = .ok (.putfield 38, 3) := by decide +kernel
theorem dX0_copyFrom_80 : decode cX0_copyFrom 80 = .ok (.aload_n 0, 1) := by decide +kernel
theorem dX0_copyFrom_81 : decode cX0_copyFrom 81 = .ok (.aload_n 1, 1) := by decide +kernel
theorem dX0_copyFrom_82 : decode cX0_copyFrom 82 = .ok (.getfield 41, 3) := by decide +kernel
theorem dX0_copyFrom_85 : decode cX0_copyFrom 85 = .ok (.putfield 41, 3) := by decide +kernel
theorem dX0_copyFrom_88 : decode cX0_copyFrom 88 = .ok (.aload_n 0, 1) := by decide +kernel
theorem dX0_copyFrom_89 : decode cX0_copyFrom 89 = .ok (.aload_n 1, 1) := by decide +kernel
theorem dX0_copyFrom_90 : decode cX0_copyFrom 90 = .ok (.getfield 44, 3) := by decide +kernel
theorem dX0_copyFrom_93 : decode cX0_copyFrom 93 = .ok (.putfield 44, 3) := by decide +kernel
theorem dX0_copyFrom_96 : decode cX0_copyFrom 96 = .ok (.aload_n 0, 1) := by decide +kernel
theorem dX0_copyFrom_97 : decode cX0_copyFrom 97 = .ok (.aload_n 1, 1) := by decide +kernel
theorem dX0_copyFrom_98 : decode cX0_copyFrom 98 = .ok (.getfield 47, 3) := by decide +kernel
theorem dX0_copyFrom_101 : decode cX0_copyFrom 101 = .ok (.putfield 47, 3) := by decide +kernel
theorem dX0_copyFrom_104 : decode cX0_copyFrom 104 = .ok (.return_, 1) := by decide +kernel
theorem dX0_start_0 : decode cX0_start 0 = .ok (.aload_n 0, 1) := by decide +kernel
theorem dX0_start_1 : decode cX0_start 1 = .ok (.iconst 1, 1) := by decide +kernel
theorem dX0_start_2 : decode cX0_start 2 = .ok (.putfield 7, 3) := by decide +kernel
theorem dX0_start_5 : decode cX0_start 5 = .ok (.aload_n 0, 1) := by decide +kernel
theorem dX0_start_6 : decode cX0_start 6 = .ok (.iload_n 1, 1) := by decide +kernel
theorem dX0_start_7 : decode cX0_start 7 = .ok (.putfield 13, 3) := by decide +kernel
theorem dX0_start_10 : decode cX0_start 10 = .ok (.aload_n 0, 1) := by decide +kernel
theorem dX0_start_11 : decode cX0_start 11 = .ok (.iload_n 2, 1) := by decide +kernel
theorem dX0_start_12 : decode cX0_start 12 = .ok (.putfield 17, 3) := by decide +kernel
theorem dX0_start_15 : decode cX0_start 15 = .ok (.aload_n 0, 1) := by decide +kernel
theorem dX0_start_16 : decode cX0_start 16 = .ok (.iload_n 3, 1) := by decide +kernel
theorem dX0_start_17 : decode cX0_start 17 = .ok (.putfield 20, 3) := by decide +kernel
theorem dX0_start_20 : decode cX0_start 20 = .ok (.aload_n 0, 1) := by decide +kernel
theorem dX0_start_21 : decode cX0_start 21 = .ok (.iload_n 3, 1) := by decide +kernel
theorem dX0_start_22 : decode cX0_start 22 = .ok (.putfield 23, 3) := by decide +kernel
theorem dX0_start_25 : decode cX0_start 25 = .ok (.aload_n 0, 1) := by decide +kernel
theorem dX0_start_26 : decode cX0_start 26 = .ok (.iconst 0, 1) := by decide +kernel
theorem dX0_start_27 : decode cX0_start 27 = .ok (.putfield 26, 3) := by decide +kernel
theorem dX0_start_30 : decode cX0_start 30 = .ok (.aload_n 0, 1) := by decide +kernel
theorem dX0_start_31 : decode cX0_start 31 = .ok (.iconst 0, 1) := by decide +kernel
theorem dX0_start_32 : decode cX0_start 32 = .ok (.putfield 29, 3) := by decide +kernel
theorem dX0_start_35 : decode cX0_start 35 = .ok (.return_, 1) := by decide +kernel
theorem dX0_enter_0 : decode cX0_enter 0 = .ok (.aload_n 0, 1) := by decide +kernel
theorem dX0_enter_1 : decode cX0_enter 1 = .ok (.iload_n 1, 1) := by decide +kernel
theorem dX0_enter_2 : decode cX0_enter 2 = .ok (.putfield 32, 3) := by decide +kernel
theorem dX0_enter_5 : decode cX0_enter 5 = .ok (.aload_n 0, 1) := by decide +kernel
theorem dX0_enter_6 : decode cX0_enter 6 = .ok (.iload_n 3, 1) := by decide +kernel
theorem dX0_enter_7 : decode cX0_enter 7 = .ok (.putfield 35, 3) := by decide +kernel
theorem dX0_enter_10 : decode cX0_enter 10 = .ok (.aload_n 0, 1) := by decide +kernel
theorem dX0_enter_11 : decode cX0_enter 11 = .ok (.iload 4, 2) := by decide +kernel
theorem dX0_enter_13 : decode cX0_enter 13 = .ok (.putfield 38, 3) := by decide +kernel
theorem dX0_enter_16 : decode cX0_enter 16 = .ok (.aload_n 0, 1) := by decide +kernel
theorem dX0_enter_17 : decode cX0_enter 17 = .ok (.iload 4, 2) := by decide +kernel
theorem dX0_enter_19 : decode cX0_enter 19 = .ok (.aload_n 2, 1) := by decide +kernel
theorem dX0_enter_20 : decode cX0_enter 20 = .ok (.getfield 50, 3) := by decide +kernel
theorem dX0_enter_23 : decode cX0_enter 23 = .ok (.iadd, 1) := by decide +kernel
theorem dX0_enter_24 : decode cX0_enter 24 = .ok (.putfield 41, 3) := by decide +kernel
theorem dX0_enter_27 : decode cX0_enter 27 = .ok (.aload_n 0, 1) := by decide +kernel
theorem dX0_enter_28 : decode cX0_enter 28 = .ok (.aload_n 0, 1) := by decide +kernel
theorem dX0_enter_29 : decode cX0_enter 29 = .ok (.getfield 41, 3) := by decide +kernel
theorem dX0_enter_32 : decode cX0_enter 32 = .ok (.aload_n 2, 1) := by decide +kernel
theorem dX0_enter_33 : decode cX0_enter 33 = .ok (.getfield 55, 3) := by decide +kernel
theorem dX0_enter_36 : decode cX0_enter 36 = .ok (.iadd, 1) := by decide +kernel
theorem dX0_enter_37 : decode cX0_enter 37 = .ok (.putfield 44, 3) := by decide +kernel
theorem dX0_enter_40 : decode cX0_enter 40 = .ok (.aload_n 0, 1) := by decide +kernel
theorem dX0_enter_41 : decode cX0_enter 41 = .ok (.aload_n 0, 1) := by decide +kernel
theorem dX0_enter_42 : decode cX0_enter 42 = .ok (.getfield 41, 3) := by decide +kernel
theorem dX0_enter_45 : decode cX0_enter 45 = .ok (.aload_n 2, 1) := by decide +kernel
theorem dX0_enter_46 : decode cX0_enter 46 = .ok (.getfield 58, 3) := by decide +kernel
theorem dX0_enter_49 : decode cX0_enter 49 = .ok (.iadd, 1) := by decide +kernel
theorem dX0_enter_50 : decode cX0_enter 50 = .ok (.putfield 47, 3) := by decide +kernel
theorem dX0_enter_53 : decode cX0_enter 53 = .ok (.return_, 1) := by decide +kernel
theorem dX0_isRipe_0 : decode cX0_isRipe 0 = .ok (.iload_n 1, 1) := by decide +kernel
theorem dX0_isRipe_1 : decode cX0_isRipe 1 = .ok (.aload_n 0, 1) := by decide +kernel
theorem dX0_isRipe_2 : decode cX0_isRipe 2 = .ok (.getfield 44, 3) := by decide +kernel
theorem dX0_isRipe_5 : decode cX0_isRipe 5 = .ok (.if_icmp .lt 7, 3) := by decide +kernel
theorem dX0_isRipe_8 : decode cX0_isRipe 8 = .ok (.iconst 1, 1) := by decide +kernel
theorem dX0_isRipe_9 : decode cX0_isRipe 9 = .ok (.goto 4, 3) := by decide +kernel
theorem dX0_isRipe_12 : decode cX0_isRipe 12 = .ok (.iconst 0, 1) := by decide +kernel
theorem dX0_isRipe_13 : decode cX0_isRipe 13 = .ok (.ireturn, 1) := by decide +kernel
theorem dX0_detail_0 : decode cX0_detail 0 = .ok (.iload_n 1, 1) := by decide +kernel
theorem dX0_detail_1 : decode cX0_detail 1 = .ok (.tableswitch 128 0 9 #[55, 60, 65, 70, 75, 80, 91, 105, 118, 123], 55) := by decide +kernel
theorem dX0_detail_56 : decode cX0_detail 56 = .ok (.aload_n 0, 1) := by decide +kernel
theorem dX0_detail_57 : decode cX0_detail 57 = .ok (.getfield 13, 3) := by decide +kernel
theorem dX0_detail_60 : decode cX0_detail 60 = .ok (.ireturn, 1) := by decide +kernel
theorem dX0_detail_61 : decode cX0_detail 61 = .ok (.aload_n 0, 1) := by decide +kernel
theorem dX0_detail_62 : decode cX0_detail 62 = .ok (.getfield 23, 3) := by decide +kernel
theorem dX0_detail_65 : decode cX0_detail 65 = .ok (.ireturn, 1) := by decide +kernel
theorem dX0_detail_66 : decode cX0_detail 66 = .ok (.aload_n 0, 1) := by decide +kernel
theorem dX0_detail_67 : decode cX0_detail 67 = .ok (.getfield 32, 3) := by decide +kernel
theorem dX0_detail_70 : decode cX0_detail 70 = .ok (.ireturn, 1) := by decide +kernel
theorem dX0_detail_71 : decode cX0_detail 71 = .ok (.aload_n 0, 1) := by decide +kernel
theorem dX0_detail_72 : decode cX0_detail 72 = .ok (.getfield 35, 3) := by decide +kernel
theorem dX0_detail_75 : decode cX0_detail 75 = .ok (.ireturn, 1) := by decide +kernel
theorem dX0_detail_76 : decode cX0_detail 76 = .ok (.aload_n 0, 1) := by decide +kernel
theorem dX0_detail_77 : decode cX0_detail 77 = .ok (.getfield 38, 3) := by decide +kernel
theorem dX0_detail_80 : decode cX0_detail 80 = .ok (.ireturn, 1) := by decide +kernel
theorem dX0_detail_81 : decode cX0_detail 81 = .ok (.iconst 0, 1) := by decide +kernel
theorem dX0_detail_82 : decode cX0_detail 82 = .ok (.iload_n 2, 1) := by decide +kernel
theorem dX0_detail_83 : decode cX0_detail 83 = .ok (.aload_n 0, 1) := by decide +kernel
theorem dX0_detail_84 : decode cX0_detail 84 = .ok (.getfield 41, 3) := by decide +kernel
theorem dX0_detail_87 : decode cX0_detail 87 = .ok (.isub, 1) := by decide +kernel
theorem dX0_detail_88 : decode cX0_detail 88 = .ok (.invokestatic 61, 3) := by decide +kernel
theorem dX0_detail_91 : decode cX0_detail 91 = .ok (.ireturn, 1) := by decide +kernel
theorem dX0_detail_92 : decode cX0_detail 92 = .ok (.aload_n 0, 1) := by decide +kernel
theorem dX0_detail_93 : decode cX0_detail 93 = .ok (.iload_n 2, 1) := by decide +kernel
theorem dX0_detail_94 : decode cX0_detail 94 = .ok (.invokevirtual 67, 3) := by decide +kernel
theorem dX0_detail_97 : decode cX0_detail 97 = .ok (.ifCond .eq 7, 3) := by decide +kernel
theorem dX0_detail_100 : decode cX0_detail 100 = .ok (.iconst 1, 1) := by decide +kernel
theorem dX0_detail_101 : decode cX0_detail 101 = .ok (.goto 4, 3) := by decide +kernel
theorem dX0_detail_104 : decode cX0_detail 104 = .ok (.iconst 0, 1) := by decide +kernel
theorem dX0_detail_105 : decode cX0_detail 105 = .ok (.ireturn, 1) := by decide +kernel
theorem dX0_detail_106 : decode cX0_detail 106 = .ok (.aload_n 0, 1) := by decide +kernel
theorem dX0_detail_107 : decode cX0_detail 107 = .ok (.getfield 29, 3) := by decide +kernel
theorem dX0_detail_110 : decode cX0_detail 110 = .ok (.ifCond .eq 7, 3) := by decide +kernel
theorem dX0_detail_113 : decode cX0_detail 113 = .ok (.iconst 1, 1) := by decide +kernel
theorem dX0_detail_114 : decode cX0_detail 114 = .ok (.goto 4, 3) := by decide +kernel
theorem dX0_detail_117 : decode cX0_detail 117 = .ok (.iconst 0, 1) := by decide +kernel
theorem dX0_detail_118 : decode cX0_detail 118 = .ok (.ireturn, 1) := by decide +kernel
theorem dX0_detail_119 : decode cX0_detail 119 = .ok (.aload_n 0, 1) := by decide +kernel
theorem dX0_detail_120 : decode cX0_detail 120 = .ok (.getfield 26, 3) := by decide +kernel
theorem dX0_detail_123 : decode cX0_detail 123 = .ok (.ireturn, 1) := by decide +kernel
theorem dX0_detail_124 : decode cX0_detail 124 = .ok (.aload_n 0, 1) := by decide +kernel
theorem dX0_detail_125 : decode cX0_detail 125 = .ok (.getfield 44, 3) := by decide +kernel
theorem dX0_detail_128 : decode cX0_detail 128 = .ok (.ireturn, 1) := by decide +kernel
theorem dX0_detail_129 : decode cX0_detail 129 = .ok (.aload_n 0, 1) := by decide +kernel
theorem dX0_detail_130 : decode cX0_detail 130 = .ok (.getfield 47, 3) := by decide +kernel
theorem dX0_detail_133 : decode cX0_detail 133 = .ok (.ireturn, 1) := by decide +kernel
theorem dX1_init_0 : decode cX1_init 0 = .ok (.aload_n 0, 1) := by decide +kernel
theorem dX1_init_1 : decode cX1_init 1 = .ok (.invokespecial 3, 3) := by decide +kernel
theorem dX1_init_4 : decode cX1_init 4 = .ok (.aload_n 0, 1) := by decide +kernel
theorem dX1_init_5 : decode cX1_init 5 = .ok (.iconst 5, 1) := by decide +kernel
theorem dX1_init_6 : decode cX1_init 6 = .ok (.anewarray 9, 3) := by decide +kernel
theorem dX1_init_9 : decode cX1_init 9 = .ok (.putfield 11, 3) := by decide +kernel
theorem dX1_init_12 : decode cX1_init 12 = .ok (.iconst 0, 1) := by decide +kernel
theorem dX1_init_13 : decode cX1_init 13 = .ok (.istore_n 1, 1) := by decide +kernel
theorem dX1_init_14 : decode cX1_init 14 = .ok (.iload_n 1, 1) := by decide +kernel
theorem dX1_init_15 : decode cX1_init 15 = .ok (.aload_n 0, 1) := by decide +kernel
theorem dX1_init_16 : decode cX1_init 16 = .ok (.getfield 11, 3) := by decide +kernel
theorem dX1_init_19 : decode cX1_init 19 = .ok (.arraylength, 1) := by decide +kernel
theorem dX1_init_20 : decode cX1_init 20 = .ok (.if_icmp .ge 22, 3) := by decide +kernel
theorem dX1_init_23 : decode cX1_init 23 = .ok (.aload_n 0, 1) := by decide +kernel
theorem dX1_init_24 : decode cX1_init 24 = .ok (.getfield 11, 3) := by decide +kernel
theorem dX1_init_27 : decode cX1_init 27 = .ok (.iload_n 1, 1) := by decide +kernel
theorem dX1_init_28 : decode cX1_init 28 = .ok (.new 9, 3) := by decide +kernel
theorem dX1_init_31 : decode cX1_init 31 = .ok (.dup, 1) := by decide +kernel
theorem dX1_init_32 : decode cX1_init 32 = .ok (.invokespecial 17, 3) := by decide +kernel
theorem dX1_init_35 : decode cX1_init 35 = .ok (.aastore, 1) := by decide +kernel
theorem dX1_init_36 : decode cX1_init 36 = .ok (.iinc 1 1, 3) := by decide +kernel
theorem dX1_init_39 : decode cX1_init 39 = .ok (.goto (-25), 3) := by decide +kernel
theorem dX1_init_42 : decode cX1_init 42 = .ok (.return_, 1) := by decide +kernel
theorem dX1_prepare_0 : decode cX1_prepare 0 = .ok (.aload_n 0, 1) := by decide +kernel
theorem dX1_prepare_1 : decode cX1_prepare 1 = .ok (.getfield 18, 3) := by decide +kernel
theorem dX1_prepare_4 : decode cX1_prepare 4 = .ok (.ifCond .lt 28, 3) := by decide +kernel
theorem dX1_prepare_7 : decode cX1_prepare 7 = .ok (.aload_n 0, 1) := by decide +kernel
theorem dX1_prepare_8 : decode cX1_prepare 8 = .ok (.getfield 18, 3) := by decide +kernel
theorem dX1_prepare_11 : decode cX1_prepare 11 = .ok (.aload_n 0, 1) := by decide +kernel
theorem dX1_prepare_12 : decode cX1_prepare 12 = .ok (.getfield 11, 3) := by decide +kernel
theorem dX1_prepare_15 : decode cX1_prepare 15 = .ok (.arraylength, 1) := by decide +kernel
theorem dX1_prepare_16 : decode cX1_prepare 16 = .ok (.if_icmp .ge 16, 3) := by decide +kernel
theorem dX1_prepare_19 : decode cX1_prepare 19 = .ok (.aload_n 0, 1) := by decide +kernel
theorem dX1_prepare_20 : decode cX1_prepare 20 = .ok (.getfield 11, 3) := by decide +kernel
theorem dX1_prepare_23 : decode cX1_prepare 23 = .ok (.aload_n 0, 1) := by decide +kernel
theorem dX1_prepare_24 : decode cX1_prepare 24 = .ok (.getfield 18, 3) := by decide +kernel
theorem dX1_prepare_27 : decode cX1_prepare 27 = .ok (.aaload, 1) := by decide +kernel
theorem dX1_prepare_28 : decode cX1_prepare 28 = .ok (.aload_n 1, 1) := by decide +kernel
theorem dX1_prepare_29 : decode cX1_prepare 29 = .ok (.invokevirtual 22, 3) := by decide +kernel
theorem dX1_prepare_32 : decode cX1_prepare 32 = .ok (.return_, 1) := by decide +kernel
theorem dX1_settle_0 : decode cX1_settle 0 = .ok (.iload_n 1, 1) := by decide +kernel
theorem dX1_settle_1 : decode cX1_settle 1 = .ok (.ifCond .lt 45, 3) := by decide +kernel
theorem dX1_settle_4 : decode cX1_settle 4 = .ok (.aload_n 0, 1) := by decide +kernel
theorem dX1_settle_5 : decode cX1_settle 5 = .ok (.aload_n 0, 1) := by decide +kernel
theorem dX1_settle_6 : decode cX1_settle 6 = .ok (.getfield 18, 3) := by decide +kernel
theorem dX1_settle_9 : decode cX1_settle 9 = .ok (.iconst 1, 1) := by decide +kernel
theorem dX1_settle_10 : decode cX1_settle 10 = .ok (.iadd, 1) := by decide +kernel
theorem dX1_settle_11 : decode cX1_settle 11 = .ok (.aload_n 0, 1) := by decide +kernel
theorem dX1_settle_12 : decode cX1_settle 12 = .ok (.getfield 11, 3) := by decide +kernel
theorem dX1_settle_15 : decode cX1_settle 15 = .ok (.arraylength, 1) := by decide +kernel
theorem dX1_settle_16 : decode cX1_settle 16 = .ok (.if_icmp .ge 12, 3) := by decide +kernel
theorem dX1_settle_19 : decode cX1_settle 19 = .ok (.aload_n 0, 1) := by decide +kernel
theorem dX1_settle_20 : decode cX1_settle 20 = .ok (.getfield 18, 3) := by decide +kernel
theorem dX1_settle_23 : decode cX1_settle 23 = .ok (.iconst 1, 1) := by decide +kernel
theorem dX1_settle_24 : decode cX1_settle 24 = .ok (.iadd, 1) := by decide +kernel
theorem dX1_settle_25 : decode cX1_settle 25 = .ok (.goto 4, 3) := by decide +kernel
theorem dX1_settle_28 : decode cX1_settle 28 = .ok (.iconst 0, 1) := by decide +kernel
theorem dX1_settle_29 : decode cX1_settle 29 = .ok (.putfield 18, 3) := by decide +kernel
theorem dX1_settle_32 : decode cX1_settle 32 = .ok (.aload_n 0, 1) := by decide +kernel
theorem dX1_settle_33 : decode cX1_settle 33 = .ok (.aload_n 0, 1) := by decide +kernel
theorem dX1_settle_34 : decode cX1_settle 34 = .ok (.getfield 26, 3) := by decide +kernel
theorem dX1_settle_37 : decode cX1_settle 37 = .ok (.iconst 1, 1) := by decide +kernel
theorem dX1_settle_38 : decode cX1_settle 38 = .ok (.iadd, 1) := by decide +kernel
theorem dX1_settle_39 : decode cX1_settle 39 = .ok (.iconst 4, 1) := by decide +kernel
theorem dX1_settle_40 : decode cX1_settle 40 = .ok (.invokestatic 29, 3) := by decide +kernel
theorem dX1_settle_43 : decode cX1_settle 43 = .ok (.putfield 26, 3) := by decide +kernel
theorem dX1_settle_46 : decode cX1_settle 46 = .ok (.iload_n 1, 1) := by decide +kernel
theorem dX1_settle_47 : decode cX1_settle 47 = .ok (.ireturn, 1) := by decide +kernel
theorem dX1_restore_0 : decode cX1_restore 0 = .ok (.aload_n 0, 1) := by decide +kernel
theorem dX1_restore_1 : decode cX1_restore 1 = .ok (.getfield 26, 3) := by decide +kernel
theorem dX1_restore_4 : decode cX1_restore 4 = .ok (.ifCond .ne 6, 3) := by decide +kernel
theorem dX1_restore_7 : decode cX1_restore 7 = .ok (.bipush (-2), 2) := by decide +kernel
theorem dX1_restore_9 : decode cX1_restore 9 = .ok (.ireturn, 1) := by decide +kernel
theorem dX1_restore_10 : decode cX1_restore 10 = .ok (.aload_n 0, 1) := by decide +kernel
theorem dX1_restore_11 : decode cX1_restore 11 = .ok (.dup, 1) := by decide +kernel
theorem dX1_restore_12 : decode cX1_restore 12 = .ok (.getfield 26, 3) := by decide +kernel
theorem dX1_restore_15 : decode cX1_restore 15 = .ok (.iconst 1, 1) := by decide +kernel
theorem dX1_restore_16 : decode cX1_restore 16 = .ok (.isub, 1) := by decide +kernel
theorem dX1_restore_17 : decode cX1_restore 17 = .ok (.putfield 26, 3) := by decide +kernel
theorem dX1_restore_20 : decode cX1_restore 20 = .ok (.aload_n 0, 1) := by decide +kernel
theorem dX1_restore_21 : decode cX1_restore 21 = .ok (.aload_n 0, 1) := by decide +kernel
theorem dX1_restore_22 : decode cX1_restore 22 = .ok (.getfield 18, 3) := by decide +kernel
theorem dX1_restore_25 : decode cX1_restore 25 = .ok (.ifCond .le 12, 3) := by decide +kernel
theorem dX1_restore_28 : decode cX1_restore 28 = .ok (.aload_n 0, 1) := by decide +kernel
theorem dX1_restore_29 : decode cX1_restore 29 = .ok (.getfield 18, 3) := by decide +kernel
theorem dX1_restore_32 : decode cX1_restore 32 = .ok (.iconst 1, 1) := by decide +kernel
theorem dX1_restore_33 : decode cX1_restore 33 = .ok (.isub, 1) := by decide +kernel
theorem dX1_restore_34 : decode cX1_restore 34 = .ok (.goto 10, 3) := by decide +kernel
theorem dX1_restore_37 : decode cX1_restore 37 = .ok (.aload_n 0, 1) := by decide +kernel
theorem dX1_restore_38 : decode cX1_restore 38 = .ok (.getfield 11, 3) := by decide +kernel
theorem dX1_restore_41 : decode cX1_restore 41 = .ok (.arraylength, 1) := by decide +kernel
theorem dX1_restore_42 : decode cX1_restore 42 = .ok (.iconst 1, 1) := by decide +kernel
theorem dX1_restore_43 : decode cX1_restore 43 = .ok (.isub, 1) := by decide +kernel
theorem dX1_restore_44 : decode cX1_restore 44 = .ok (.putfield 18, 3) := by decide +kernel
theorem dX1_restore_47 : decode cX1_restore 47 = .ok (.aload_n 0, 1) := by decide +kernel
theorem dX1_restore_48 : decode cX1_restore 48 = .ok (.getfield 18, 3) := by decide +kernel
theorem dX1_restore_51 : decode cX1_restore 51 = .ok (.ifCond .lt 28, 3) := by decide +kernel
theorem dX1_restore_54 : decode cX1_restore 54 = .ok (.aload_n 0, 1) := by decide +kernel
theorem dX1_restore_55 : decode cX1_restore 55 = .ok (.getfield 18, 3) := by decide +kernel
theorem dX1_restore_58 : decode cX1_restore 58 = .ok (.aload_n 0, 1) := by decide +kernel
theorem dX1_restore_59 : decode cX1_restore 59 = .ok (.getfield 11, 3) := by decide +kernel
theorem dX1_restore_62 : decode cX1_restore 62 = .ok (.arraylength, 1) := by decide +kernel
theorem dX1_restore_63 : decode cX1_restore 63 = .ok (.if_icmp .ge 16, 3) := by decide +kernel
theorem dX1_restore_66 : decode cX1_restore 66 = .ok (.aload_n 1, 1) := by decide +kernel
theorem dX1_restore_67 : decode cX1_restore 67 = .ok (.aload_n 0, 1) := by decide +kernel
theorem dX1_restore_68 : decode cX1_restore 68 = .ok (.getfield 11, 3) := by decide +kernel
theorem dX1_restore_71 : decode cX1_restore 71 = .ok (.aload_n 0, 1) := by decide +kernel
theorem dX1_restore_72 : decode cX1_restore 72 = .ok (.getfield 18, 3) := by decide +kernel
theorem dX1_restore_75 : decode cX1_restore 75 = .ok (.aaload, 1) := by decide +kernel
theorem dX1_restore_76 : decode cX1_restore 76 = .ok (.invokevirtual 22, 3) := by decide +kernel
theorem dX1_restore_79 : decode cX1_restore 79 = .ok (.aload_n 0, 1) := by decide +kernel
theorem dX1_restore_80 : decode cX1_restore 80 = .ok (.getfield 26, 3) := by decide +kernel
theorem dX1_restore_83 : decode cX1_restore 83 = .ok (.ireturn, 1) := by decide +kernel
theorem dX2_init_0 : decode cX2_init 0 = .ok (.aload_n 0, 1) := by decide +kernel
theorem dX2_init_1 : decode cX2_init 1 = .ok (.invokespecial 1, 3) := by decide +kernel
theorem dX2_init_4 : decode cX2_init 4 = .ok (.return_, 1) := by decide +kernel
theorem dX2_copyFrom_0 : decode cX2_copyFrom 0 = .ok (.aload_n 0, 1) := by decide +kernel
theorem dX2_copyFrom_1 : decode cX2_copyFrom 1 = .ok (.aload_n 1, 1) := by decide +kernel
theorem dX2_copyFrom_2 : decode cX2_copyFrom 2 = .ok (.getfield 7, 3) := by decide +kernel
theorem dX2_copyFrom_5 : decode cX2_copyFrom 5 = .ok (.putfield 7, 3) := by decide +kernel
theorem dX2_copyFrom_8 : decode cX2_copyFrom 8 = .ok (.aload_n 0, 1) := by decide +kernel
theorem dX2_copyFrom_9 : decode cX2_copyFrom 9 = .ok (.aload_n 1, 1) := by decide +kernel
theorem dX2_copyFrom_10 : decode cX2_copyFrom 10 = .ok (.getfield 13, 3) := by decide +kernel
theorem dX2_copyFrom_13 : decode cX2_copyFrom 13 = .ok (.putfield 13, 3) := by decide +kernel
theorem dX2_copyFrom_16 : decode cX2_copyFrom 16 = .ok (.aload_n 0, 1) := by decide +kernel
theorem dX2_copyFrom_17 : decode cX2_copyFrom 17 = .ok (.aload_n 1, 1) := by decide +kernel
theorem dX2_copyFrom_18 : decode cX2_copyFrom 18 = .ok (.getfield 16, 3) := by decide +kernel
theorem dX2_copyFrom_21 : decode cX2_copyFrom 21 = .ok (.putfield 16, 3) := by decide +kernel
theorem dX2_copyFrom_24 : decode cX2_copyFrom 24 = .ok (.aload_n 0, 1) := by decide +kernel
theorem dX2_copyFrom_25 : decode cX2_copyFrom 25 = .ok (.aload_n 1, 1) := by decide +kernel
theorem dX2_copyFrom_26 : decode cX2_copyFrom 26 = .ok (.getfield 19, 3) := by decide +kernel
theorem dX2_copyFrom_29 : decode cX2_copyFrom 29 = .ok (.putfield 19, 3) := by decide +kernel
theorem dX2_copyFrom_32 : decode cX2_copyFrom 32 = .ok (.return_, 1) := by decide +kernel
theorem dX2_isFree_0 : decode cX2_isFree 0 = .ok (.aload_n 0, 1) := by decide +kernel
theorem dX2_isFree_1 : decode cX2_isFree 1 = .ok (.getfield 16, 3) := by decide +kernel
theorem dX2_isFree_4 : decode cX2_isFree 4 = .ok (.iload_n 1, 1) := by decide +kernel
theorem dX2_isFree_5 : decode cX2_isFree 5 = .ok (.if_icmp .gt 7, 3) := by decide +kernel
theorem dX2_isFree_8 : decode cX2_isFree 8 = .ok (.iconst 1, 1) := by decide +kernel
theorem dX2_isFree_9 : decode cX2_isFree 9 = .ok (.goto 4, 3) := by decide +kernel
theorem dX2_isFree_12 : decode cX2_isFree 12 = .ok (.iconst 0, 1) := by decide +kernel
theorem dX2_isFree_13 : decode cX2_isFree 13 = .ok (.ireturn, 1) := by decide +kernel
theorem dX2_joins_0 : decode cX2_joins 0 = .ok (.iconst 1, 1) := by decide +kernel
theorem dX2_joins_1 : decode cX2_joins 1 = .ok (.iload_n 1, 1) := by decide +kernel
theorem dX2_joins_2 : decode cX2_joins 2 = .ok (.ishl, 1) := by decide +kernel
theorem dX2_joins_3 : decode cX2_joins 3 = .ok (.iconst 1, 1) := by decide +kernel
theorem dX2_joins_4 : decode cX2_joins 4 = .ok (.iload_n 2, 1) := by decide +kernel
theorem dX2_joins_5 : decode cX2_joins 5 = .ok (.ishl, 1) := by decide +kernel
theorem dX2_joins_6 : decode cX2_joins 6 = .ok (.ior, 1) := by decide +kernel
theorem dX2_joins_7 : decode cX2_joins 7 = .ok (.istore_n 3, 1) := by decide +kernel
theorem dX2_joins_8 : decode cX2_joins 8 = .ok (.aload_n 0, 1) := by decide +kernel
theorem dX2_joins_9 : decode cX2_joins 9 = .ok (.getfield 7, 3) := by decide +kernel
theorem dX2_joins_12 : decode cX2_joins 12 = .ok (.iload_n 3, 1) := by decide +kernel
theorem dX2_joins_13 : decode cX2_joins 13 = .ok (.iand, 1) := by decide +kernel
theorem dX2_joins_14 : decode cX2_joins 14 = .ok (.iload_n 3, 1) := by decide +kernel
theorem dX2_joins_15 : decode cX2_joins 15 = .ok (.if_icmp .ne 7, 3) := by decide +kernel
theorem dX2_joins_18 : decode cX2_joins 18 = .ok (.iconst 1, 1) := by decide +kernel
theorem dX2_joins_19 : decode cX2_joins 19 = .ok (.goto 4, 3) := by decide +kernel
theorem dX2_joins_22 : decode cX2_joins 22 = .ok (.iconst 0, 1) := by decide +kernel
theorem dX2_joins_23 : decode cX2_joins 23 = .ok (.ireturn, 1) := by decide +kernel
theorem dX2_minutesFor_0 : decode cX2_minutesFor 0 = .ok (.aload_n 0, 1) := by decide +kernel
theorem dX2_minutesFor_1 : decode cX2_minutesFor 1 = .ok (.getfield 13, 3) := by decide +kernel
theorem dX2_minutesFor_4 : decode cX2_minutesFor 4 = .ok (.iconst 1, 1) := by decide +kernel
theorem dX2_minutesFor_5 : decode cX2_minutesFor 5 = .ok (.if_icmp .ge 7, 3) := by decide +kernel
theorem dX2_minutesFor_8 : decode cX2_minutesFor 8 = .ok (.iconst 0, 1) := by decide +kernel
theorem dX2_minutesFor_9 : decode cX2_minutesFor 9 = .ok (.goto 16, 3) := by decide +kernel
theorem dX2_minutesFor_12 : decode cX2_minutesFor 12 = .ok (.iload_n 1, 1) := by decide +kernel
theorem dX2_minutesFor_13 : decode cX2_minutesFor 13 = .ok (.aload_n 0, 1) := by decide +kernel
theorem dX2_minutesFor_14 : decode cX2_minutesFor 14 = .ok (.getfield 13, 3) := by decide +kernel
theorem dX2_minutesFor_17 : decode cX2_minutesFor 17 = .ok (.iadd, 1) := by decide +kernel
theorem dX2_minutesFor_18 : decode cX2_minutesFor 18 = .ok (.iconst 1, 1) := by decide +kernel
theorem dX2_minutesFor_19 : decode cX2_minutesFor 19 = .ok (.isub, 1) := by decide +kernel
theorem dX2_minutesFor_20 : decode cX2_minutesFor 20 = .ok (.aload_n 0, 1) := by decide +kernel
theorem dX2_minutesFor_21 : decode cX2_minutesFor 21 = .ok (.getfield 13, 3) := by decide +kernel
theorem dX2_minutesFor_24 : decode cX2_minutesFor 24 = .ok (.idiv, 1) := by decide +kernel
theorem dX2_minutesFor_25 : decode cX2_minutesFor 25 = .ok (.ireturn, 1) := by decide +kernel
theorem dX2_detail_0 : decode cX2_detail 0 = .ok (.iload_n 1, 1) := by decide +kernel
theorem dX2_detail_1 : decode cX2_detail 1 = .ok (.tableswitch 48 0 2 #[27, 32, 37], 27) := by decide +kernel
theorem dX2_detail_28 : decode cX2_detail 28 = .ok (.aload_n 0, 1) := by decide +kernel
theorem dX2_detail_29 : decode cX2_detail 29 = .ok (.getfield 7, 3) := by decide +kernel
theorem dX2_detail_32 : decode cX2_detail 32 = .ok (.ireturn, 1) := by decide +kernel
theorem dX2_detail_33 : decode cX2_detail 33 = .ok (.aload_n 0, 1) := by decide +kernel
theorem dX2_detail_34 : decode cX2_detail 34 = .ok (.getfield 13, 3) := by decide +kernel
theorem dX2_detail_37 : decode cX2_detail 37 = .ok (.ireturn, 1) := by decide +kernel
theorem dX2_detail_38 : decode cX2_detail 38 = .ok (.iconst 0, 1) := by decide +kernel
theorem dX2_detail_39 : decode cX2_detail 39 = .ok (.aload_n 0, 1) := by decide +kernel
theorem dX2_detail_40 : decode cX2_detail 40 = .ok (.getfield 16, 3) := by decide +kernel
theorem dX2_detail_43 : decode cX2_detail 43 = .ok (.iload_n 2, 1) := by decide +kernel
theorem dX2_detail_44 : decode cX2_detail 44 = .ok (.isub, 1) := by decide +kernel
theorem dX2_detail_45 : decode cX2_detail 45 = .ok (.invokestatic 22, 3) := by decide +kernel
theorem dX2_detail_48 : decode cX2_detail 48 = .ok (.ireturn, 1) := by decide +kernel
theorem dX2_detail_49 : decode cX2_detail 49 = .ok (.aload_n 0, 1) := by decide +kernel
theorem dX2_detail_50 : decode cX2_detail 50 = .ok (.getfield 19, 3) := by decide +kernel
theorem dX2_detail_53 : decode cX2_detail 53 = .ok (.ireturn, 1) := by decide +kernel
theorem dX3_init_0 : decode cX3_init 0 = .ok (.aload_n 0, 1) := by decide +kernel
theorem dX3_init_1 : decode cX3_init 1 = .ok (.invokespecial 3, 3) := by decide +kernel
theorem dX3_init_4 : decode cX3_init 4 = .ok (.aload_n 0, 1) := by decide +kernel
theorem dX3_init_5 : decode cX3_init 5 = .ok (.iconst 4, 1) := by decide +kernel
theorem dX3_init_6 : decode cX3_init 6 = .ok (.anewarray 9, 3) := by decide +kernel
theorem dX3_init_9 : decode cX3_init 9 = .ok (.putfield 11, 3) := by decide +kernel
theorem dX3_init_12 : decode cX3_init 12 = .ok (.aload_n 0, 1) := by decide +kernel
theorem dX3_init_13 : decode cX3_init 13 = .ok (.bipush 6, 2) := by decide +kernel
theorem dX3_init_15 : decode cX3_init 15 = .ok (.anewarray 17, 3) := by decide +kernel
theorem dX3_init_18 : decode cX3_init 18 = .ok (.putfield 19, 3) := by decide +kernel
theorem dX3_init_21 : decode cX3_init 21 = .ok (.aload_n 0, 1) := by decide +kernel
theorem dX3_init_22 : decode cX3_init 22 = .ok (.iconst 3, 1) := by decide +kernel
theorem dX3_init_23 : decode cX3_init 23 = .ok (.anewarray 23, 3) := by decide +kernel
theorem dX3_init_26 : decode cX3_init 26 = .ok (.putfield 25, 3) := by decide +kernel
theorem dX3_init_29 : decode cX3_init 29 = .ok (.aload_n 0, 1) := by decide +kernel
theorem dX3_init_30 : decode cX3_init 30 = .ok (.bipush 6, 2) := by decide +kernel
theorem dX3_init_32 : decode cX3_init 32 = .ok (.anewarray 29, 3) := by decide +kernel
theorem dX3_init_35 : decode cX3_init 35 = .ok (.putfield 31, 3) := by decide +kernel
theorem dX3_init_38 : decode cX3_init 38 = .ok (.aload_n 0, 1) := by decide +kernel
theorem dX3_init_39 : decode cX3_init 39 = .ok (.bipush 16, 2) := by decide +kernel
theorem dX3_init_41 : decode cX3_init 41 = .ok (.newarray .int, 2) := by decide +kernel
theorem dX3_init_43 : decode cX3_init 43 = .ok (.putfield 35, 3) := by decide +kernel
theorem dX3_init_46 : decode cX3_init 46 = .ok (.aload_n 0, 1) := by decide +kernel
theorem dX3_init_47 : decode cX3_init 47 = .ok (.iconst 2, 1) := by decide +kernel
theorem dX3_init_48 : decode cX3_init 48 = .ok (.newarray .int, 2) := by decide +kernel
theorem dX3_init_50 : decode cX3_init 50 = .ok (.putfield 39, 3) := by decide +kernel
theorem dX3_init_53 : decode cX3_init 53 = .ok (.aload_n 0, 1) := by decide +kernel
theorem dX3_init_54 : decode cX3_init 54 = .ok (.iconst 4, 1) := by decide +kernel
theorem dX3_init_55 : decode cX3_init 55 = .ok (.newarray .int, 2) := by decide +kernel
theorem dX3_init_57 : decode cX3_init 57 = .ok (.putfield 42, 3) := by decide +kernel
theorem dX3_init_60 : decode cX3_init 60 = .ok (.iconst 0, 1) := by decide +kernel
theorem dX3_init_61 : decode cX3_init 61 = .ok (.istore_n 1, 1) := by decide +kernel
theorem dX3_init_62 : decode cX3_init 62 = .ok (.iload_n 1, 1) := by decide +kernel
theorem dX3_init_63 : decode cX3_init 63 = .ok (.aload_n 0, 1) := by decide +kernel
theorem dX3_init_64 : decode cX3_init 64 = .ok (.getfield 11, 3) := by decide +kernel
theorem dX3_init_67 : decode cX3_init 67 = .ok (.arraylength, 1) := by decide +kernel
theorem dX3_init_68 : decode cX3_init 68 = .ok (.if_icmp .ge 22, 3) := by decide +kernel
theorem dX3_init_71 : decode cX3_init 71 = .ok (.aload_n 0, 1) := by decide +kernel
theorem dX3_init_72 : decode cX3_init 72 = .ok (.getfield 11, 3) := by decide +kernel
theorem dX3_init_75 : decode cX3_init 75 = .ok (.iload_n 1, 1) := by decide +kernel
theorem dX3_init_76 : decode cX3_init 76 = .ok (.new 9, 3) := by decide +kernel
theorem dX3_init_79 : decode cX3_init 79 = .ok (.dup, 1) := by decide +kernel
theorem dX3_init_80 : decode cX3_init 80 = .ok (.invokespecial 45, 3) := by decide +kernel
theorem dX3_init_83 : decode cX3_init 83 = .ok (.aastore, 1) := by decide +kernel
theorem dX3_init_84 : decode cX3_init 84 = .ok (.iinc 1 1, 3) := by decide +kernel
theorem dX3_init_87 : decode cX3_init 87 = .ok (.goto (-25), 3) := by decide +kernel
theorem dX3_init_90 : decode cX3_init 90 = .ok (.iconst 0, 1) := by decide +kernel
theorem dX3_init_91 : decode cX3_init 91 = .ok (.istore_n 1, 1) := by decide +kernel
theorem dX3_init_92 : decode cX3_init 92 = .ok (.iload_n 1, 1) := by decide +kernel
theorem dX3_init_93 : decode cX3_init 93 = .ok (.aload_n 0, 1) := by decide +kernel
theorem dX3_init_94 : decode cX3_init 94 = .ok (.getfield 19, 3) := by decide +kernel
theorem dX3_init_97 : decode cX3_init 97 = .ok (.arraylength, 1) := by decide +kernel
theorem dX3_init_98 : decode cX3_init 98 = .ok (.if_icmp .ge 22, 3) := by decide +kernel
theorem dX3_init_101 : decode cX3_init 101 = .ok (.aload_n 0, 1) := by decide +kernel
theorem dX3_init_102 : decode cX3_init 102 = .ok (.getfield 19, 3) := by decide +kernel
theorem dX3_init_105 : decode cX3_init 105 = .ok (.iload_n 1, 1) := by decide +kernel
theorem dX3_init_106 : decode cX3_init 106 = .ok (.new 17, 3) := by decide +kernel
theorem dX3_init_109 : decode cX3_init 109 = .ok (.dup, 1) := by decide +kernel
theorem dX3_init_110 : decode cX3_init 110 = .ok (.invokespecial 46, 3) := by decide +kernel
theorem dX3_init_113 : decode cX3_init 113 = .ok (.aastore, 1) := by decide +kernel
theorem dX3_init_114 : decode cX3_init 114 = .ok (.iinc 1 1, 3) := by decide +kernel
theorem dX3_init_117 : decode cX3_init 117 = .ok (.goto (-25), 3) := by decide +kernel
theorem dX3_init_120 : decode cX3_init 120 = .ok (.iconst 0, 1) := by decide +kernel
theorem dX3_init_121 : decode cX3_init 121 = .ok (.istore_n 1, 1) := by decide +kernel
theorem dX3_init_122 : decode cX3_init 122 = .ok (.iload_n 1, 1) := by decide +kernel
theorem dX3_init_123 : decode cX3_init 123 = .ok (.aload_n 0, 1) := by decide +kernel
theorem dX3_init_124 : decode cX3_init 124 = .ok (.getfield 25, 3) := by decide +kernel
theorem dX3_init_127 : decode cX3_init 127 = .ok (.arraylength, 1) := by decide +kernel
theorem dX3_init_128 : decode cX3_init 128 = .ok (.if_icmp .ge 22, 3) := by decide +kernel
theorem dX3_init_131 : decode cX3_init 131 = .ok (.aload_n 0, 1) := by decide +kernel
theorem dX3_init_132 : decode cX3_init 132 = .ok (.getfield 25, 3) := by decide +kernel
theorem dX3_init_135 : decode cX3_init 135 = .ok (.iload_n 1, 1) := by decide +kernel
theorem dX3_init_136 : decode cX3_init 136 = .ok (.new 23, 3) := by decide +kernel
theorem dX3_init_139 : decode cX3_init 139 = .ok (.dup, 1) := by decide +kernel
theorem dX3_init_140 : decode cX3_init 140 = .ok (.invokespecial 47, 3) := by decide +kernel
theorem dX3_init_143 : decode cX3_init 143 = .ok (.aastore, 1) := by decide +kernel
theorem dX3_init_144 : decode cX3_init 144 = .ok (.iinc 1 1, 3) := by decide +kernel
theorem dX3_init_147 : decode cX3_init 147 = .ok (.goto (-25), 3) := by decide +kernel
theorem dX3_init_150 : decode cX3_init 150 = .ok (.iconst 0, 1) := by decide +kernel
theorem dX3_init_151 : decode cX3_init 151 = .ok (.istore_n 1, 1) := by decide +kernel
theorem dX3_init_152 : decode cX3_init 152 = .ok (.iload_n 1, 1) := by decide +kernel
theorem dX3_init_153 : decode cX3_init 153 = .ok (.aload_n 0, 1) := by decide +kernel
theorem dX3_init_154 : decode cX3_init 154 = .ok (.getfield 31, 3) := by decide +kernel
theorem dX3_init_157 : decode cX3_init 157 = .ok (.arraylength, 1) := by decide +kernel
theorem dX3_init_158 : decode cX3_init 158 = .ok (.if_icmp .ge 22, 3) := by decide +kernel
theorem dX3_init_161 : decode cX3_init 161 = .ok (.aload_n 0, 1) := by decide +kernel
theorem dX3_init_162 : decode cX3_init 162 = .ok (.getfield 31, 3) := by decide +kernel
theorem dX3_init_165 : decode cX3_init 165 = .ok (.iload_n 1, 1) := by decide +kernel
theorem dX3_init_166 : decode cX3_init 166 = .ok (.new 29, 3) := by decide +kernel
theorem dX3_init_169 : decode cX3_init 169 = .ok (.dup, 1) := by decide +kernel
theorem dX3_init_170 : decode cX3_init 170 = .ok (.invokespecial 48, 3) := by decide +kernel
theorem dX3_init_173 : decode cX3_init 173 = .ok (.aastore, 1) := by decide +kernel
theorem dX3_init_174 : decode cX3_init 174 = .ok (.iinc 1 1, 3) := by decide +kernel
theorem dX3_init_177 : decode cX3_init 177 = .ok (.goto (-25), 3) := by decide +kernel
theorem dX3_init_180 : decode cX3_init 180 = .ok (.iconst 0, 1) := by decide +kernel
theorem dX3_init_181 : decode cX3_init 181 = .ok (.istore_n 1, 1) := by decide +kernel
theorem dX3_init_182 : decode cX3_init 182 = .ok (.iload_n 1, 1) := by decide +kernel
theorem dX3_init_183 : decode cX3_init 183 = .ok (.aload_n 0, 1) := by decide +kernel
theorem dX3_init_184 : decode cX3_init 184 = .ok (.getfield 35, 3) := by decide +kernel
theorem dX3_init_187 : decode cX3_init 187 = .ok (.arraylength, 1) := by decide +kernel
theorem dX3_init_188 : decode cX3_init 188 = .ok (.if_icmp .ge 29, 3) := by decide +kernel
theorem dX3_init_191 : decode cX3_init 191 = .ok (.aload_n 0, 1) := by decide +kernel
theorem dX3_init_192 : decode cX3_init 192 = .ok (.getfield 35, 3) := by decide +kernel
theorem dX3_init_195 : decode cX3_init 195 = .ok (.iload_n 1, 1) := by decide +kernel
theorem dX3_init_196 : decode cX3_init 196 = .ok (.iload_n 1, 1) := by decide +kernel
theorem dX3_init_197 : decode cX3_init 197 = .ok (.iconst 4, 1) := by decide +kernel
theorem dX3_init_198 : decode cX3_init 198 = .ok (.idiv, 1) := by decide +kernel
theorem dX3_init_199 : decode cX3_init 199 = .ok (.iload_n 1, 1) := by decide +kernel
theorem dX3_init_200 : decode cX3_init 200 = .ok (.iconst 4, 1) := by decide +kernel
theorem dX3_init_201 : decode cX3_init 201 = .ok (.irem, 1) := by decide +kernel
theorem dX3_init_202 : decode cX3_init 202 = .ok (.if_icmp .ne 7, 3) := by decide +kernel
theorem dX3_init_205 : decode cX3_init 205 = .ok (.iconst 0, 1) := by decide +kernel
theorem dX3_init_206 : decode cX3_init 206 = .ok (.goto 4, 3) := by decide +kernel
theorem dX3_init_209 : decode cX3_init 209 = .ok (.iconst 5, 1) := by decide +kernel
theorem dX3_init_210 : decode cX3_init 210 = .ok (.iastore, 1) := by decide +kernel
theorem dX3_init_211 : decode cX3_init 211 = .ok (.iinc 1 1, 3) := by decide +kernel
theorem dX3_init_214 : decode cX3_init 214 = .ok (.goto (-32), 3) := by decide +kernel
theorem dX3_init_217 : decode cX3_init 217 = .ok (.aload_n 0, 1) := by decide +kernel
theorem dX3_init_218 : decode cX3_init 218 = .ok (.getfield 39, 3) := by decide +kernel
theorem dX3_init_221 : decode cX3_init 221 = .ok (.iconst 0, 1) := by decide +kernel
theorem dX3_init_222 : decode cX3_init 222 = .ok (.bipush 10, 2) := by decide +kernel
theorem dX3_init_224 : decode cX3_init 224 = .ok (.invokestatic 49, 3) := by decide +kernel
theorem dX3_init_227 : decode cX3_init 227 = .ok (.aload_n 0, 1) := by decide +kernel
theorem dX3_init_228 : decode cX3_init 228 = .ok (.getfield 39, 3) := by decide +kernel
theorem dX3_init_231 : decode cX3_init 231 = .ok (.iconst 1, 1) := by decide +kernel
theorem dX3_init_232 : decode cX3_init 232 = .ok (.bipush 10, 2) := by decide +kernel
theorem dX3_init_234 : decode cX3_init 234 = .ok (.invokestatic 49, 3) := by decide +kernel
theorem dX3_init_237 : decode cX3_init 237 = .ok (.return_, 1) := by decide +kernel
theorem dX3_copyFrom_0 : decode cX3_copyFrom 0 = .ok (.aload_n 0, 1) := by decide +kernel
theorem dX3_copyFrom_1 : decode cX3_copyFrom 1 = .ok (.aload_n 1, 1) := by decide +kernel
theorem dX3_copyFrom_2 : decode cX3_copyFrom 2 = .ok (.invokevirtual 53, 3) := by decide +kernel
theorem dX3_copyFrom_5 : decode cX3_copyFrom 5 = .ok (.aload_n 1, 1) := by decide +kernel
theorem dX3_copyFrom_6 : decode cX3_copyFrom 6 = .ok (.getfield 35, 3) := by decide +kernel
theorem dX3_copyFrom_9 : decode cX3_copyFrom 9 = .ok (.aload_n 0, 1) := by decide +kernel
theorem dX3_copyFrom_10 : decode cX3_copyFrom 10 = .ok (.getfield 35, 3) := by decide +kernel
theorem dX3_copyFrom_13 : decode cX3_copyFrom 13 = .ok (.invokestatic 57, 3) := by decide +kernel
theorem dX3_copyFrom_16 : decode cX3_copyFrom 16 = .ok (.aload_n 1, 1) := by decide +kernel
theorem dX3_copyFrom_17 : decode cX3_copyFrom 17 = .ok (.getfield 39, 3) := by decide +kernel
theorem dX3_copyFrom_20 : decode cX3_copyFrom 20 = .ok (.aload_n 0, 1) := by decide +kernel
theorem dX3_copyFrom_21 : decode cX3_copyFrom 21 = .ok (.getfield 39, 3) := by decide +kernel
theorem dX3_copyFrom_24 : decode cX3_copyFrom 24 = .ok (.invokestatic 57, 3) := by decide +kernel
theorem dX3_copyFrom_27 : decode cX3_copyFrom 27 = .ok (.aload_n 1, 1) := by decide +kernel
theorem dX3_copyFrom_28 : decode cX3_copyFrom 28 = .ok (.getfield 42, 3) := by decide +kernel
theorem dX3_copyFrom_31 : decode cX3_copyFrom 31 = .ok (.aload_n 0, 1) := by decide +kernel
theorem dX3_copyFrom_32 : decode cX3_copyFrom 32 = .ok (.getfield 42, 3) := by decide +kernel
theorem dX3_copyFrom_35 : decode cX3_copyFrom 35 = .ok (.invokestatic 57, 3) := by decide +kernel
theorem dX3_copyFrom_38 : decode cX3_copyFrom 38 = .ok (.aload_n 0, 1) := by decide +kernel
theorem dX3_copyFrom_39 : decode cX3_copyFrom 39 = .ok (.aload_n 1, 1) := by decide +kernel
theorem dX3_copyFrom_40 : decode cX3_copyFrom 40 = .ok (.getfield 61, 3) := by decide +kernel
theorem dX3_copyFrom_43 : decode cX3_copyFrom 43 = .ok (.putfield 61, 3) := by decide +kernel
theorem dX3_copyFrom_46 : decode cX3_copyFrom 46 = .ok (.aload_n 0, 1) := by decide +kernel
theorem dX3_copyFrom_47 : decode cX3_copyFrom 47 = .ok (.aload_n 1, 1) := by decide +kernel
theorem dX3_copyFrom_48 : decode cX3_copyFrom 48 = .ok (.getfield 65, 3) := by decide +kernel
theorem dX3_copyFrom_51 : decode cX3_copyFrom 51 = .ok (.putfield 65, 3) := by decide +kernel
theorem dX3_copyFrom_54 : decode cX3_copyFrom 54 = .ok (.aload_n 0, 1) := by decide +kernel
theorem dX3_copyFrom_55 : decode cX3_copyFrom 55 = .ok (.aload_n 1, 1) := by decide +kernel
theorem dX3_copyFrom_56 : decode cX3_copyFrom 56 = .ok (.getfield 68, 3) := by decide +kernel
theorem dX3_copyFrom_59 : decode cX3_copyFrom 59 = .ok (.putfield 68, 3) := by decide +kernel
theorem dX3_copyFrom_62 : decode cX3_copyFrom 62 = .ok (.aload_n 0, 1) := by decide +kernel
theorem dX3_copyFrom_63 : decode cX3_copyFrom 63 = .ok (.aload_n 1, 1) := by decide +kernel
theorem dX3_copyFrom_64 : decode cX3_copyFrom 64 = .ok (.getfield 71, 3) := by decide +kernel
theorem dX3_copyFrom_67 : decode cX3_copyFrom 67 = .ok (.putfield 71, 3) := by decide +kernel
theorem dX3_copyFrom_70 : decode cX3_copyFrom 70 = .ok (.aload_n 0, 1) := by decide +kernel
theorem dX3_copyFrom_71 : decode cX3_copyFrom 71 = .ok (.aload_n 1, 1) := by decide +kernel
theorem dX3_copyFrom_72 : decode cX3_copyFrom 72 = .ok (.getfield 74, 3) := by decide +kernel
theorem dX3_copyFrom_75 : decode cX3_copyFrom 75 = .ok (.putfield 74, 3) := by decide +kernel
theorem dX3_copyFrom_78 : decode cX3_copyFrom 78 = .ok (.aload_n 0, 1) := by decide +kernel
theorem dX3_copyFrom_79 : decode cX3_copyFrom 79 = .ok (.aload_n 1, 1) := by decide +kernel
theorem dX3_copyFrom_80 : decode cX3_copyFrom 80 = .ok (.getfield 77, 3) := by decide +kernel
theorem dX3_copyFrom_83 : decode cX3_copyFrom 83 = .ok (.putfield 77, 3) := by decide +kernel
theorem dX3_copyFrom_86 : decode cX3_copyFrom 86 = .ok (.aload_n 0, 1) := by decide +kernel
theorem dX3_copyFrom_87 : decode cX3_copyFrom 87 = .ok (.aload_n 1, 1) := by decide +kernel
theorem dX3_copyFrom_88 : decode cX3_copyFrom 88 = .ok (.getfield 80, 3) := by decide +kernel
theorem dX3_copyFrom_91 : decode cX3_copyFrom 91 = .ok (.putfield 80, 3) := by decide +kernel
theorem dX3_copyFrom_94 : decode cX3_copyFrom 94 = .ok (.aload_n 0, 1) := by decide +kernel
theorem dX3_copyFrom_95 : decode cX3_copyFrom 95 = .ok (.aload_n 1, 1) := by decide +kernel
theorem dX3_copyFrom_96 : decode cX3_copyFrom 96 = .ok (.getfield 83, 3) := by decide +kernel
theorem dX3_copyFrom_99 : decode cX3_copyFrom 99 = .ok (.putfield 83, 3) := by decide +kernel
theorem dX3_copyFrom_102 : decode cX3_copyFrom 102 = .ok (.aload_n 0, 1) := by decide +kernel
theorem dX3_copyFrom_103 : decode cX3_copyFrom 103 = .ok (.aload_n 1, 1) := by decide +kernel
theorem dX3_copyFrom_104 : decode cX3_copyFrom 104 = .ok (.getfield 86, 3) := by decide +kernel
theorem dX3_copyFrom_107 : decode cX3_copyFrom 107 = .ok (.putfield 86, 3) := by decide +kernel
theorem dX3_copyFrom_110 : decode cX3_copyFrom 110 = .ok (.return_, 1) := by decide +kernel
theorem dX3_copyParts_0 : decode cX3_copyParts 0 = .ok (.iconst 0, 1) := by decide +kernel
theorem dX3_copyParts_1 : decode cX3_copyParts 1 = .ok (.istore_n 2, 1) := by decide +kernel
theorem dX3_copyParts_2 : decode cX3_copyParts 2 = .ok (.iload_n 2, 1) := by decide +kernel
theorem dX3_copyParts_3 : decode cX3_copyParts 3 = .ok (.aload_n 0, 1) := by decide +kernel
theorem dX3_copyParts_4 : decode cX3_copyParts 4 = .ok (.getfield 11, 3) := by decide +kernel
theorem dX3_copyParts_7 : decode cX3_copyParts 7 = .ok (.arraylength, 1) := by decide +kernel
theorem dX3_copyParts_8 : decode cX3_copyParts 8 = .ok (.if_icmp .ge 33, 3) := by decide +kernel
theorem dX3_copyParts_11 : decode cX3_copyParts 11 = .ok (.iload_n 2, 1) := by decide +kernel
theorem dX3_copyParts_12 : decode cX3_copyParts 12 = .ok (.aload_n 1, 1) := by decide +kernel
theorem dX3_copyParts_13 : decode cX3_copyParts 13 = .ok (.getfield 11, 3) := by decide +kernel
theorem dX3_copyParts_16 : decode cX3_copyParts 16 = .ok (.arraylength, 1) := by decide +kernel
theorem dX3_copyParts_17 : decode cX3_copyParts 17 = .ok (.if_icmp .ge 24, 3) := by decide +kernel
theorem dX3_copyParts_20 : decode cX3_copyParts 20 = .ok (.aload_n 0, 1) := by decide +kernel
theorem dX3_copyParts_21 : decode cX3_copyParts 21 = .ok (.getfield 11, 3) := by decide +kernel
theorem dX3_copyParts_24 : decode cX3_copyParts 24 = .ok (.iload_n 2, 1) := by decide +kernel
theorem dX3_copyParts_25 : decode cX3_copyParts 25 = .ok (.aaload, 1) := by decide +kernel
theorem dX3_copyParts_26 : decode cX3_copyParts 26 = .ok (.aload_n 1, 1) := by decide +kernel
theorem dX3_copyParts_27 : decode cX3_copyParts 27 = .ok (.getfield 11, 3) := by decide +kernel
theorem dX3_copyParts_30 : decode cX3_copyParts 30 = .ok (.iload_n 2, 1) := by decide +kernel
theorem dX3_copyParts_31 : decode cX3_copyParts 31 = .ok (.aaload, 1) := by decide +kernel
theorem dX3_copyParts_32 : decode cX3_copyParts 32 = .ok (.invokevirtual 89, 3) := by decide +kernel
theorem dX3_copyParts_35 : decode cX3_copyParts 35 = .ok (.iinc 2 1, 3) := by decide +kernel
theorem dX3_copyParts_38 : decode cX3_copyParts 38 = .ok (.goto (-36), 3) := by decide +kernel
theorem dX3_copyParts_41 : decode cX3_copyParts 41 = .ok (.iconst 0, 1) := by decide +kernel
theorem dX3_copyParts_42 : decode cX3_copyParts 42 = .ok (.istore_n 2, 1) := by decide +kernel
theorem dX3_copyParts_43 : decode cX3_copyParts 43 = .ok (.iload_n 2, 1) := by decide +kernel
theorem dX3_copyParts_44 : decode cX3_copyParts 44 = .ok (.aload_n 0, 1) := by decide +kernel
theorem dX3_copyParts_45 : decode cX3_copyParts 45 = .ok (.getfield 19, 3) := by decide +kernel
theorem dX3_copyParts_48 : decode cX3_copyParts 48 = .ok (.arraylength, 1) := by decide +kernel
theorem dX3_copyParts_49 : decode cX3_copyParts 49 = .ok (.if_icmp .ge 33, 3) := by decide +kernel
theorem dX3_copyParts_52 : decode cX3_copyParts 52 = .ok (.iload_n 2, 1) := by decide +kernel
theorem dX3_copyParts_53 : decode cX3_copyParts 53 = .ok (.aload_n 1, 1) := by decide +kernel
theorem dX3_copyParts_54 : decode cX3_copyParts 54 = .ok (.getfield 19, 3) := by decide +kernel
theorem dX3_copyParts_57 : decode cX3_copyParts 57 = .ok (.arraylength, 1) := by decide +kernel
theorem dX3_copyParts_58 : decode cX3_copyParts 58 = .ok (.if_icmp .ge 24, 3) := by decide +kernel
theorem dX3_copyParts_61 : decode cX3_copyParts 61 = .ok (.aload_n 0, 1) := by decide +kernel
theorem dX3_copyParts_62 : decode cX3_copyParts 62 = .ok (.getfield 19, 3) := by decide +kernel
theorem dX3_copyParts_65 : decode cX3_copyParts 65 = .ok (.iload_n 2, 1) := by decide +kernel
theorem dX3_copyParts_66 : decode cX3_copyParts 66 = .ok (.aaload, 1) := by decide +kernel
theorem dX3_copyParts_67 : decode cX3_copyParts 67 = .ok (.aload_n 1, 1) := by decide +kernel
theorem dX3_copyParts_68 : decode cX3_copyParts 68 = .ok (.getfield 19, 3) := by decide +kernel
theorem dX3_copyParts_71 : decode cX3_copyParts 71 = .ok (.iload_n 2, 1) := by decide +kernel
theorem dX3_copyParts_72 : decode cX3_copyParts 72 = .ok (.aaload, 1) := by decide +kernel
theorem dX3_copyParts_73 : decode cX3_copyParts 73 = .ok (.invokevirtual 93, 3) := by decide +kernel
theorem dX3_copyParts_76 : decode cX3_copyParts 76 = .ok (.iinc 2 1, 3) := by decide +kernel
theorem dX3_copyParts_79 : decode cX3_copyParts 79 = .ok (.goto (-36), 3) := by decide +kernel
theorem dX3_copyParts_82 : decode cX3_copyParts 82 = .ok (.iconst 0, 1) := by decide +kernel
theorem dX3_copyParts_83 : decode cX3_copyParts 83 = .ok (.istore_n 2, 1) := by decide +kernel
theorem dX3_copyParts_84 : decode cX3_copyParts 84 = .ok (.iload_n 2, 1) := by decide +kernel
theorem dX3_copyParts_85 : decode cX3_copyParts 85 = .ok (.aload_n 0, 1) := by decide +kernel
theorem dX3_copyParts_86 : decode cX3_copyParts 86 = .ok (.getfield 25, 3) := by decide +kernel
theorem dX3_copyParts_89 : decode cX3_copyParts 89 = .ok (.arraylength, 1) := by decide +kernel
theorem dX3_copyParts_90 : decode cX3_copyParts 90 = .ok (.if_icmp .ge 33, 3) := by decide +kernel
theorem dX3_copyParts_93 : decode cX3_copyParts 93 = .ok (.iload_n 2, 1) := by decide +kernel
theorem dX3_copyParts_94 : decode cX3_copyParts 94 = .ok (.aload_n 1, 1) := by decide +kernel
theorem dX3_copyParts_95 : decode cX3_copyParts 95 = .ok (.getfield 25, 3) := by decide +kernel
theorem dX3_copyParts_98 : decode cX3_copyParts 98 = .ok (.arraylength, 1) := by decide +kernel
theorem dX3_copyParts_99 : decode cX3_copyParts 99 = .ok (.if_icmp .ge 24, 3) := by decide +kernel
theorem dX3_copyParts_102 : decode cX3_copyParts 102 = .ok (.aload_n 0, 1) := by decide +kernel
theorem dX3_copyParts_103 : decode cX3_copyParts 103 = .ok (.getfield 25, 3) := by decide +kernel
theorem dX3_copyParts_106 : decode cX3_copyParts 106 = .ok (.iload_n 2, 1) := by decide +kernel
theorem dX3_copyParts_107 : decode cX3_copyParts 107 = .ok (.aaload, 1) := by decide +kernel
theorem dX3_copyParts_108 : decode cX3_copyParts 108 = .ok (.aload_n 1, 1) := by decide +kernel
theorem dX3_copyParts_109 : decode cX3_copyParts 109 = .ok (.getfield 25, 3) := by decide +kernel
theorem dX3_copyParts_112 : decode cX3_copyParts 112 = .ok (.iload_n 2, 1) := by decide +kernel
theorem dX3_copyParts_113 : decode cX3_copyParts 113 = .ok (.aaload, 1) := by decide +kernel
theorem dX3_copyParts_114 : decode cX3_copyParts 114 = .ok (.invokevirtual 96, 3) := by decide +kernel
theorem dX3_copyParts_117 : decode cX3_copyParts 117 = .ok (.iinc 2 1, 3) := by decide +kernel
theorem dX3_copyParts_120 : decode cX3_copyParts 120 = .ok (.goto (-36), 3) := by decide +kernel
theorem dX3_copyParts_123 : decode cX3_copyParts 123 = .ok (.iconst 0, 1) := by decide +kernel
theorem dX3_copyParts_124 : decode cX3_copyParts 124 = .ok (.istore_n 2, 1) := by decide +kernel
theorem dX3_copyParts_125 : decode cX3_copyParts 125 = .ok (.iload_n 2, 1) := by decide +kernel
theorem dX3_copyParts_126 : decode cX3_copyParts 126 = .ok (.aload_n 0, 1) := by decide +kernel
theorem dX3_copyParts_127 : decode cX3_copyParts 127 = .ok (.getfield 31, 3) := by decide +kernel
theorem dX3_copyParts_130 : decode cX3_copyParts 130 = .ok (.arraylength, 1) := by decide +kernel
theorem dX3_copyParts_131 : decode cX3_copyParts 131 = .ok (.if_icmp .ge 33, 3) := by decide +kernel
theorem dX3_copyParts_134 : decode cX3_copyParts 134 = .ok (.iload_n 2, 1) := by decide +kernel
theorem dX3_copyParts_135 : decode cX3_copyParts 135 = .ok (.aload_n 1, 1) := by decide +kernel
theorem dX3_copyParts_136 : decode cX3_copyParts 136 = .ok (.getfield 31, 3) := by decide +kernel
theorem dX3_copyParts_139 : decode cX3_copyParts 139 = .ok (.arraylength, 1) := by decide +kernel
theorem dX3_copyParts_140 : decode cX3_copyParts 140 = .ok (.if_icmp .ge 24, 3) := by decide +kernel
theorem dX3_copyParts_143 : decode cX3_copyParts 143 = .ok (.aload_n 0, 1) := by decide +kernel
theorem dX3_copyParts_144 : decode cX3_copyParts 144 = .ok (.getfield 31, 3) := by decide +kernel
theorem dX3_copyParts_147 : decode cX3_copyParts 147 = .ok (.iload_n 2, 1) := by decide +kernel
theorem dX3_copyParts_148 : decode cX3_copyParts 148 = .ok (.aaload, 1) := by decide +kernel
theorem dX3_copyParts_149 : decode cX3_copyParts 149 = .ok (.aload_n 1, 1) := by decide +kernel
theorem dX3_copyParts_150 : decode cX3_copyParts 150 = .ok (.getfield 31, 3) := by decide +kernel
theorem dX3_copyParts_153 : decode cX3_copyParts 153 = .ok (.iload_n 2, 1) := by decide +kernel
theorem dX3_copyParts_154 : decode cX3_copyParts 154 = .ok (.aaload, 1) := by decide +kernel
theorem dX3_copyParts_155 : decode cX3_copyParts 155 = .ok (.invokevirtual 99, 3) := by decide +kernel
theorem dX3_copyParts_158 : decode cX3_copyParts 158 = .ok (.iinc 2 1, 3) := by decide +kernel
theorem dX3_copyParts_161 : decode cX3_copyParts 161 = .ok (.goto (-36), 3) := by decide +kernel
theorem dX3_copyParts_164 : decode cX3_copyParts 164 = .ok (.return_, 1) := by decide +kernel
theorem dX3_recipeAt_0 : decode cX3_recipeAt 0 = .ok (.iload_n 1, 1) := by decide +kernel
theorem dX3_recipeAt_1 : decode cX3_recipeAt 1 = .ok (.ifCond .lt 24, 3) := by decide +kernel
theorem dX3_recipeAt_4 : decode cX3_recipeAt 4 = .ok (.iload_n 1, 1) := by decide +kernel
theorem dX3_recipeAt_5 : decode cX3_recipeAt 5 = .ok (.aload_n 0, 1) := by decide +kernel
theorem dX3_recipeAt_6 : decode cX3_recipeAt 6 = .ok (.getfield 61, 3) := by decide +kernel
theorem dX3_recipeAt_9 : decode cX3_recipeAt 9 = .ok (.if_icmp .ge 16, 3) := by decide +kernel
theorem dX3_recipeAt_12 : decode cX3_recipeAt 12 = .ok (.iload_n 1, 1) := by decide +kernel
theorem dX3_recipeAt_13 : decode cX3_recipeAt 13 = .ok (.aload_n 0, 1) := by decide +kernel
theorem dX3_recipeAt_14 : decode cX3_recipeAt 14 = .ok (.getfield 11, 3) := by decide +kernel
theorem dX3_recipeAt_17 : decode cX3_recipeAt 17 = .ok (.arraylength, 1) := by decide +kernel
theorem dX3_recipeAt_18 : decode cX3_recipeAt 18 = .ok (.if_icmp .ge 7, 3) := by decide +kernel
theorem dX3_recipeAt_21 : decode cX3_recipeAt 21 = .ok (.iconst 1, 1) := by decide +kernel
theorem dX3_recipeAt_22 : decode cX3_recipeAt 22 = .ok (.goto 4, 3) := by decide +kernel
theorem dX3_recipeAt_25 : decode cX3_recipeAt 25 = .ok (.iconst 0, 1) := by decide +kernel
theorem dX3_recipeAt_26 : decode cX3_recipeAt 26 = .ok (.istore_n 2, 1) := by decide +kernel
theorem dX3_recipeAt_27 : decode cX3_recipeAt 27 = .ok (.iload_n 2, 1) := by decide +kernel
theorem dX3_recipeAt_28 : decode cX3_recipeAt 28 = .ok (.ifCond .eq 12, 3) := by decide +kernel
theorem dX3_recipeAt_31 : decode cX3_recipeAt 31 = .ok (.aload_n 0, 1) := by decide +kernel
theorem dX3_recipeAt_32 : decode cX3_recipeAt 32 = .ok (.getfield 11, 3) := by decide +kernel
theorem dX3_recipeAt_35 : decode cX3_recipeAt 35 = .ok (.iload_n 1, 1) := by decide +kernel
theorem dX3_recipeAt_36 : decode cX3_recipeAt 36 = .ok (.aaload, 1) := by decide +kernel
theorem dX3_recipeAt_37 : decode cX3_recipeAt 37 = .ok (.goto 4, 3) := by decide +kernel
theorem dX3_recipeAt_40 : decode cX3_recipeAt 40 = .ok (.aconst_null, 1) := by decide +kernel
theorem dX3_recipeAt_41 : decode cX3_recipeAt 41 = .ok (.areturn, 1) := by decide +kernel
theorem dX3_vesselAt_0 : decode cX3_vesselAt 0 = .ok (.iload_n 1, 1) := by decide +kernel
theorem dX3_vesselAt_1 : decode cX3_vesselAt 1 = .ok (.ifCond .lt 24, 3) := by decide +kernel
theorem dX3_vesselAt_4 : decode cX3_vesselAt 4 = .ok (.iload_n 1, 1) := by decide +kernel
theorem dX3_vesselAt_5 : decode cX3_vesselAt 5 = .ok (.aload_n 0, 1) := by decide +kernel
theorem dX3_vesselAt_6 : decode cX3_vesselAt 6 = .ok (.getfield 65, 3) := by decide +kernel
theorem dX3_vesselAt_9 : decode cX3_vesselAt 9 = .ok (.if_icmp .ge 16, 3) := by decide +kernel
theorem dX3_vesselAt_12 : decode cX3_vesselAt 12 = .ok (.iload_n 1, 1) := by decide +kernel
theorem dX3_vesselAt_13 : decode cX3_vesselAt 13 = .ok (.aload_n 0, 1) := by decide +kernel
theorem dX3_vesselAt_14 : decode cX3_vesselAt 14 = .ok (.getfield 19, 3) := by decide +kernel
theorem dX3_vesselAt_17 : decode cX3_vesselAt 17 = .ok (.arraylength, 1) := by decide +kernel
theorem dX3_vesselAt_18 : decode cX3_vesselAt 18 = .ok (.if_icmp .ge 7, 3) := by decide +kernel
theorem dX3_vesselAt_21 : decode cX3_vesselAt 21 = .ok (.iconst 1, 1) := by decide +kernel
theorem dX3_vesselAt_22 : decode cX3_vesselAt 22 = .ok (.goto 4, 3) := by decide +kernel
theorem dX3_vesselAt_25 : decode cX3_vesselAt 25 = .ok (.iconst 0, 1) := by decide +kernel
theorem dX3_vesselAt_26 : decode cX3_vesselAt 26 = .ok (.istore_n 2, 1) := by decide +kernel
theorem dX3_vesselAt_27 : decode cX3_vesselAt 27 = .ok (.iload_n 2, 1) := by decide +kernel
theorem dX3_vesselAt_28 : decode cX3_vesselAt 28 = .ok (.ifCond .eq 12, 3) := by decide +kernel
theorem dX3_vesselAt_31 : decode cX3_vesselAt 31 = .ok (.aload_n 0, 1) := by decide +kernel
theorem dX3_vesselAt_32 : decode cX3_vesselAt 32 = .ok (.getfield 19, 3) := by decide +kernel
theorem dX3_vesselAt_35 : decode cX3_vesselAt 35 = .ok (.iload_n 1, 1) := by decide +kernel
theorem dX3_vesselAt_36 : decode cX3_vesselAt 36 = .ok (.aaload, 1) := by decide +kernel
theorem dX3_vesselAt_37 : decode cX3_vesselAt 37 = .ok (.goto 4, 3) := by decide +kernel
theorem dX3_vesselAt_40 : decode cX3_vesselAt 40 = .ok (.aconst_null, 1) := by decide +kernel
theorem dX3_vesselAt_41 : decode cX3_vesselAt 41 = .ok (.areturn, 1) := by decide +kernel
theorem dX3_lineAt_0 : decode cX3_lineAt 0 = .ok (.iload_n 1, 1) := by decide +kernel
theorem dX3_lineAt_1 : decode cX3_lineAt 1 = .ok (.ifCond .lt 24, 3) := by decide +kernel
theorem dX3_lineAt_4 : decode cX3_lineAt 4 = .ok (.iload_n 1, 1) := by decide +kernel
theorem dX3_lineAt_5 : decode cX3_lineAt 5 = .ok (.aload_n 0, 1) := by decide +kernel
theorem dX3_lineAt_6 : decode cX3_lineAt 6 = .ok (.getfield 68, 3) := by decide +kernel
theorem dX3_lineAt_9 : decode cX3_lineAt 9 = .ok (.if_icmp .ge 16, 3) := by decide +kernel
theorem dX3_lineAt_12 : decode cX3_lineAt 12 = .ok (.iload_n 1, 1) := by decide +kernel
theorem dX3_lineAt_13 : decode cX3_lineAt 13 = .ok (.aload_n 0, 1) := by decide +kernel
theorem dX3_lineAt_14 : decode cX3_lineAt 14 = .ok (.getfield 25, 3) := by decide +kernel
theorem dX3_lineAt_17 : decode cX3_lineAt 17 = .ok (.arraylength, 1) := by decide +kernel
theorem dX3_lineAt_18 : decode cX3_lineAt 18 = .ok (.if_icmp .ge 7, 3) := by decide +kernel
theorem dX3_lineAt_21 : decode cX3_lineAt 21 = .ok (.iconst 1, 1) := by decide +kernel
theorem dX3_lineAt_22 : decode cX3_lineAt 22 = .ok (.goto 4, 3) := by decide +kernel
theorem dX3_lineAt_25 : decode cX3_lineAt 25 = .ok (.iconst 0, 1) := by decide +kernel
theorem dX3_lineAt_26 : decode cX3_lineAt 26 = .ok (.istore_n 2, 1) := by decide +kernel
theorem dX3_lineAt_27 : decode cX3_lineAt 27 = .ok (.iload_n 2, 1) := by decide +kernel
theorem dX3_lineAt_28 : decode cX3_lineAt 28 = .ok (.ifCond .eq 12, 3) := by decide +kernel
theorem dX3_lineAt_31 : decode cX3_lineAt 31 = .ok (.aload_n 0, 1) := by decide +kernel
theorem dX3_lineAt_32 : decode cX3_lineAt 32 = .ok (.getfield 25, 3) := by decide +kernel
theorem dX3_lineAt_35 : decode cX3_lineAt 35 = .ok (.iload_n 1, 1) := by decide +kernel
theorem dX3_lineAt_36 : decode cX3_lineAt 36 = .ok (.aaload, 1) := by decide +kernel
theorem dX3_lineAt_37 : decode cX3_lineAt 37 = .ok (.goto 4, 3) := by decide +kernel
theorem dX3_lineAt_40 : decode cX3_lineAt 40 = .ok (.aconst_null, 1) := by decide +kernel
theorem dX3_lineAt_41 : decode cX3_lineAt 41 = .ok (.areturn, 1) := by decide +kernel
theorem dX3_batchAt_0 : decode cX3_batchAt 0 = .ok (.iload_n 1, 1) := by decide +kernel
theorem dX3_batchAt_1 : decode cX3_batchAt 1 = .ok (.ifCond .lt 28, 3) := by decide +kernel
theorem dX3_batchAt_4 : decode cX3_batchAt 4 = .ok (.iload_n 1, 1) := by decide +kernel
theorem dX3_batchAt_5 : decode cX3_batchAt 5 = .ok (.aload_n 0, 1) := by decide +kernel
theorem dX3_batchAt_6 : decode cX3_batchAt 6 = .ok (.getfield 31, 3) := by decide +kernel
theorem dX3_batchAt_9 : decode cX3_batchAt 9 = .ok (.arraylength, 1) := by decide +kernel
theorem dX3_batchAt_10 : decode cX3_batchAt 10 = .ok (.if_icmp .ge 19, 3) := by decide +kernel
theorem dX3_batchAt_13 : decode cX3_batchAt 13 = .ok (.aload_n 0, 1) := by decide +kernel
theorem dX3_batchAt_14 : decode cX3_batchAt 14 = .ok (.getfield 31, 3) := by decide +kernel
theorem dX3_batchAt_17 : decode cX3_batchAt 17 = .ok (.iload_n 1, 1) := by decide +kernel
theorem dX3_batchAt_18 : decode cX3_batchAt 18 = .ok (.aaload, 1) := by decide +kernel
theorem dX3_batchAt_19 : decode cX3_batchAt 19 = .ok (.getfield 102, 3) := by decide +kernel
theorem dX3_batchAt_22 : decode cX3_batchAt 22 = .ok (.ifCond .eq 7, 3) := by decide +kernel
theorem dX3_batchAt_25 : decode cX3_batchAt 25 = .ok (.iconst 1, 1) := by decide +kernel
theorem dX3_batchAt_26 : decode cX3_batchAt 26 = .ok (.goto 4, 3) := by decide +kernel
theorem dX3_batchAt_29 : decode cX3_batchAt 29 = .ok (.iconst 0, 1) := by decide +kernel
theorem dX3_batchAt_30 : decode cX3_batchAt 30 = .ok (.istore_n 2, 1) := by decide +kernel
theorem dX3_batchAt_31 : decode cX3_batchAt 31 = .ok (.iload_n 2, 1) := by decide +kernel
theorem dX3_batchAt_32 : decode cX3_batchAt 32 = .ok (.ifCond .eq 12, 3) := by decide +kernel
theorem dX3_batchAt_35 : decode cX3_batchAt 35 = .ok (.aload_n 0, 1) := by decide +kernel
theorem dX3_batchAt_36 : decode cX3_batchAt 36 = .ok (.getfield 31, 3) := by decide +kernel
theorem dX3_batchAt_39 : decode cX3_batchAt 39 = .ok (.iload_n 1, 1) := by decide +kernel
theorem dX3_batchAt_40 : decode cX3_batchAt 40 = .ok (.aaload, 1) := by decide +kernel
theorem dX3_batchAt_41 : decode cX3_batchAt 41 = .ok (.goto 4, 3) := by decide +kernel
theorem dX3_batchAt_44 : decode cX3_batchAt 44 = .ok (.aconst_null, 1) := by decide +kernel
theorem dX3_batchAt_45 : decode cX3_batchAt 45 = .ok (.areturn, 1) := by decide +kernel
theorem dX3_addRecipe_0 : decode cX3_addRecipe 0 = .ok (.iload_n 1, 1) := by decide +kernel
theorem dX3_addRecipe_1 : decode cX3_addRecipe 1 = .ok (.iconst 0, 1) := by decide +kernel
theorem dX3_addRecipe_2 : decode cX3_addRecipe 2 = .ok (.iconst 3, 1) := by decide +kernel
theorem dX3_addRecipe_3 : decode cX3_addRecipe 3 = .ok (.invokestatic 106, 3) := by decide +kernel
theorem dX3_addRecipe_6 : decode cX3_addRecipe 6 = .ok (.ifCond .ne 5, 3) := by decide +kernel
theorem dX3_addRecipe_9 : decode cX3_addRecipe 9 = .ok (.iconst (-1), 1) := by decide +kernel
theorem dX3_addRecipe_10 : decode cX3_addRecipe 10 = .ok (.ireturn, 1) := by decide +kernel
theorem dX3_addRecipe_11 : decode cX3_addRecipe 11 = .ok (.aload_n 0, 1) := by decide +kernel
theorem dX3_addRecipe_12 : decode cX3_addRecipe 12 = .ok (.getfield 61, 3) := by decide +kernel
theorem dX3_addRecipe_15 : decode cX3_addRecipe 15 = .ok (.iconst 4, 1) := by decide +kernel
theorem dX3_addRecipe_16 : decode cX3_addRecipe 16 = .ok (.if_icmp .lt 6, 3) := by decide +kernel
theorem dX3_addRecipe_19 : decode cX3_addRecipe 19 = .ok (.bipush (-3), 2) := by decide +kernel
theorem dX3_addRecipe_21 : decode cX3_addRecipe 21 = .ok (.ireturn, 1) := by decide +kernel
theorem dX3_addRecipe_22 : decode cX3_addRecipe 22 = .ok (.aload_n 0, 1) := by decide +kernel
theorem dX3_addRecipe_23 : decode cX3_addRecipe 23 = .ok (.dup, 1) := by decide +kernel
theorem dX3_addRecipe_24 : decode cX3_addRecipe 24 = .ok (.getfield 61, 3) := by decide +kernel
theorem dX3_addRecipe_27 : decode cX3_addRecipe 27 = .ok (.iconst 1, 1) := by decide +kernel
theorem dX3_addRecipe_28 : decode cX3_addRecipe 28 = .ok (.iadd, 1) := by decide +kernel
theorem dX3_addRecipe_29 : decode cX3_addRecipe 29 = .ok (.putfield 61, 3) := by decide +kernel
theorem dX3_addRecipe_32 : decode cX3_addRecipe 32 = .ok (.aload_n 0, 1) := by decide +kernel
theorem dX3_addRecipe_33 : decode cX3_addRecipe 33 = .ok (.aload_n 0, 1) := by decide +kernel
theorem dX3_addRecipe_34 : decode cX3_addRecipe 34 = .ok (.getfield 61, 3) := by decide +kernel
theorem dX3_addRecipe_37 : decode cX3_addRecipe 37 = .ok (.iconst 1, 1) := by decide +kernel
theorem dX3_addRecipe_38 : decode cX3_addRecipe 38 = .ok (.isub, 1) := by decide +kernel
theorem dX3_addRecipe_39 : decode cX3_addRecipe 39 = .ok (.invokevirtual 110, 3) := by decide +kernel
theorem dX3_addRecipe_42 : decode cX3_addRecipe 42 = .ok (.astore_n 2, 1) := by decide +kernel
theorem dX3_addRecipe_43 : decode cX3_addRecipe 43 = .ok (.aload_n 2, 1) := by decide +kernel
theorem dX3_addRecipe_44 : decode cX3_addRecipe 44 = .ok (.ifnull 13, 3) := by decide +kernel
theorem dX3_addRecipe_47 : decode cX3_addRecipe 47 = .ok (.aload_n 2, 1) := by decide +kernel
theorem dX3_addRecipe_48 : decode cX3_addRecipe 48 = .ok (.iload_n 1, 1) := by decide +kernel
theorem dX3_addRecipe_49 : decode cX3_addRecipe 49 = .ok (.putfield 114, 3) := by decide +kernel
theorem dX3_addRecipe_52 : decode cX3_addRecipe 52 = .ok (.aload_n 2, 1) := by decide +kernel
theorem dX3_addRecipe_53 : decode cX3_addRecipe 53 = .ok (.iconst 0, 1) := by decide +kernel
theorem dX3_addRecipe_54 : decode cX3_addRecipe 54 = .ok (.putfield 117, 3) := by decide +kernel
theorem dX3_addRecipe_57 : decode cX3_addRecipe 57 = .ok (.aload_n 0, 1) := by decide +kernel
theorem dX3_addRecipe_58 : decode cX3_addRecipe 58 = .ok (.getfield 61, 3) := by decide +kernel
theorem dX3_addRecipe_61 : decode cX3_addRecipe 61 = .ok (.iconst 1, 1) := by decide +kernel
theorem dX3_addRecipe_62 : decode cX3_addRecipe 62 = .ok (.isub, 1) := by decide +kernel
theorem dX3_addRecipe_63 : decode cX3_addRecipe 63 = .ok (.ireturn, 1) := by decide +kernel
theorem dX3_addStage_0 : decode cX3_addStage 0 = .ok (.aload_n 0, 1) := by decide +kernel
theorem dX3_addStage_1 : decode cX3_addStage 1 = .ok (.iload_n 1, 1) := by decide +kernel
theorem dX3_addStage_2 : decode cX3_addStage 2 = .ok (.invokevirtual 110, 3) := by decide +kernel
theorem dX3_addStage_5 : decode cX3_addStage 5 = .ok (.astore 6, 2) := by decide +kernel
theorem dX3_addStage_7 : decode cX3_addStage 7 = .ok (.aload 6, 2) := by decide +kernel
theorem dX3_addStage_9 : decode cX3_addStage 9 = .ok (.ifnull 48, 3) := by decide +kernel
theorem dX3_addStage_12 : decode cX3_addStage 12 = .ok (.iload_n 2, 1) := by decide +kernel
theorem dX3_addStage_13 : decode cX3_addStage 13 = .ok (.iconst 0, 1) := by decide +kernel
theorem dX3_addStage_14 : decode cX3_addStage 14 = .ok (.iconst 2, 1) := by decide +kernel
theorem dX3_addStage_15 : decode cX3_addStage 15 = .ok (.invokestatic 106, 3) := by decide +kernel
theorem dX3_addStage_18 : decode cX3_addStage 18 = .ok (.ifCond .eq 39, 3) := by decide +kernel
theorem dX3_addStage_21 : decode cX3_addStage 21 = .ok (.iload_n 3, 1) := by decide +kernel
theorem dX3_addStage_22 : decode cX3_addStage 22 = .ok (.iconst 1, 1) := by decide +kernel
theorem dX3_addStage_23 : decode cX3_addStage 23 = .ok (.sipush 200, 3) := by decide +kernel
theorem dX3_addStage_26 : decode cX3_addStage 26 = .ok (.invokestatic 106, 3) := by decide +kernel
theorem dX3_addStage_29 : decode cX3_addStage 29 = .ok (.ifCond .eq 28, 3) := by decide +kernel
theorem dX3_addStage_32 : decode cX3_addStage 32 = .ok (.iload 4, 2) := by decide +kernel
theorem dX3_addStage_34 : decode cX3_addStage 34 = .ok (.iconst 0, 1) := by decide +kernel
theorem dX3_addStage_35 : decode cX3_addStage 35 = .ok (.sipush 500, 3) := by decide +kernel
theorem dX3_addStage_38 : decode cX3_addStage 38 = .ok (.invokestatic 106, 3) := by decide +kernel
theorem dX3_addStage_41 : decode cX3_addStage 41 = .ok (.ifCond .eq 16, 3) := by decide +kernel
theorem dX3_addStage_44 : decode cX3_addStage 44 = .ok (.iload 5, 2) := by decide +kernel
theorem dX3_addStage_46 : decode cX3_addStage 46 = .ok (.iload 4, 2) := by decide +kernel
theorem dX3_addStage_48 : decode cX3_addStage 48 = .ok (.sipush 500, 3) := by decide +kernel
theorem dX3_addStage_51 : decode cX3_addStage 51 = .ok (.invokestatic 106, 3) := by decide +kernel
theorem dX3_addStage_54 : decode cX3_addStage 54 = .ok (.ifCond .ne 5, 3) := by decide +kernel
theorem dX3_addStage_57 : decode cX3_addStage 57 = .ok (.iconst (-1), 1) := by decide +kernel
theorem dX3_addStage_58 : decode cX3_addStage 58 = .ok (.ireturn, 1) := by decide +kernel
theorem dX3_addStage_59 : decode cX3_addStage 59 = .ok (.aload_n 0, 1) := by decide +kernel
theorem dX3_addStage_60 : decode cX3_addStage 60 = .ok (.iload_n 1, 1) := by decide +kernel
theorem dX3_addStage_61 : decode cX3_addStage 61 = .ok (.invokevirtual 120, 3) := by decide +kernel
theorem dX3_addStage_64 : decode cX3_addStage 64 = .ok (.ifCond .eq 6, 3) := by decide +kernel
theorem dX3_addStage_67 : decode cX3_addStage 67 = .ok (.bipush (-2), 2) := by decide +kernel
theorem dX3_addStage_69 : decode cX3_addStage 69 = .ok (.ireturn, 1) := by decide +kernel
theorem dX3_addStage_70 : decode cX3_addStage 70 = .ok (.aload 6, 2) := by decide +kernel
theorem dX3_addStage_72 : decode cX3_addStage 72 = .ok (.getfield 117, 3) := by decide +kernel
theorem dX3_addStage_75 : decode cX3_addStage 75 = .ok (.iconst 4, 1) := by decide +kernel
theorem dX3_addStage_76 : decode cX3_addStage 76 = .ok (.if_icmp .lt 6, 3) := by decide +kernel
theorem dX3_addStage_79 : decode cX3_addStage 79 = .ok (.bipush (-3), 2) := by decide +kernel
theorem dX3_addStage_81 : decode cX3_addStage 81 = .ok (.ireturn, 1) := by decide +kernel
theorem dX3_addStage_82 : decode cX3_addStage 82 = .ok (.aload 6, 2) := by decide +kernel
theorem dX3_addStage_84 : decode cX3_addStage 84 = .ok (.dup, 1) := by decide +kernel
theorem dX3_addStage_85 : decode cX3_addStage 85 = .ok (.getfield 117, 3) := by decide +kernel
theorem dX3_addStage_88 : decode cX3_addStage 88 = .ok (.iconst 1, 1) := by decide +kernel
theorem dX3_addStage_89 : decode cX3_addStage 89 = .ok (.iadd, 1) := by decide +kernel
theorem dX3_addStage_90 : decode cX3_addStage 90 = .ok (.putfield 117, 3) := by decide +kernel
theorem dX3_addStage_93 : decode cX3_addStage 93 = .ok (.aload 6, 2) := by decide +kernel
theorem dX3_addStage_95 : decode cX3_addStage 95 = .ok (.aload 6, 2) := by decide +kernel
theorem dX3_addStage_97 : decode cX3_addStage 97 = .ok (.getfield 117, 3) := by decide +kernel
theorem dX3_addStage_100 : decode cX3_addStage 100 = .ok (.iconst 1, 1) := by decide +kernel
theorem dX3_addStage_101 : decode cX3_addStage 101 = .ok (.isub, 1) := by decide +kernel
theorem dX3_addStage_102 : decode cX3_addStage 102 = .ok (.invokevirtual 124, 3) := by decide +kernel
theorem dX3_addStage_105 : decode cX3_addStage 105 = .ok (.astore 7, 2) := by decide +kernel
theorem dX3_addStage_107 : decode cX3_addStage 107 = .ok (.aload 7, 2) := by decide +kernel
theorem dX3_addStage_109 : decode cX3_addStage 109 = .ok (.ifnull 29, 3) := by decide +kernel
theorem dX3_addStage_112 : decode cX3_addStage 112 = .ok (.aload 7, 2) := by decide +kernel
theorem dX3_addStage_114 : decode cX3_addStage 114 = .ok (.iload_n 2, 1) := by decide +kernel
theorem dX3_addStage_115 : decode cX3_addStage 115 = .ok (.putfield 128, 3) := by decide +kernel
theorem dX3_addStage_118 : decode cX3_addStage 118 = .ok (.aload 7, 2) := by decide +kernel
theorem dX3_addStage_120 : decode cX3_addStage 120 = .ok (.iload_n 3, 1) := by decide +kernel
theorem dX3_addStage_121 : decode cX3_addStage 121 = .ok (.putfield 133, 3) := by decide +kernel
theorem dX3_addStage_124 : decode cX3_addStage 124 = .ok (.aload 7, 2) := by decide +kernel
theorem dX3_addStage_126 : decode cX3_addStage 126 = .ok (.iload 4, 2) := by decide +kernel
theorem dX3_addStage_128 : decode cX3_addStage 128 = .ok (.putfield 136, 3) := by decide +kernel
theorem dX3_addStage_131 : decode cX3_addStage 131 = .ok (.aload 7, 2) := by decide +kernel
theorem dX3_addStage_133 : decode cX3_addStage 133 = .ok (.iload 5, 2) := by decide +kernel
theorem dX3_addStage_135 : decode cX3_addStage 135 = .ok (.putfield 139, 3) := by decide +kernel
theorem dX3_addStage_138 : decode cX3_addStage 138 = .ok (.aload 6, 2) := by decide +kernel
theorem dX3_addStage_140 : decode cX3_addStage 140 = .ok (.getfield 117, 3) := by decide +kernel
theorem dX3_addStage_143 : decode cX3_addStage 143 = .ok (.iconst 1, 1) := by decide +kernel
theorem dX3_addStage_144 : decode cX3_addStage 144 = .ok (.isub, 1) := by decide +kernel
theorem dX3_addStage_145 : decode cX3_addStage 145 = .ok (.ireturn, 1) := by decide +kernel
theorem dX3_hasBatchOf_0 : decode cX3_hasBatchOf 0 = .ok (.iconst 0, 1) := by decide +kernel
theorem dX3_hasBatchOf_1 : decode cX3_hasBatchOf 1 = .ok (.istore_n 2, 1) := by decide +kernel
theorem dX3_hasBatchOf_2 : decode cX3_hasBatchOf 2 = .ok (.iload_n 2, 1) := by decide +kernel
theorem dX3_hasBatchOf_3 : decode cX3_hasBatchOf 3 = .ok (.aload_n 0, 1) := by decide +kernel
theorem dX3_hasBatchOf_4 : decode cX3_hasBatchOf 4 = .ok (.getfield 31, 3) := by decide +kernel
theorem dX3_hasBatchOf_7 : decode cX3_hasBatchOf 7 = .ok (.arraylength, 1) := by decide +kernel
theorem dX3_hasBatchOf_8 : decode cX3_hasBatchOf 8 = .ok (.if_icmp .ge 36, 3) := by decide +kernel
theorem dX3_hasBatchOf_11 : decode cX3_hasBatchOf 11 = .ok (.aload_n 0, 1) := by decide +kernel
theorem dX3_hasBatchOf_12 : decode cX3_hasBatchOf 12 = .ok (.getfield 31, 3) := by decide +kernel
theorem dX3_hasBatchOf_15 : decode cX3_hasBatchOf 15 = .ok (.iload_n 2, 1) := by decide +kernel
theorem dX3_hasBatchOf_16 : decode cX3_hasBatchOf 16 = .ok (.aaload, 1) := by decide +kernel
theorem dX3_hasBatchOf_17 : decode cX3_hasBatchOf 17 = .ok (.getfield 102, 3) := by decide +kernel
theorem dX3_hasBatchOf_20 : decode cX3_hasBatchOf 20 = .ok (.ifCond .eq 18, 3) := by decide +kernel
theorem dX3_hasBatchOf_23 : decode cX3_hasBatchOf 23 = .ok (.aload_n 0, 1) := by decide +kernel
theorem dX3_hasBatchOf_24 : decode cX3_hasBatchOf 24 = .ok (.getfield 31, 3) := by decide +kernel
theorem dX3_hasBatchOf_27 : decode cX3_hasBatchOf 27 = .ok (.iload_n 2, 1) := by decide +kernel
theorem dX3_hasBatchOf_28 : decode cX3_hasBatchOf 28 = .ok (.aaload, 1) := by decide +kernel
theorem dX3_hasBatchOf_29 : decode cX3_hasBatchOf 29 = .ok (.getfield 142, 3) := by decide +kernel
theorem dX3_hasBatchOf_32 : decode cX3_hasBatchOf 32 = .ok (.iload_n 1, 1) := by decide +kernel
theorem dX3_hasBatchOf_33 : decode cX3_hasBatchOf 33 = .ok (.if_icmp .ne 5, 3) := by decide +kernel
theorem dX3_hasBatchOf_36 : decode cX3_hasBatchOf 36 = .ok (.iconst 1, 1) := by decide +kernel
theorem dX3_hasBatchOf_37 : decode cX3_hasBatchOf 37 = .ok (.ireturn, 1) := by decide +kernel
theorem dX3_hasBatchOf_38 : decode cX3_hasBatchOf 38 = .ok (.iinc 2 1, 3) := by decide +kernel
theorem dX3_hasBatchOf_41 : decode cX3_hasBatchOf 41 = .ok (.goto (-39), 3) := by decide +kernel
theorem dX3_hasBatchOf_44 : decode cX3_hasBatchOf 44 = .ok (.iconst 0, 1) := by decide +kernel
theorem dX3_hasBatchOf_45 : decode cX3_hasBatchOf 45 = .ok (.ireturn, 1) := by decide +kernel
theorem dX3_addVessel_0 : decode cX3_addVessel 0 = .ok (.iload_n 1, 1) := by decide +kernel
theorem dX3_addVessel_1 : decode cX3_addVessel 1 = .ok (.iconst 0, 1) := by decide +kernel
theorem dX3_addVessel_2 : decode cX3_addVessel 2 = .ok (.iconst 2, 1) := by decide +kernel
theorem dX3_addVessel_3 : decode cX3_addVessel 3 = .ok (.invokestatic 106, 3) := by decide +kernel
theorem dX3_addVessel_6 : decode cX3_addVessel 6 = .ok (.ifCond .eq 14, 3) := by decide +kernel
theorem dX3_addVessel_9 : decode cX3_addVessel 9 = .ok (.iload_n 2, 1) := by decide +kernel
theorem dX3_addVessel_10 : decode cX3_addVessel 10 = .ok (.iconst 1, 1) := by decide +kernel
theorem dX3_addVessel_11 : decode cX3_addVessel 11 = .ok (.sipush 999, 3) := by decide +kernel
theorem dX3_addVessel_14 : decode cX3_addVessel 14 = .ok (.invokestatic 106, 3) := by decide +kernel
theorem dX3_addVessel_17 : decode cX3_addVessel 17 = .ok (.ifCond .ne 5, 3) := by decide +kernel
theorem dX3_addVessel_20 : decode cX3_addVessel 20 = .ok (.iconst (-1), 1) := by decide +kernel
theorem dX3_addVessel_21 : decode cX3_addVessel 21 = .ok (.ireturn, 1) := by decide +kernel
theorem dX3_addVessel_22 : decode cX3_addVessel 22 = .ok (.aload_n 0, 1) := by decide +kernel
theorem dX3_addVessel_23 : decode cX3_addVessel 23 = .ok (.getfield 65, 3) := by decide +kernel
theorem dX3_addVessel_26 : decode cX3_addVessel 26 = .ok (.bipush 6, 2) := by decide +kernel
theorem dX3_addVessel_28 : decode cX3_addVessel 28 = .ok (.if_icmp .lt 6, 3) := by decide +kernel
theorem dX3_addVessel_31 : decode cX3_addVessel 31 = .ok (.bipush (-3), 2) := by decide +kernel
theorem dX3_addVessel_33 : decode cX3_addVessel 33 = .ok (.ireturn, 1) := by decide +kernel
theorem dX3_addVessel_34 : decode cX3_addVessel 34 = .ok (.aload_n 0, 1) := by decide +kernel
theorem dX3_addVessel_35 : decode cX3_addVessel 35 = .ok (.dup, 1) := by decide +kernel
theorem dX3_addVessel_36 : decode cX3_addVessel 36 = .ok (.getfield 65, 3) := by decide +kernel
theorem dX3_addVessel_39 : decode cX3_addVessel 39 = .ok (.iconst 1, 1) := by decide +kernel
theorem dX3_addVessel_40 : decode cX3_addVessel 40 = .ok (.iadd, 1) := by decide +kernel
theorem dX3_addVessel_41 : decode cX3_addVessel 41 = .ok (.putfield 65, 3) := by decide +kernel
theorem dX3_addVessel_44 : decode cX3_addVessel 44 = .ok (.aload_n 0, 1) := by decide +kernel
theorem dX3_addVessel_45 : decode cX3_addVessel 45 = .ok (.aload_n 0, 1) := by decide +kernel
theorem dX3_addVessel_46 : decode cX3_addVessel 46 = .ok (.getfield 65, 3) := by decide +kernel
theorem dX3_addVessel_49 : decode cX3_addVessel 49 = .ok (.iconst 1, 1) := by decide +kernel
theorem dX3_addVessel_50 : decode cX3_addVessel 50 = .ok (.isub, 1) := by decide +kernel
theorem dX3_addVessel_51 : decode cX3_addVessel 51 = .ok (.invokevirtual 145, 3) := by decide +kernel
theorem dX3_addVessel_54 : decode cX3_addVessel 54 = .ok (.astore_n 3, 1) := by decide +kernel
theorem dX3_addVessel_55 : decode cX3_addVessel 55 = .ok (.aload_n 3, 1) := by decide +kernel
theorem dX3_addVessel_56 : decode cX3_addVessel 56 = .ok (.ifnull 13, 3) := by decide +kernel
theorem dX3_addVessel_59 : decode cX3_addVessel 59 = .ok (.aload_n 3, 1) := by decide +kernel
theorem dX3_addVessel_60 : decode cX3_addVessel 60 = .ok (.iload_n 1, 1) := by decide +kernel
theorem dX3_addVessel_61 : decode cX3_addVessel 61 = .ok (.putfield 149, 3) := by decide +kernel
theorem dX3_addVessel_64 : decode cX3_addVessel 64 = .ok (.aload_n 3, 1) := by decide +kernel
theorem dX3_addVessel_65 : decode cX3_addVessel 65 = .ok (.iload_n 2, 1) := by decide +kernel
theorem dX3_addVessel_66 : decode cX3_addVessel 66 = .ok (.putfield 150, 3) := by decide +kernel
theorem dX3_addVessel_69 : decode cX3_addVessel 69 = .ok (.aload_n 0, 1) := by decide +kernel
theorem dX3_addVessel_70 : decode cX3_addVessel 70 = .ok (.getfield 65, 3) := by decide +kernel
theorem dX3_addVessel_73 : decode cX3_addVessel 73 = .ok (.iconst 1, 1) := by decide +kernel
theorem dX3_addVessel_74 : decode cX3_addVessel 74 = .ok (.isub, 1) := by decide +kernel
theorem dX3_addVessel_75 : decode cX3_addVessel 75 = .ok (.ireturn, 1) := by decide +kernel
theorem dX3_addLine_0 : decode cX3_addLine 0 = .ok (.iload_n 1, 1) := by decide +kernel
theorem dX3_addLine_1 : decode cX3_addLine 1 = .ok (.iconst 1, 1) := by decide +kernel
theorem dX3_addLine_2 : decode cX3_addLine 2 = .ok (.aload_n 0, 1) := by decide +kernel
theorem dX3_addLine_3 : decode cX3_addLine 3 = .ok (.getfield 65, 3) := by decide +kernel
theorem dX3_addLine_6 : decode cX3_addLine 6 = .ok (.ishl, 1) := by decide +kernel
theorem dX3_addLine_7 : decode cX3_addLine 7 = .ok (.iconst 1, 1) := by decide +kernel
theorem dX3_addLine_8 : decode cX3_addLine 8 = .ok (.isub, 1) := by decide +kernel
theorem dX3_addLine_9 : decode cX3_addLine 9 = .ok (.iconst (-1), 1) := by decide +kernel
theorem dX3_addLine_10 : decode cX3_addLine 10 = .ok (.ixor, 1) := by decide +kernel
theorem dX3_addLine_11 : decode cX3_addLine 11 = .ok (.iand, 1) := by decide +kernel
theorem dX3_addLine_12 : decode cX3_addLine 12 = .ok (.istore_n 3, 1) := by decide +kernel
theorem dX3_addLine_13 : decode cX3_addLine 13 = .ok (.iload_n 3, 1) := by decide +kernel
theorem dX3_addLine_14 : decode cX3_addLine 14 = .ok (.ifCond .ne 21, 3) := by decide +kernel
theorem dX3_addLine_17 : decode cX3_addLine 17 = .ok (.iload_n 1, 1) := by decide +kernel
theorem dX3_addLine_18 : decode cX3_addLine 18 = .ok (.invokestatic 153, 3) := by decide +kernel
theorem dX3_addLine_21 : decode cX3_addLine 21 = .ok (.iconst 2, 1) := by decide +kernel
theorem dX3_addLine_22 : decode cX3_addLine 22 = .ok (.if_icmp .lt 13, 3) := by decide +kernel
theorem dX3_addLine_25 : decode cX3_addLine 25 = .ok (.iload_n 2, 1) := by decide +kernel
theorem dX3_addLine_26 : decode cX3_addLine 26 = .ok (.iconst 1, 1) := by decide +kernel
theorem dX3_addLine_27 : decode cX3_addLine 27 = .ok (.bipush 99, 2) := by decide +kernel
theorem dX3_addLine_29 : decode cX3_addLine 29 = .ok (.invokestatic 106, 3) := by decide +kernel
theorem dX3_addLine_32 : decode cX3_addLine 32 = .ok (.ifCond .ne 5, 3) := by decide +kernel
theorem dX3_addLine_35 : decode cX3_addLine 35 = .ok (.iconst (-1), 1) := by decide +kernel
theorem dX3_addLine_36 : decode cX3_addLine 36 = .ok (.ireturn, 1) := by decide +kernel
theorem dX3_addLine_37 : decode cX3_addLine 37 = .ok (.aload_n 0, 1) := by decide +kernel
theorem dX3_addLine_38 : decode cX3_addLine 38 = .ok (.getfield 68, 3) := by decide +kernel
theorem dX3_addLine_41 : decode cX3_addLine 41 = .ok (.iconst 3, 1) := by decide +kernel
theorem dX3_addLine_42 : decode cX3_addLine 42 = .ok (.if_icmp .lt 6, 3) := by decide +kernel
theorem dX3_addLine_45 : decode cX3_addLine 45 = .ok (.bipush (-3), 2) := by decide +kernel
theorem dX3_addLine_47 : decode cX3_addLine 47 = .ok (.ireturn, 1) := by decide +kernel
theorem dX3_addLine_48 : decode cX3_addLine 48 = .ok (.aload_n 0, 1) := by decide +kernel
theorem dX3_addLine_49 : decode cX3_addLine 49 = .ok (.dup, 1) := by decide +kernel
theorem dX3_addLine_50 : decode cX3_addLine 50 = .ok (.getfield 68, 3) := by decide +kernel
theorem dX3_addLine_53 : decode cX3_addLine 53 = .ok (.iconst 1, 1) := by decide +kernel
theorem dX3_addLine_54 : decode cX3_addLine 54 = .ok (.iadd, 1) := by decide +kernel
theorem dX3_addLine_55 : decode cX3_addLine 55 = .ok (.putfield 68, 3) := by decide +kernel
theorem dX3_addLine_58 : decode cX3_addLine 58 = .ok (.aload_n 0, 1) := by decide +kernel
theorem dX3_addLine_59 : decode cX3_addLine 59 = .ok (.aload_n 0, 1) := by decide +kernel
theorem dX3_addLine_60 : decode cX3_addLine 60 = .ok (.getfield 68, 3) := by decide +kernel
theorem dX3_addLine_63 : decode cX3_addLine 63 = .ok (.iconst 1, 1) := by decide +kernel
theorem dX3_addLine_64 : decode cX3_addLine 64 = .ok (.isub, 1) := by decide +kernel
theorem dX3_addLine_65 : decode cX3_addLine 65 = .ok (.invokevirtual 159, 3) := by decide +kernel
theorem dX3_addLine_68 : decode cX3_addLine 68 = .ok (.astore 4, 2) := by decide +kernel
theorem dX3_addLine_70 : decode cX3_addLine 70 = .ok (.aload 4, 2) := by decide +kernel
theorem dX3_addLine_72 : decode cX3_addLine 72 = .ok (.ifnull 15, 3) := by decide +kernel
theorem dX3_addLine_75 : decode cX3_addLine 75 = .ok (.aload 4, 2) := by decide +kernel
theorem dX3_addLine_77 : decode cX3_addLine 77 = .ok (.iload_n 1, 1) := by decide +kernel
theorem dX3_addLine_78 : decode cX3_addLine 78 = .ok (.putfield 163, 3) := by decide +kernel
theorem dX3_addLine_81 : decode cX3_addLine 81 = .ok (.aload 4, 2) := by decide +kernel
theorem dX3_addLine_83 : decode cX3_addLine 83 = .ok (.iload_n 2, 1) := by decide +kernel
theorem dX3_addLine_84 : decode cX3_addLine 84 = .ok (.putfield 165, 3) := by decide +kernel
theorem dX3_addLine_87 : decode cX3_addLine 87 = .ok (.aload_n 0, 1) := by decide +kernel
theorem dX3_addLine_88 : decode cX3_addLine 88 = .ok (.getfield 68, 3) := by decide +kernel
theorem dX3_addLine_91 : decode cX3_addLine 91 = .ok (.iconst 1, 1) := by decide +kernel
theorem dX3_addLine_92 : decode cX3_addLine 92 = .ok (.isub, 1) := by decide +kernel
theorem dX3_addLine_93 : decode cX3_addLine 93 = .ok (.ireturn, 1) := by decide +kernel
theorem dX3_changeCleaning_0 : decode cX3_changeCleaning 0 = .ok (.iload_n 1, 1) := by decide +kernel
theorem dX3_changeCleaning_1 : decode cX3_changeCleaning 1 = .ok (.iconst 0, 1) := by decide +kernel
theorem dX3_changeCleaning_2 : decode cX3_changeCleaning 2 = .ok (.iconst 3, 1) := by decide +kernel
theorem dX3_changeCleaning_3 : decode cX3_changeCleaning 3 = .ok (.invokestatic 106, 3) := by decide +kernel
theorem dX3_changeCleaning_6 : decode cX3_changeCleaning 6 = .ok (.ifCond .eq 22, 3) := by decide +kernel
theorem dX3_changeCleaning_9 : decode cX3_changeCleaning 9 = .ok (.iload_n 2, 1) := by decide +kernel
theorem dX3_changeCleaning_10 : decode cX3_changeCleaning 10 = .ok (.iconst 0, 1) := by decide +kernel
theorem dX3_changeCleaning_11 : decode cX3_changeCleaning 11 = .ok (.iconst 3, 1) := by decide +kernel
theorem dX3_changeCleaning_12 : decode cX3_changeCleaning 12 = .ok (.invokestatic 106, 3) := by decide +kernel
theorem dX3_changeCleaning_15 : decode cX3_changeCleaning 15 = .ok (.ifCond .eq 13, 3) := by decide +kernel
theorem dX3_changeCleaning_18 : decode cX3_changeCleaning 18 = .ok (.iload_n 3, 1) := by decide +kernel
theorem dX3_changeCleaning_19 : decode cX3_changeCleaning 19 = .ok (.iconst 0, 1) := by decide +kernel
theorem dX3_changeCleaning_20 : decode cX3_changeCleaning 20 = .ok (.bipush 99, 2) := by decide +kernel
theorem dX3_changeCleaning_22 : decode cX3_changeCleaning 22 = .ok (.invokestatic 106, 3) := by decide +kernel
theorem dX3_changeCleaning_25 : decode cX3_changeCleaning 25 = .ok (.ifCond .ne 5, 3) := by decide +kernel
theorem dX3_changeCleaning_28 : decode cX3_changeCleaning 28 = .ok (.iconst (-1), 1) := by decide +kernel
theorem dX3_changeCleaning_29 : decode cX3_changeCleaning 29 = .ok (.ireturn, 1) := by decide +kernel
theorem dX3_changeCleaning_30 : decode cX3_changeCleaning 30 = .ok (.aload_n 0, 1) := by decide +kernel
theorem dX3_changeCleaning_31 : decode cX3_changeCleaning 31 = .ok (.getfield 35, 3) := by decide +kernel
theorem dX3_changeCleaning_34 : decode cX3_changeCleaning 34 = .ok (.iload_n 1, 1) := by decide +kernel
theorem dX3_changeCleaning_35 : decode cX3_changeCleaning 35 = .ok (.iconst 4, 1) := by decide +kernel
theorem dX3_changeCleaning_36 : decode cX3_changeCleaning 36 = .ok (.imul, 1) := by decide +kernel
theorem dX3_changeCleaning_37 : decode cX3_changeCleaning 37 = .ok (.iload_n 2, 1) := by decide +kernel
theorem dX3_changeCleaning_38 : decode cX3_changeCleaning 38 = .ok (.iadd, 1) := by decide +kernel
theorem dX3_changeCleaning_39 : decode cX3_changeCleaning 39 = .ok (.invokestatic 168, 3) := by decide +kernel
theorem dX3_changeCleaning_42 : decode cX3_changeCleaning 42 = .ok (.istore 4, 2) := by decide +kernel
theorem dX3_changeCleaning_44 : decode cX3_changeCleaning 44 = .ok (.aload_n 0, 1) := by decide +kernel
theorem dX3_changeCleaning_45 : decode cX3_changeCleaning 45 = .ok (.getfield 35, 3) := by decide +kernel
theorem dX3_changeCleaning_48 : decode cX3_changeCleaning 48 = .ok (.iload_n 1, 1) := by decide +kernel
theorem dX3_changeCleaning_49 : decode cX3_changeCleaning 49 = .ok (.iconst 4, 1) := by decide +kernel
theorem dX3_changeCleaning_50 : decode cX3_changeCleaning 50 = .ok (.imul, 1) := by decide +kernel
theorem dX3_changeCleaning_51 : decode cX3_changeCleaning 51 = .ok (.iload_n 2, 1) := by decide +kernel
theorem dX3_changeCleaning_52 : decode cX3_changeCleaning 52 = .ok (.iadd, 1) := by decide +kernel
theorem dX3_changeCleaning_53 : decode cX3_changeCleaning 53 = .ok (.iload_n 3, 1) := by decide +kernel
theorem dX3_changeCleaning_54 : decode cX3_changeCleaning 54 = .ok (.invokestatic 49, 3) := by decide +kernel
theorem dX3_changeCleaning_57 : decode cX3_changeCleaning 57 = .ok (.iload 4, 2) := by decide +kernel
theorem dX3_changeCleaning_59 : decode cX3_changeCleaning 59 = .ok (.ireturn, 1) := by decide +kernel
theorem dX3_changeSetting_0 : decode cX3_changeSetting 0 = .ok (.iload_n 1, 1) := by decide +kernel
theorem dX3_changeSetting_1 : decode cX3_changeSetting 1 = .ok (.ifCond .ne 8, 3) := by decide +kernel
theorem dX3_changeSetting_4 : decode cX3_changeSetting 4 = .ok (.bipush 100, 2) := by decide +kernel
theorem dX3_changeSetting_6 : decode cX3_changeSetting 6 = .ok (.goto 5, 3) := by decide +kernel
theorem dX3_changeSetting_9 : decode cX3_changeSetting 9 = .ok (.bipush 50, 2) := by decide +kernel
theorem dX3_changeSetting_11 : decode cX3_changeSetting 11 = .ok (.istore_n 3, 1) := by decide +kernel
theorem dX3_changeSetting_12 : decode cX3_changeSetting 12 = .ok (.iload_n 1, 1) := by decide +kernel
theorem dX3_changeSetting_13 : decode cX3_changeSetting 13 = .ok (.iconst 0, 1) := by decide +kernel
theorem dX3_changeSetting_14 : decode cX3_changeSetting 14 = .ok (.iconst 1, 1) := by decide +kernel
theorem dX3_changeSetting_15 : decode cX3_changeSetting 15 = .ok (.invokestatic 106, 3) := by decide +kernel
theorem dX3_changeSetting_18 : decode cX3_changeSetting 18 = .ok (.ifCond .eq 12, 3) := by decide +kernel
theorem dX3_changeSetting_21 : decode cX3_changeSetting 21 = .ok (.iload_n 2, 1) := by decide +kernel
theorem dX3_changeSetting_22 : decode cX3_changeSetting 22 = .ok (.iconst 0, 1) := by decide +kernel
theorem dX3_changeSetting_23 : decode cX3_changeSetting 23 = .ok (.iload_n 3, 1) := by decide +kernel
theorem dX3_changeSetting_24 : decode cX3_changeSetting 24 = .ok (.invokestatic 106, 3) := by decide +kernel
theorem dX3_changeSetting_27 : decode cX3_changeSetting 27 = .ok (.ifCond .ne 5, 3) := by decide +kernel
theorem dX3_changeSetting_30 : decode cX3_changeSetting 30 = .ok (.iconst (-1), 1) := by decide +kernel
theorem dX3_changeSetting_31 : decode cX3_changeSetting 31 = .ok (.ireturn, 1) := by decide +kernel
theorem dX3_changeSetting_32 : decode cX3_changeSetting 32 = .ok (.aload_n 0, 1) := by decide +kernel
theorem dX3_changeSetting_33 : decode cX3_changeSetting 33 = .ok (.getfield 39, 3) := by decide +kernel
theorem dX3_changeSetting_36 : decode cX3_changeSetting 36 = .ok (.iload_n 1, 1) := by decide +kernel
theorem dX3_changeSetting_37 : decode cX3_changeSetting 37 = .ok (.invokestatic 168, 3) := by decide +kernel
theorem dX3_changeSetting_40 : decode cX3_changeSetting 40 = .ok (.istore 4, 2) := by decide +kernel
theorem dX3_changeSetting_42 : decode cX3_changeSetting 42 = .ok (.aload_n 0, 1) := by decide +kernel
theorem dX3_changeSetting_43 : decode cX3_changeSetting 43 = .ok (.getfield 39, 3) := by decide +kernel
theorem dX3_changeSetting_46 : decode cX3_changeSetting 46 = .ok (.iload_n 1, 1) := by decide +kernel
theorem dX3_changeSetting_47 : decode cX3_changeSetting 47 = .ok (.iload_n 2, 1) := by decide +kernel
theorem dX3_changeSetting_48 : decode cX3_changeSetting 48 = .ok (.invokestatic 49, 3) := by decide +kernel
theorem dX3_changeSetting_51 : decode cX3_changeSetting 51 = .ok (.iload 4, 2) := by decide +kernel
theorem dX3_changeSetting_53 : decode cX3_changeSetting 53 = .ok (.ireturn, 1) := by decide +kernel
theorem dX3_beginBatch_0 : decode cX3_beginBatch 0 = .ok (.aload_n 0, 1) := by decide +kernel
theorem dX3_beginBatch_1 : decode cX3_beginBatch 1 = .ok (.iload_n 1, 1) := by decide +kernel
theorem dX3_beginBatch_2 : decode cX3_beginBatch 2 = .ok (.invokevirtual 110, 3) := by decide +kernel
theorem dX3_beginBatch_5 : decode cX3_beginBatch 5 = .ok (.astore 4, 2) := by decide +kernel
theorem dX3_beginBatch_7 : decode cX3_beginBatch 7 = .ok (.aload_n 0, 1) := by decide +kernel
theorem dX3_beginBatch_8 : decode cX3_beginBatch 8 = .ok (.iload_n 3, 1) := by decide +kernel
theorem dX3_beginBatch_9 : decode cX3_beginBatch 9 = .ok (.invokevirtual 145, 3) := by decide +kernel
theorem dX3_beginBatch_12 : decode cX3_beginBatch 12 = .ok (.astore 5, 2) := by decide +kernel
theorem dX3_beginBatch_14 : decode cX3_beginBatch 14 = .ok (.aload 4, 2) := by decide +kernel
theorem dX3_beginBatch_16 : decode cX3_beginBatch 16 = .ok (.ifnull 19, 3) := by decide +kernel
theorem dX3_beginBatch_19 : decode cX3_beginBatch 19 = .ok (.aload 5, 2) := by decide +kernel
theorem dX3_beginBatch_21 : decode cX3_beginBatch 21 = .ok (.ifnull 14, 3) := by decide +kernel
theorem dX3_beginBatch_24 : decode cX3_beginBatch 24 = .ok (.iload_n 2, 1) := by decide +kernel
theorem dX3_beginBatch_25 : decode cX3_beginBatch 25 = .ok (.iconst 1, 1) := by decide +kernel
theorem dX3_beginBatch_26 : decode cX3_beginBatch 26 = .ok (.sipush 999, 3) := by decide +kernel
theorem dX3_beginBatch_29 : decode cX3_beginBatch 29 = .ok (.invokestatic 106, 3) := by decide +kernel
theorem dX3_beginBatch_32 : decode cX3_beginBatch 32 = .ok (.ifCond .ne 5, 3) := by decide +kernel
theorem dX3_beginBatch_35 : decode cX3_beginBatch 35 = .ok (.iconst (-1), 1) := by decide +kernel
theorem dX3_beginBatch_36 : decode cX3_beginBatch 36 = .ok (.ireturn, 1) := by decide +kernel
theorem dX3_beginBatch_37 : decode cX3_beginBatch 37 = .ok (.aload 4, 2) := by decide +kernel
theorem dX3_beginBatch_39 : decode cX3_beginBatch 39 = .ok (.iconst 0, 1) := by decide +kernel
theorem dX3_beginBatch_40 : decode cX3_beginBatch 40 = .ok (.invokevirtual 124, 3) := by decide +kernel
theorem dX3_beginBatch_43 : decode cX3_beginBatch 43 = .ok (.astore 6, 2) := by decide +kernel
theorem dX3_beginBatch_45 : decode cX3_beginBatch 45 = .ok (.aload_n 0, 1) := by decide +kernel
theorem dX3_beginBatch_46 : decode cX3_beginBatch 46 = .ok (.invokevirtual 172, 3) := by decide +kernel
theorem dX3_beginBatch_49 : decode cX3_beginBatch 49 = .ok (.istore 7, 2) := by decide +kernel
theorem dX3_beginBatch_51 : decode cX3_beginBatch 51 = .ok (.aload 6, 2) := by decide +kernel
theorem dX3_beginBatch_53 : decode cX3_beginBatch 53 = .ok (.ifnull 33, 3) := by decide +kernel
theorem dX3_beginBatch_56 : decode cX3_beginBatch 56 = .ok (.aload 5, 2) := by decide +kernel
theorem dX3_beginBatch_58 : decode cX3_beginBatch 58 = .ok (.aload 6, 2) := by decide +kernel
theorem dX3_beginBatch_60 : decode cX3_beginBatch 60 = .ok (.getfield 128, 3) := by decide +kernel
theorem dX3_beginBatch_63 : decode cX3_beginBatch 63 = .ok (.iload_n 2, 1) := by decide +kernel
theorem dX3_beginBatch_64 : decode cX3_beginBatch 64 = .ok (.invokevirtual 176, 3) := by decide +kernel
theorem dX3_beginBatch_67 : decode cX3_beginBatch 67 = .ok (.ifCond .eq 19, 3) := by decide +kernel
theorem dX3_beginBatch_70 : decode cX3_beginBatch 70 = .ok (.iload 7, 2) := by decide +kernel
theorem dX3_beginBatch_72 : decode cX3_beginBatch 72 = .ok (.iconst 0, 1) := by decide +kernel
theorem dX3_beginBatch_73 : decode cX3_beginBatch 73 = .ok (.aload_n 0, 1) := by decide +kernel
theorem dX3_beginBatch_74 : decode cX3_beginBatch 74 = .ok (.getfield 31, 3) := by decide +kernel
theorem dX3_beginBatch_77 : decode cX3_beginBatch 77 = .ok (.arraylength, 1) := by decide +kernel
theorem dX3_beginBatch_78 : decode cX3_beginBatch 78 = .ok (.iconst 1, 1) := by decide +kernel
theorem dX3_beginBatch_79 : decode cX3_beginBatch 79 = .ok (.isub, 1) := by decide +kernel
theorem dX3_beginBatch_80 : decode cX3_beginBatch 80 = .ok (.invokestatic 106, 3) := by decide +kernel
theorem dX3_beginBatch_83 : decode cX3_beginBatch 83 = .ok (.ifCond .ne 6, 3) := by decide +kernel
theorem dX3_beginBatch_86 : decode cX3_beginBatch 86 = .ok (.bipush (-2), 2) := by decide +kernel
theorem dX3_beginBatch_88 : decode cX3_beginBatch 88 = .ok (.ireturn, 1) := by decide +kernel
theorem dX3_beginBatch_89 : decode cX3_beginBatch 89 = .ok (.aload_n 0, 1) := by decide +kernel
theorem dX3_beginBatch_90 : decode cX3_beginBatch 90 = .ok (.getfield 71, 3) := by decide +kernel
theorem dX3_beginBatch_93 : decode cX3_beginBatch 93 = .ok (.aload_n 0, 1) := by decide +kernel
theorem dX3_beginBatch_94 : decode cX3_beginBatch 94 = .ok (.aload 5, 2) := by decide +kernel
theorem dX3_beginBatch_96 : decode cX3_beginBatch 96 = .ok (.iload 7, 2) := by decide +kernel
theorem dX3_beginBatch_98 : decode cX3_beginBatch 98 = .ok (.aload 4, 2) := by decide +kernel
theorem dX3_beginBatch_100 : decode cX3_beginBatch 100 = .ok (.getfield 114, 3) := by decide +kernel
theorem dX3_beginBatch_103 : decode cX3_beginBatch 103 = .ok (.invokevirtual 180, 3) := by decide +kernel
theorem dX3_beginBatch_106 : decode cX3_beginBatch 106 = .ok (.iadd, 1) := by decide +kernel
theorem dX3_beginBatch_107 : decode cX3_beginBatch 107 = .ok (.istore 8, 2) := by decide +kernel
theorem dX3_beginBatch_109 : decode cX3_beginBatch 109 = .ok (.aload_n 0, 1) := by decide +kernel
theorem dX3_beginBatch_110 : decode cX3_beginBatch 110 = .ok (.getfield 31, 3) := by decide +kernel
theorem dX3_beginBatch_113 : decode cX3_beginBatch 113 = .ok (.iload 7, 2) := by decide +kernel
theorem dX3_beginBatch_115 : decode cX3_beginBatch 115 = .ok (.aaload, 1) := by decide +kernel
theorem dX3_beginBatch_116 : decode cX3_beginBatch 116 = .ok (.iload_n 1, 1) := by decide +kernel
theorem dX3_beginBatch_117 : decode cX3_beginBatch 117 = .ok (.aload 4, 2) := by decide +kernel
theorem dX3_beginBatch_119 : decode cX3_beginBatch 119 = .ok (.getfield 114, 3) := by decide +kernel
theorem dX3_beginBatch_122 : decode cX3_beginBatch 122 = .ok (.iload_n 2, 1) := by decide +kernel
theorem dX3_beginBatch_123 : decode cX3_beginBatch 123 = .ok (.invokevirtual 184, 3) := by decide +kernel
theorem dX3_beginBatch_126 : decode cX3_beginBatch 126 = .ok (.aload_n 0, 1) := by decide +kernel
theorem dX3_beginBatch_127 : decode cX3_beginBatch 127 = .ok (.getfield 31, 3) := by decide +kernel
theorem dX3_beginBatch_130 : decode cX3_beginBatch 130 = .ok (.iload 7, 2) := by decide +kernel
theorem dX3_beginBatch_132 : decode cX3_beginBatch 132 = .ok (.aaload, 1) := by decide +kernel
theorem dX3_beginBatch_133 : decode cX3_beginBatch 133 = .ok (.iconst 0, 1) := by decide +kernel
theorem dX3_beginBatch_134 : decode cX3_beginBatch 134 = .ok (.aload 6, 2) := by decide +kernel
theorem dX3_beginBatch_136 : decode cX3_beginBatch 136 = .ok (.iload_n 3, 1) := by decide +kernel
theorem dX3_beginBatch_137 : decode cX3_beginBatch 137 = .ok (.iload 8, 2) := by decide +kernel
theorem dX3_beginBatch_139 : decode cX3_beginBatch 139 = .ok (.invokevirtual 188, 3) := by decide +kernel
theorem dX3_beginBatch_142 : decode cX3_beginBatch 142 = .ok (.aload_n 0, 1) := by decide +kernel
theorem dX3_beginBatch_143 : decode cX3_beginBatch 143 = .ok (.dup, 1) := by decide +kernel
theorem dX3_beginBatch_144 : decode cX3_beginBatch 144 = .ok (.getfield 74, 3) := by decide +kernel
theorem dX3_beginBatch_147 : decode cX3_beginBatch 147 = .ok (.iload_n 2, 1) := by decide +kernel
theorem dX3_beginBatch_148 : decode cX3_beginBatch 148 = .ok (.iadd, 1) := by decide +kernel
theorem dX3_beginBatch_149 : decode cX3_beginBatch 149 = .ok (.putfield 74, 3) := by decide +kernel
theorem dX3_beginBatch_152 : decode cX3_beginBatch 152 = .ok (.iload 7, 2) := by decide +kernel
theorem dX3_beginBatch_154 : decode cX3_beginBatch 154 = .ok (.ireturn, 1) := by decide +kernel
theorem dX3_lowestFreeNumber_0 : decode cX3_lowestFreeNumber 0 = .ok (.iconst 0, 1) := by decide +kernel
theorem dX3_lowestFreeNumber_1 : decode cX3_lowestFreeNumber 1 = .ok (.istore_n 1, 1) := by decide +kernel
theorem dX3_lowestFreeNumber_2 : decode cX3_lowestFreeNumber 2 = .ok (.iload_n 1, 1) := by decide +kernel
theorem dX3_lowestFreeNumber_3 : decode cX3_lowestFreeNumber 3 = .ok (.aload_n 0, 1) := by decide +kernel
theorem dX3_lowestFreeNumber_4 : decode cX3_lowestFreeNumber 4 = .ok (.getfield 31, 3) := by decide +kernel
theorem dX3_lowestFreeNumber_7 : decode cX3_lowestFreeNumber 7 = .ok (.arraylength, 1) := by decide +kernel
theorem dX3_lowestFreeNumber_8 : decode cX3_lowestFreeNumber 8 = .ok (.if_icmp .ge 23, 3) := by decide +kernel
theorem dX3_lowestFreeNumber_11 : decode cX3_lowestFreeNumber 11 = .ok (.aload_n 0, 1) := by decide +kernel
theorem dX3_lowestFreeNumber_12 : decode cX3_lowestFreeNumber 12 = .ok (.getfield 31, 3) := by decide +kernel
theorem dX3_lowestFreeNumber_15 : decode cX3_lowestFreeNumber 15 = .ok (.iload_n 1, 1) := by decide +kernel
theorem dX3_lowestFreeNumber_16 : decode cX3_lowestFreeNumber 16 = .ok (.aaload, 1) := by decide +kernel
theorem dX3_lowestFreeNumber_17 : decode cX3_lowestFreeNumber 17 = .ok (.getfield 102, 3) := by decide +kernel
theorem dX3_lowestFreeNumber_20 : decode cX3_lowestFreeNumber 20 = .ok (.ifCond .ne 5, 3) := by decide +kernel
theorem dX3_lowestFreeNumber_23 : decode cX3_lowestFreeNumber 23 = .ok (.iload_n 1, 1) := by decide +kernel
theorem dX3_lowestFreeNumber_24 : decode cX3_lowestFreeNumber 24 = .ok (.ireturn, 1) := by decide +kernel
theorem dX3_lowestFreeNumber_25 : decode cX3_lowestFreeNumber 25 = .ok (.iinc 1 1, 3) := by decide +kernel
theorem dX3_lowestFreeNumber_28 : decode cX3_lowestFreeNumber 28 = .ok (.goto (-26), 3) := by decide +kernel
theorem dX3_lowestFreeNumber_31 : decode cX3_lowestFreeNumber 31 = .ok (.iconst (-1), 1) := by decide +kernel
theorem dX3_lowestFreeNumber_32 : decode cX3_lowestFreeNumber 32 = .ok (.ireturn, 1) := by decide +kernel
theorem dX3_occupy_0 : decode cX3_occupy 0 = .ok (.aload_n 0, 1) := by decide +kernel
theorem dX3_occupy_1 : decode cX3_occupy 1 = .ok (.aload_n 1, 1) := by decide +kernel
theorem dX3_occupy_2 : decode cX3_occupy 2 = .ok (.iload_n 3, 1) := by decide +kernel
theorem dX3_occupy_3 : decode cX3_occupy 3 = .ok (.invokevirtual 192, 3) := by decide +kernel
theorem dX3_occupy_6 : decode cX3_occupy 6 = .ok (.istore 4, 2) := by decide +kernel
theorem dX3_occupy_8 : decode cX3_occupy 8 = .ok (.aload_n 1, 1) := by decide +kernel
theorem dX3_occupy_9 : decode cX3_occupy 9 = .ok (.dup, 1) := by decide +kernel
theorem dX3_occupy_10 : decode cX3_occupy 10 = .ok (.getfield 196, 3) := by decide +kernel
theorem dX3_occupy_13 : decode cX3_occupy 13 = .ok (.iload 4, 2) := by decide +kernel
theorem dX3_occupy_15 : decode cX3_occupy 15 = .ok (.iadd, 1) := by decide +kernel
theorem dX3_occupy_16 : decode cX3_occupy 16 = .ok (.putfield 196, 3) := by decide +kernel
theorem dX3_occupy_19 : decode cX3_occupy 19 = .ok (.aload_n 1, 1) := by decide +kernel
theorem dX3_occupy_20 : decode cX3_occupy 20 = .ok (.iload_n 2, 1) := by decide +kernel
theorem dX3_occupy_21 : decode cX3_occupy 21 = .ok (.putfield 199, 3) := by decide +kernel
theorem dX3_occupy_24 : decode cX3_occupy 24 = .ok (.aload_n 1, 1) := by decide +kernel
theorem dX3_occupy_25 : decode cX3_occupy 25 = .ok (.iload_n 3, 1) := by decide +kernel
theorem dX3_occupy_26 : decode cX3_occupy 26 = .ok (.putfield 202, 3) := by decide +kernel
theorem dX3_occupy_29 : decode cX3_occupy 29 = .ok (.iload 4, 2) := by decide +kernel
theorem dX3_occupy_31 : decode cX3_occupy 31 = .ok (.ireturn, 1) := by decide +kernel
theorem dX3_cleaningMinutes_0 : decode cX3_cleaningMinutes 0 = .ok (.aload_n 1, 1) := by decide +kernel
theorem dX3_cleaningMinutes_1 : decode cX3_cleaningMinutes 1 = .ok (.getfield 202, 3) := by decide +kernel
theorem dX3_cleaningMinutes_4 : decode cX3_cleaningMinutes 4 = .ok (.iconst (-1), 1) := by decide +kernel
theorem dX3_cleaningMinutes_5 : decode cX3_cleaningMinutes 5 = .ok (.if_icmp .ne 5, 3) := by decide +kernel
theorem dX3_cleaningMinutes_8 : decode cX3_cleaningMinutes 8 = .ok (.iconst 0, 1) := by decide +kernel
theorem dX3_cleaningMinutes_9 : decode cX3_cleaningMinutes 9 = .ok (.ireturn, 1) := by decide +kernel
theorem dX3_cleaningMinutes_10 : decode cX3_cleaningMinutes 10 = .ok (.aload_n 0, 1) := by decide +kernel
theorem dX3_cleaningMinutes_11 : decode cX3_cleaningMinutes 11 = .ok (.getfield 35, 3) := by decide +kernel
theorem dX3_cleaningMinutes_14 : decode cX3_cleaningMinutes 14 = .ok (.aload_n 1, 1) := by decide +kernel
theorem dX3_cleaningMinutes_15 : decode cX3_cleaningMinutes 15 = .ok (.getfield 202, 3) := by decide +kernel
theorem dX3_cleaningMinutes_18 : decode cX3_cleaningMinutes 18 = .ok (.iconst 4, 1) := by decide +kernel
theorem dX3_cleaningMinutes_19 : decode cX3_cleaningMinutes 19 = .ok (.imul, 1) := by decide +kernel
theorem dX3_cleaningMinutes_20 : decode cX3_cleaningMinutes 20 = .ok (.iload_n 2, 1) := by decide +kernel
theorem dX3_cleaningMinutes_21 : decode cX3_cleaningMinutes 21 = .ok (.iadd, 1) := by decide +kernel
theorem dX3_cleaningMinutes_22 : decode cX3_cleaningMinutes 22 = .ok (.invokestatic 168, 3) := by decide +kernel
theorem dX3_cleaningMinutes_25 : decode cX3_cleaningMinutes 25 = .ok (.ireturn, 1) := by decide +kernel
theorem dX3_moveBatch_0 : decode cX3_moveBatch 0 = .ok (.aload_n 0, 1) := by decide +kernel
theorem dX3_moveBatch_1 : decode cX3_moveBatch 1 = .ok (.iload_n 1, 1) := by decide +kernel
theorem dX3_moveBatch_2 : decode cX3_moveBatch 2 = .ok (.invokevirtual 205, 3) := by decide +kernel
theorem dX3_moveBatch_5 : decode cX3_moveBatch 5 = .ok (.astore_n 3, 1) := by decide +kernel
theorem dX3_moveBatch_6 : decode cX3_moveBatch 6 = .ok (.aload_n 0, 1) := by decide +kernel
theorem dX3_moveBatch_7 : decode cX3_moveBatch 7 = .ok (.iload_n 2, 1) := by decide +kernel
theorem dX3_moveBatch_8 : decode cX3_moveBatch 8 = .ok (.invokevirtual 145, 3) := by decide +kernel
theorem dX3_moveBatch_11 : decode cX3_moveBatch 11 = .ok (.astore 4, 2) := by decide +kernel
theorem dX3_moveBatch_13 : decode cX3_moveBatch 13 = .ok (.aload_n 3, 1) := by decide +kernel
theorem dX3_moveBatch_14 : decode cX3_moveBatch 14 = .ok (.ifnull 8, 3) := by decide +kernel
theorem dX3_moveBatch_17 : decode cX3_moveBatch 17 = .ok (.aload 4, 2) := by decide +kernel
theorem dX3_moveBatch_19 : decode cX3_moveBatch 19 = .ok (.ifnonnull 5, 3) := by decide +kernel
theorem dX3_moveBatch_22 : decode cX3_moveBatch 22 = .ok (.iconst (-1), 1) := by decide +kernel
theorem dX3_moveBatch_23 : decode cX3_moveBatch 23 = .ok (.ireturn, 1) := by decide +kernel
theorem dX3_moveBatch_24 : decode cX3_moveBatch 24 = .ok (.aload_n 0, 1) := by decide +kernel
theorem dX3_moveBatch_25 : decode cX3_moveBatch 25 = .ok (.aload_n 3, 1) := by decide +kernel
theorem dX3_moveBatch_26 : decode cX3_moveBatch 26 = .ok (.iload_n 2, 1) := by decide +kernel
theorem dX3_moveBatch_27 : decode cX3_moveBatch 27 = .ok (.invokevirtual 209, 3) := by decide +kernel
theorem dX3_moveBatch_30 : decode cX3_moveBatch 30 = .ok (.istore 5, 2) := by decide +kernel
theorem dX3_moveBatch_32 : decode cX3_moveBatch 32 = .ok (.aload_n 0, 1) := by decide +kernel
theorem dX3_moveBatch_33 : decode cX3_moveBatch 33 = .ok (.iload 5, 2) := by decide +kernel
theorem dX3_moveBatch_35 : decode cX3_moveBatch 35 = .ok (.invokevirtual 159, 3) := by decide +kernel
theorem dX3_moveBatch_38 : decode cX3_moveBatch 38 = .ok (.astore 6, 2) := by decide +kernel
theorem dX3_moveBatch_40 : decode cX3_moveBatch 40 = .ok (.aload_n 0, 1) := by decide +kernel
theorem dX3_moveBatch_41 : decode cX3_moveBatch 41 = .ok (.aload_n 3, 1) := by decide +kernel
theorem dX3_moveBatch_42 : decode cX3_moveBatch 42 = .ok (.invokevirtual 213, 3) := by decide +kernel
theorem dX3_moveBatch_45 : decode cX3_moveBatch 45 = .ok (.astore 7, 2) := by decide +kernel
theorem dX3_moveBatch_47 : decode cX3_moveBatch 47 = .ok (.aload 6, 2) := by decide +kernel
theorem dX3_moveBatch_49 : decode cX3_moveBatch 49 = .ok (.ifnull 8, 3) := by decide +kernel
theorem dX3_moveBatch_52 : decode cX3_moveBatch 52 = .ok (.aload 7, 2) := by decide +kernel
theorem dX3_moveBatch_54 : decode cX3_moveBatch 54 = .ok (.ifnonnull 6, 3) := by decide +kernel
theorem dX3_moveBatch_57 : decode cX3_moveBatch 57 = .ok (.bipush (-2), 2) := by decide +kernel
theorem dX3_moveBatch_59 : decode cX3_moveBatch 59 = .ok (.ireturn, 1) := by decide +kernel
theorem dX3_moveBatch_60 : decode cX3_moveBatch 60 = .ok (.aload_n 0, 1) := by decide +kernel
theorem dX3_moveBatch_61 : decode cX3_moveBatch 61 = .ok (.aload_n 3, 1) := by decide +kernel
theorem dX3_moveBatch_62 : decode cX3_moveBatch 62 = .ok (.invokevirtual 217, 3) := by decide +kernel
theorem dX3_moveBatch_65 : decode cX3_moveBatch 65 = .ok (.aload_n 0, 1) := by decide +kernel
theorem dX3_moveBatch_66 : decode cX3_moveBatch 66 = .ok (.aload 4, 2) := by decide +kernel
theorem dX3_moveBatch_68 : decode cX3_moveBatch 68 = .ok (.iload_n 1, 1) := by decide +kernel
theorem dX3_moveBatch_69 : decode cX3_moveBatch 69 = .ok (.aload_n 3, 1) := by decide +kernel
theorem dX3_moveBatch_70 : decode cX3_moveBatch 70 = .ok (.getfield 220, 3) := by decide +kernel
theorem dX3_moveBatch_73 : decode cX3_moveBatch 73 = .ok (.invokevirtual 180, 3) := by decide +kernel
theorem dX3_moveBatch_76 : decode cX3_moveBatch 76 = .ok (.istore 8, 2) := by decide +kernel
theorem dX3_moveBatch_78 : decode cX3_moveBatch 78 = .ok (.aload 6, 2) := by decide +kernel
theorem dX3_moveBatch_80 : decode cX3_moveBatch 80 = .ok (.aload_n 0, 1) := by decide +kernel
theorem dX3_moveBatch_81 : decode cX3_moveBatch 81 = .ok (.getfield 71, 3) := by decide +kernel
theorem dX3_moveBatch_84 : decode cX3_moveBatch 84 = .ok (.iload 8, 2) := by decide +kernel
theorem dX3_moveBatch_86 : decode cX3_moveBatch 86 = .ok (.iadd, 1) := by decide +kernel
theorem dX3_moveBatch_87 : decode cX3_moveBatch 87 = .ok (.aload 6, 2) := by decide +kernel
theorem dX3_moveBatch_89 : decode cX3_moveBatch 89 = .ok (.aload_n 3, 1) := by decide +kernel
theorem dX3_moveBatch_90 : decode cX3_moveBatch 90 = .ok (.getfield 221, 3) := by decide +kernel
theorem dX3_moveBatch_93 : decode cX3_moveBatch 93 = .ok (.invokevirtual 224, 3) := by decide +kernel
theorem dX3_moveBatch_96 : decode cX3_moveBatch 96 = .ok (.iadd, 1) := by decide +kernel
theorem dX3_moveBatch_97 : decode cX3_moveBatch 97 = .ok (.putfield 227, 3) := by decide +kernel
theorem dX3_moveBatch_100 : decode cX3_moveBatch 100 = .ok (.aload 6, 2) := by decide +kernel
theorem dX3_moveBatch_102 : decode cX3_moveBatch 102 = .ok (.dup, 1) := by decide +kernel
theorem dX3_moveBatch_103 : decode cX3_moveBatch 103 = .ok (.getfield 230, 3) := by decide +kernel
theorem dX3_moveBatch_106 : decode cX3_moveBatch 106 = .ok (.aload_n 3, 1) := by decide +kernel
theorem dX3_moveBatch_107 : decode cX3_moveBatch 107 = .ok (.getfield 221, 3) := by decide +kernel
theorem dX3_moveBatch_110 : decode cX3_moveBatch 110 = .ok (.iadd, 1) := by decide +kernel
theorem dX3_moveBatch_111 : decode cX3_moveBatch 111 = .ok (.putfield 230, 3) := by decide +kernel
theorem dX3_moveBatch_114 : decode cX3_moveBatch 114 = .ok (.aload_n 0, 1) := by decide +kernel
theorem dX3_moveBatch_115 : decode cX3_moveBatch 115 = .ok (.aload_n 3, 1) := by decide +kernel
theorem dX3_moveBatch_116 : decode cX3_moveBatch 116 = .ok (.getfield 221, 3) := by decide +kernel
theorem dX3_moveBatch_119 : decode cX3_moveBatch 119 = .ok (.invokevirtual 233, 3) := by decide +kernel
theorem dX3_moveBatch_122 : decode cX3_moveBatch 122 = .ok (.istore 9, 2) := by decide +kernel
theorem dX3_moveBatch_124 : decode cX3_moveBatch 124 = .ok (.aload_n 0, 1) := by decide +kernel
theorem dX3_moveBatch_125 : decode cX3_moveBatch 125 = .ok (.dup, 1) := by decide +kernel
theorem dX3_moveBatch_126 : decode cX3_moveBatch 126 = .ok (.getfield 80, 3) := by decide +kernel
theorem dX3_moveBatch_129 : decode cX3_moveBatch 129 = .ok (.iload 9, 2) := by decide +kernel
theorem dX3_moveBatch_131 : decode cX3_moveBatch 131 = .ok (.iadd, 1) := by decide +kernel
theorem dX3_moveBatch_132 : decode cX3_moveBatch 132 = .ok (.putfield 80, 3) := by decide +kernel
theorem dX3_moveBatch_135 : decode cX3_moveBatch 135 = .ok (.aload_n 3, 1) := by decide +kernel
theorem dX3_moveBatch_136 : decode cX3_moveBatch 136 = .ok (.dup, 1) := by decide +kernel
theorem dX3_moveBatch_137 : decode cX3_moveBatch 137 = .ok (.getfield 221, 3) := by decide +kernel
theorem dX3_moveBatch_140 : decode cX3_moveBatch 140 = .ok (.iload 9, 2) := by decide +kernel
theorem dX3_moveBatch_142 : decode cX3_moveBatch 142 = .ok (.isub, 1) := by decide +kernel
theorem dX3_moveBatch_143 : decode cX3_moveBatch 143 = .ok (.putfield 221, 3) := by decide +kernel
theorem dX3_moveBatch_146 : decode cX3_moveBatch 146 = .ok (.aload_n 3, 1) := by decide +kernel
theorem dX3_moveBatch_147 : decode cX3_moveBatch 147 = .ok (.aload_n 3, 1) := by decide +kernel
theorem dX3_moveBatch_148 : decode cX3_moveBatch 148 = .ok (.getfield 236, 3) := by decide +kernel
theorem dX3_moveBatch_151 : decode cX3_moveBatch 151 = .ok (.iconst 1, 1) := by decide +kernel
theorem dX3_moveBatch_152 : decode cX3_moveBatch 152 = .ok (.iadd, 1) := by decide +kernel
theorem dX3_moveBatch_153 : decode cX3_moveBatch 153 = .ok (.aload 7, 2) := by decide +kernel
theorem dX3_moveBatch_155 : decode cX3_moveBatch 155 = .ok (.iload_n 2, 1) := by decide +kernel
theorem dX3_moveBatch_156 : decode cX3_moveBatch 156 = .ok (.aload 6, 2) := by decide +kernel
theorem dX3_moveBatch_158 : decode cX3_moveBatch 158 = .ok (.getfield 227, 3) := by decide +kernel
theorem dX3_moveBatch_161 : decode cX3_moveBatch 161 = .ok (.invokevirtual 188, 3) := by decide +kernel
theorem dX3_moveBatch_164 : decode cX3_moveBatch 164 = .ok (.iload 5, 2) := by decide +kernel
theorem dX3_moveBatch_166 : decode cX3_moveBatch 166 = .ok (.ireturn, 1) := by decide +kernel
theorem dX3_lineTo_0 : decode cX3_lineTo 0 = .ok (.aload_n 0, 1) := by decide +kernel
theorem dX3_lineTo_1 : decode cX3_lineTo 1 = .ok (.iload_n 2, 1) := by decide +kernel
theorem dX3_lineTo_2 : decode cX3_lineTo 2 = .ok (.invokevirtual 145, 3) := by decide +kernel
theorem dX3_lineTo_5 : decode cX3_lineTo 5 = .ok (.astore_n 3, 1) := by decide +kernel
theorem dX3_lineTo_6 : decode cX3_lineTo 6 = .ok (.aload_n 0, 1) := by decide +kernel
theorem dX3_lineTo_7 : decode cX3_lineTo 7 = .ok (.aload_n 1, 1) := by decide +kernel
theorem dX3_lineTo_8 : decode cX3_lineTo 8 = .ok (.invokevirtual 213, 3) := by decide +kernel
theorem dX3_lineTo_11 : decode cX3_lineTo 11 = .ok (.astore 4, 2) := by decide +kernel
theorem dX3_lineTo_13 : decode cX3_lineTo 13 = .ok (.aload_n 3, 1) := by decide +kernel
theorem dX3_lineTo_14 : decode cX3_lineTo 14 = .ok (.ifnull 35, 3) := by decide +kernel
theorem dX3_lineTo_17 : decode cX3_lineTo 17 = .ok (.aload 4, 2) := by decide +kernel
theorem dX3_lineTo_19 : decode cX3_lineTo 19 = .ok (.ifnull 30, 3) := by decide +kernel
theorem dX3_lineTo_22 : decode cX3_lineTo 22 = .ok (.aload_n 1, 1) := by decide +kernel
theorem dX3_lineTo_23 : decode cX3_lineTo 23 = .ok (.aload_n 0, 1) := by decide +kernel
theorem dX3_lineTo_24 : decode cX3_lineTo 24 = .ok (.getfield 71, 3) := by decide +kernel
theorem dX3_lineTo_27 : decode cX3_lineTo 27 = .ok (.invokevirtual 239, 3) := by decide +kernel
theorem dX3_lineTo_30 : decode cX3_lineTo 30 = .ok (.ifCond .eq 19, 3) := by decide +kernel
theorem dX3_lineTo_33 : decode cX3_lineTo 33 = .ok (.aload_n 3, 1) := by decide +kernel
theorem dX3_lineTo_34 : decode cX3_lineTo 34 = .ok (.aload 4, 2) := by decide +kernel
theorem dX3_lineTo_36 : decode cX3_lineTo 36 = .ok (.getfield 128, 3) := by decide +kernel
theorem dX3_lineTo_39 : decode cX3_lineTo 39 = .ok (.aload_n 1, 1) := by decide +kernel
theorem dX3_lineTo_40 : decode cX3_lineTo 40 = .ok (.getfield 221, 3) := by decide +kernel
theorem dX3_lineTo_43 : decode cX3_lineTo 43 = .ok (.invokevirtual 176, 3) := by decide +kernel
theorem dX3_lineTo_46 : decode cX3_lineTo 46 = .ok (.ifCond .ne 5, 3) := by decide +kernel
theorem dX3_lineTo_49 : decode cX3_lineTo 49 = .ok (.iconst (-1), 1) := by decide +kernel
theorem dX3_lineTo_50 : decode cX3_lineTo 50 = .ok (.ireturn, 1) := by decide +kernel
theorem dX3_lineTo_51 : decode cX3_lineTo 51 = .ok (.iconst 0, 1) := by decide +kernel
theorem dX3_lineTo_52 : decode cX3_lineTo 52 = .ok (.istore 5, 2) := by decide +kernel
theorem dX3_lineTo_54 : decode cX3_lineTo 54 = .ok (.iload 5, 2) := by decide +kernel
theorem dX3_lineTo_56 : decode cX3_lineTo 56 = .ok (.aload_n 0, 1) := by decide +kernel
theorem dX3_lineTo_57 : decode cX3_lineTo 57 = .ok (.getfield 68, 3) := by decide +kernel
theorem dX3_lineTo_60 : decode cX3_lineTo 60 = .ok (.if_icmp .ge 57, 3) := by decide +kernel
theorem dX3_lineTo_63 : decode cX3_lineTo 63 = .ok (.iload 5, 2) := by decide +kernel
theorem dX3_lineTo_65 : decode cX3_lineTo 65 = .ok (.aload_n 0, 1) := by decide +kernel
theorem dX3_lineTo_66 : decode cX3_lineTo 66 = .ok (.getfield 25, 3) := by decide +kernel
theorem dX3_lineTo_69 : decode cX3_lineTo 69 = .ok (.arraylength, 1) := by decide +kernel
theorem dX3_lineTo_70 : decode cX3_lineTo 70 = .ok (.if_icmp .ge 47, 3) := by decide +kernel
theorem dX3_lineTo_73 : decode cX3_lineTo 73 = .ok (.aload_n 0, 1) := by decide +kernel
theorem dX3_lineTo_74 : decode cX3_lineTo 74 = .ok (.getfield 25, 3) := by decide +kernel
theorem dX3_lineTo_77 : decode cX3_lineTo 77 = .ok (.iload 5, 2) := by decide +kernel
theorem dX3_lineTo_79 : decode cX3_lineTo 79 = .ok (.aaload, 1) := by decide +kernel
theorem dX3_lineTo_80 : decode cX3_lineTo 80 = .ok (.aload_n 0, 1) := by decide +kernel
theorem dX3_lineTo_81 : decode cX3_lineTo 81 = .ok (.getfield 71, 3) := by decide +kernel
theorem dX3_lineTo_84 : decode cX3_lineTo 84 = .ok (.invokevirtual 242, 3) := by decide +kernel
theorem dX3_lineTo_87 : decode cX3_lineTo 87 = .ok (.ifCond .eq 24, 3) := by decide +kernel
theorem dX3_lineTo_90 : decode cX3_lineTo 90 = .ok (.aload_n 0, 1) := by decide +kernel
theorem dX3_lineTo_91 : decode cX3_lineTo 91 = .ok (.getfield 25, 3) := by decide +kernel
theorem dX3_lineTo_94 : decode cX3_lineTo 94 = .ok (.iload 5, 2) := by decide +kernel
theorem dX3_lineTo_96 : decode cX3_lineTo 96 = .ok (.aaload, 1) := by decide +kernel
theorem dX3_lineTo_97 : decode cX3_lineTo 97 = .ok (.aload_n 1, 1) := by decide +kernel
theorem dX3_lineTo_98 : decode cX3_lineTo 98 = .ok (.getfield 245, 3) := by decide +kernel
theorem dX3_lineTo_101 : decode cX3_lineTo 101 = .ok (.iload_n 2, 1) := by decide +kernel
theorem dX3_lineTo_102 : decode cX3_lineTo 102 = .ok (.invokevirtual 248, 3) := by decide +kernel
theorem dX3_lineTo_105 : decode cX3_lineTo 105 = .ok (.ifCond .eq 6, 3) := by decide +kernel
theorem dX3_lineTo_108 : decode cX3_lineTo 108 = .ok (.iload 5, 2) := by decide +kernel
theorem dX3_lineTo_110 : decode cX3_lineTo 110 = .ok (.ireturn, 1) := by decide +kernel
theorem dX3_lineTo_111 : decode cX3_lineTo 111 = .ok (.iinc 5 1, 3) := by decide +kernel
theorem dX3_lineTo_114 : decode cX3_lineTo 114 = .ok (.goto (-60), 3) := by decide +kernel
theorem dX3_lineTo_117 : decode cX3_lineTo 117 = .ok (.iconst (-1), 1) := by decide +kernel
theorem dX3_lineTo_118 : decode cX3_lineTo 118 = .ok (.ireturn, 1) := by decide +kernel
theorem dX3_nextStage_0 : decode cX3_nextStage 0 = .ok (.aload_n 0, 1) := by decide +kernel
theorem dX3_nextStage_1 : decode cX3_nextStage 1 = .ok (.aload_n 1, 1) := by decide +kernel
theorem dX3_nextStage_2 : decode cX3_nextStage 2 = .ok (.getfield 142, 3) := by decide +kernel
theorem dX3_nextStage_5 : decode cX3_nextStage 5 = .ok (.invokevirtual 110, 3) := by decide +kernel
theorem dX3_nextStage_8 : decode cX3_nextStage 8 = .ok (.astore_n 2, 1) := by decide +kernel
theorem dX3_nextStage_9 : decode cX3_nextStage 9 = .ok (.aload_n 2, 1) := by decide +kernel
theorem dX3_nextStage_10 : decode cX3_nextStage 10 = .ok (.ifnonnull 7, 3) := by decide +kernel
theorem dX3_nextStage_13 : decode cX3_nextStage 13 = .ok (.aconst_null, 1) := by decide +kernel
theorem dX3_nextStage_14 : decode cX3_nextStage 14 = .ok (.goto 13, 3) := by decide +kernel
theorem dX3_nextStage_17 : decode cX3_nextStage 17 = .ok (.aload_n 2, 1) := by decide +kernel
theorem dX3_nextStage_18 : decode cX3_nextStage 18 = .ok (.aload_n 1, 1) := by decide +kernel
theorem dX3_nextStage_19 : decode cX3_nextStage 19 = .ok (.getfield 236, 3) := by decide +kernel
theorem dX3_nextStage_22 : decode cX3_nextStage 22 = .ok (.iconst 1, 1) := by decide +kernel
theorem dX3_nextStage_23 : decode cX3_nextStage 23 = .ok (.iadd, 1) := by decide +kernel
theorem dX3_nextStage_24 : decode cX3_nextStage 24 = .ok (.invokevirtual 124, 3) := by decide +kernel
theorem dX3_nextStage_27 : decode cX3_nextStage 27 = .ok (.areturn, 1) := by decide +kernel
theorem dX3_transferLoss_0 : decode cX3_transferLoss 0 = .ok (.iload_n 1, 1) := by decide +kernel
theorem dX3_transferLoss_1 : decode cX3_transferLoss 1 = .ok (.aload_n 0, 1) := by decide +kernel
theorem dX3_transferLoss_2 : decode cX3_transferLoss 2 = .ok (.getfield 39, 3) := by decide +kernel
theorem dX3_transferLoss_5 : decode cX3_transferLoss 5 = .ok (.iconst 0, 1) := by decide +kernel
theorem dX3_transferLoss_6 : decode cX3_transferLoss 6 = .ok (.invokestatic 168, 3) := by decide +kernel
theorem dX3_transferLoss_9 : decode cX3_transferLoss 9 = .ok (.imul, 1) := by decide +kernel
theorem dX3_transferLoss_10 : decode cX3_transferLoss 10 = .ok (.sipush 1000, 3) := by decide +kernel
theorem dX3_transferLoss_13 : decode cX3_transferLoss 13 = .ok (.idiv, 1) := by decide +kernel
theorem dX3_transferLoss_14 : decode cX3_transferLoss 14 = .ok (.ireturn, 1) := by decide +kernel
theorem dX3_leaveVessel_0 : decode cX3_leaveVessel 0 = .ok (.aload_n 0, 1) := by decide +kernel
theorem dX3_leaveVessel_1 : decode cX3_leaveVessel 1 = .ok (.aload_n 1, 1) := by decide +kernel
theorem dX3_leaveVessel_2 : decode cX3_leaveVessel 2 = .ok (.getfield 245, 3) := by decide +kernel
theorem dX3_leaveVessel_5 : decode cX3_leaveVessel 5 = .ok (.invokevirtual 145, 3) := by decide +kernel
theorem dX3_leaveVessel_8 : decode cX3_leaveVessel 8 = .ok (.astore_n 2, 1) := by decide +kernel
theorem dX3_leaveVessel_9 : decode cX3_leaveVessel 9 = .ok (.aload_n 2, 1) := by decide +kernel
theorem dX3_leaveVessel_10 : decode cX3_leaveVessel 10 = .ok (.ifnull 8, 3) := by decide +kernel
theorem dX3_leaveVessel_13 : decode cX3_leaveVessel 13 = .ok (.aload_n 2, 1) := by decide +kernel
theorem dX3_leaveVessel_14 : decode cX3_leaveVessel 14 = .ok (.iconst (-1), 1) := by decide +kernel
theorem dX3_leaveVessel_15 : decode cX3_leaveVessel 15 = .ok (.putfield 199, 3) := by decide +kernel
theorem dX3_leaveVessel_18 : decode cX3_leaveVessel 18 = .ok (.return_, 1) := by decide +kernel
theorem dX3_endBatch_0 : decode cX3_endBatch 0 = .ok (.aload_n 0, 1) := by decide +kernel
theorem dX3_endBatch_1 : decode cX3_endBatch 1 = .ok (.iload_n 1, 1) := by decide +kernel
theorem dX3_endBatch_2 : decode cX3_endBatch 2 = .ok (.invokevirtual 205, 3) := by decide +kernel
theorem dX3_endBatch_5 : decode cX3_endBatch 5 = .ok (.astore_n 2, 1) := by decide +kernel
theorem dX3_endBatch_6 : decode cX3_endBatch 6 = .ok (.aload_n 2, 1) := by decide +kernel
theorem dX3_endBatch_7 : decode cX3_endBatch 7 = .ok (.ifnonnull 5, 3) := by decide +kernel
theorem dX3_endBatch_10 : decode cX3_endBatch 10 = .ok (.iconst (-1), 1) := by decide +kernel
theorem dX3_endBatch_11 : decode cX3_endBatch 11 = .ok (.ireturn, 1) := by decide +kernel
theorem dX3_endBatch_12 : decode cX3_endBatch 12 = .ok (.aload_n 2, 1) := by decide +kernel
theorem dX3_endBatch_13 : decode cX3_endBatch 13 = .ok (.aload_n 0, 1) := by decide +kernel
theorem dX3_endBatch_14 : decode cX3_endBatch 14 = .ok (.getfield 71, 3) := by decide +kernel
theorem dX3_endBatch_17 : decode cX3_endBatch 17 = .ok (.invokevirtual 239, 3) := by decide +kernel
theorem dX3_endBatch_20 : decode cX3_endBatch 20 = .ok (.ifCond .eq 11, 3) := by decide +kernel
theorem dX3_endBatch_23 : decode cX3_endBatch 23 = .ok (.aload_n 0, 1) := by decide +kernel
theorem dX3_endBatch_24 : decode cX3_endBatch 24 = .ok (.aload_n 2, 1) := by decide +kernel
theorem dX3_endBatch_25 : decode cX3_endBatch 25 = .ok (.invokevirtual 213, 3) := by decide +kernel
theorem dX3_endBatch_28 : decode cX3_endBatch 28 = .ok (.ifnull 6, 3) := by decide +kernel
theorem dX3_endBatch_31 : decode cX3_endBatch 31 = .ok (.bipush (-2), 2) := by decide +kernel
theorem dX3_endBatch_33 : decode cX3_endBatch 33 = .ok (.ireturn, 1) := by decide +kernel
theorem dX3_endBatch_34 : decode cX3_endBatch 34 = .ok (.aload_n 2, 1) := by decide +kernel
theorem dX3_endBatch_35 : decode cX3_endBatch 35 = .ok (.getfield 251, 3) := by decide +kernel
theorem dX3_endBatch_38 : decode cX3_endBatch 38 = .ok (.ifCond .eq 18, 3) := by decide +kernel
theorem dX3_endBatch_41 : decode cX3_endBatch 41 = .ok (.aload_n 0, 1) := by decide +kernel
theorem dX3_endBatch_42 : decode cX3_endBatch 42 = .ok (.aload_n 2, 1) := by decide +kernel
theorem dX3_endBatch_43 : decode cX3_endBatch 43 = .ok (.getfield 220, 3) := by decide +kernel
theorem dX3_endBatch_46 : decode cX3_endBatch 46 = .ok (.aload_n 2, 1) := by decide +kernel
theorem dX3_endBatch_47 : decode cX3_endBatch 47 = .ok (.getfield 221, 3) := by decide +kernel
theorem dX3_endBatch_50 : decode cX3_endBatch 50 = .ok (.invokevirtual 254, 3) := by decide +kernel
theorem dX3_endBatch_53 : decode cX3_endBatch 53 = .ok (.goto 26, 3) := by decide +kernel
theorem dX3_endBatch_56 : decode cX3_endBatch 56 = .ok (.aload_n 0, 1) := by decide +kernel
theorem dX3_endBatch_57 : decode cX3_endBatch 57 = .ok (.dup, 1) := by decide +kernel
theorem dX3_endBatch_58 : decode cX3_endBatch 58 = .ok (.getfield 77, 3) := by decide +kernel
theorem dX3_endBatch_61 : decode cX3_endBatch 61 = .ok (.aload_n 2, 1) := by decide +kernel
theorem dX3_endBatch_62 : decode cX3_endBatch 62 = .ok (.getfield 221, 3) := by decide +kernel
theorem dX3_endBatch_65 : decode cX3_endBatch 65 = .ok (.iadd, 1) := by decide +kernel
theorem dX3_endBatch_66 : decode cX3_endBatch 66 = .ok (.putfield 77, 3) := by decide +kernel
theorem dX3_endBatch_69 : decode cX3_endBatch 69 = .ok (.aload_n 0, 1) := by decide +kernel
theorem dX3_endBatch_70 : decode cX3_endBatch 70 = .ok (.dup, 1) := by decide +kernel
theorem dX3_endBatch_71 : decode cX3_endBatch 71 = .ok (.getfield 83, 3) := by decide +kernel
theorem dX3_endBatch_74 : decode cX3_endBatch 74 = .ok (.iconst 1, 1) := by decide +kernel
theorem dX3_endBatch_75 : decode cX3_endBatch 75 = .ok (.iadd, 1) := by decide +kernel
theorem dX3_endBatch_76 : decode cX3_endBatch 76 = .ok (.putfield 83, 3) := by decide +kernel
theorem dX3_endBatch_79 : decode cX3_endBatch 79 = .ok (.aload_n 0, 1) := by decide +kernel
theorem dX3_endBatch_80 : decode cX3_endBatch 80 = .ok (.aload_n 2, 1) := by decide +kernel
theorem dX3_endBatch_81 : decode cX3_endBatch 81 = .ok (.invokevirtual 258, 3) := by decide +kernel
theorem dX3_endBatch_84 : decode cX3_endBatch 84 = .ok (.aload_n 2, 1) := by decide +kernel
theorem dX3_endBatch_85 : decode cX3_endBatch 85 = .ok (.getfield 221, 3) := by decide +kernel
theorem dX3_endBatch_88 : decode cX3_endBatch 88 = .ok (.ireturn, 1) := by decide +kernel
theorem dX3_throwAway_0 : decode cX3_throwAway 0 = .ok (.aload_n 0, 1) := by decide +kernel
theorem dX3_throwAway_1 : decode cX3_throwAway 1 = .ok (.iload_n 1, 1) := by decide +kernel
theorem dX3_throwAway_2 : decode cX3_throwAway 2 = .ok (.invokevirtual 205, 3) := by decide +kernel
theorem dX3_throwAway_5 : decode cX3_throwAway 5 = .ok (.astore_n 2, 1) := by decide +kernel
theorem dX3_throwAway_6 : decode cX3_throwAway 6 = .ok (.aload_n 2, 1) := by decide +kernel
theorem dX3_throwAway_7 : decode cX3_throwAway 7 = .ok (.ifnonnull 5, 3) := by decide +kernel
theorem dX3_throwAway_10 : decode cX3_throwAway 10 = .ok (.iconst (-1), 1) := by decide +kernel
theorem dX3_throwAway_11 : decode cX3_throwAway 11 = .ok (.ireturn, 1) := by decide +kernel
theorem dX3_throwAway_12 : decode cX3_throwAway 12 = .ok (.aload_n 0, 1) := by decide +kernel
theorem dX3_throwAway_13 : decode cX3_throwAway 13 = .ok (.dup, 1) := by decide +kernel
theorem dX3_throwAway_14 : decode cX3_throwAway 14 = .ok (.getfield 80, 3) := by decide +kernel
theorem dX3_throwAway_17 : decode cX3_throwAway 17 = .ok (.aload_n 2, 1) := by decide +kernel
theorem dX3_throwAway_18 : decode cX3_throwAway 18 = .ok (.getfield 221, 3) := by decide +kernel
theorem dX3_throwAway_21 : decode cX3_throwAway 21 = .ok (.iadd, 1) := by decide +kernel
theorem dX3_throwAway_22 : decode cX3_throwAway 22 = .ok (.putfield 80, 3) := by decide +kernel
theorem dX3_throwAway_25 : decode cX3_throwAway 25 = .ok (.aload_n 0, 1) := by decide +kernel
theorem dX3_throwAway_26 : decode cX3_throwAway 26 = .ok (.aload_n 2, 1) := by decide +kernel
theorem dX3_throwAway_27 : decode cX3_throwAway 27 = .ok (.invokevirtual 258, 3) := by decide +kernel
theorem dX3_throwAway_30 : decode cX3_throwAway 30 = .ok (.aload_n 2, 1) := by decide +kernel
theorem dX3_throwAway_31 : decode cX3_throwAway 31 = .ok (.getfield 221, 3) := by decide +kernel
theorem dX3_throwAway_34 : decode cX3_throwAway 34 = .ok (.ireturn, 1) := by decide +kernel
theorem dX3_remove_0 : decode cX3_remove 0 = .ok (.aload_n 0, 1) := by decide +kernel
theorem dX3_remove_1 : decode cX3_remove 1 = .ok (.aload_n 1, 1) := by decide +kernel
theorem dX3_remove_2 : decode cX3_remove 2 = .ok (.invokevirtual 217, 3) := by decide +kernel
theorem dX3_remove_5 : decode cX3_remove 5 = .ok (.aload_n 1, 1) := by decide +kernel
theorem dX3_remove_6 : decode cX3_remove 6 = .ok (.iconst 0, 1) := by decide +kernel
theorem dX3_remove_7 : decode cX3_remove 7 = .ok (.putfield 102, 3) := by decide +kernel
theorem dX3_remove_10 : decode cX3_remove 10 = .ok (.return_, 1) := by decide +kernel
theorem dX3_addOffGrade_0 : decode cX3_addOffGrade 0 = .ok (.aload_n 0, 1) := by decide +kernel
theorem dX3_addOffGrade_1 : decode cX3_addOffGrade 1 = .ok (.getfield 42, 3) := by decide +kernel
theorem dX3_addOffGrade_4 : decode cX3_addOffGrade 4 = .ok (.iload_n 1, 1) := by decide +kernel
theorem dX3_addOffGrade_5 : decode cX3_addOffGrade 5 = .ok (.aload_n 0, 1) := by decide +kernel
theorem dX3_addOffGrade_6 : decode cX3_addOffGrade 6 = .ok (.getfield 42, 3) := by decide +kernel
theorem dX3_addOffGrade_9 : decode cX3_addOffGrade 9 = .ok (.iload_n 1, 1) := by decide +kernel
theorem dX3_addOffGrade_10 : decode cX3_addOffGrade 10 = .ok (.invokestatic 168, 3) := by decide +kernel
theorem dX3_addOffGrade_13 : decode cX3_addOffGrade 13 = .ok (.iload_n 2, 1) := by decide +kernel
theorem dX3_addOffGrade_14 : decode cX3_addOffGrade 14 = .ok (.iadd, 1) := by decide +kernel
theorem dX3_addOffGrade_15 : decode cX3_addOffGrade 15 = .ok (.invokestatic 49, 3) := by decide +kernel
theorem dX3_addOffGrade_18 : decode cX3_addOffGrade 18 = .ok (.return_, 1) := by decide +kernel
theorem dX3_blendIn_0 : decode cX3_blendIn 0 = .ok (.aload_n 0, 1) := by decide +kernel
theorem dX3_blendIn_1 : decode cX3_blendIn 1 = .ok (.iload_n 1, 1) := by decide +kernel
theorem dX3_blendIn_2 : decode cX3_blendIn 2 = .ok (.invokevirtual 205, 3) := by decide +kernel
theorem dX3_blendIn_5 : decode cX3_blendIn 5 = .ok (.astore_n 3, 1) := by decide +kernel
theorem dX3_blendIn_6 : decode cX3_blendIn 6 = .ok (.aload_n 3, 1) := by decide +kernel
theorem dX3_blendIn_7 : decode cX3_blendIn 7 = .ok (.ifnull 14, 3) := by decide +kernel
theorem dX3_blendIn_10 : decode cX3_blendIn 10 = .ok (.iload_n 2, 1) := by decide +kernel
theorem dX3_blendIn_11 : decode cX3_blendIn 11 = .ok (.iconst 1, 1) := by decide +kernel
theorem dX3_blendIn_12 : decode cX3_blendIn 12 = .ok (.sipush 999, 3) := by decide +kernel
theorem dX3_blendIn_15 : decode cX3_blendIn 15 = .ok (.invokestatic 106, 3) := by decide +kernel
theorem dX3_blendIn_18 : decode cX3_blendIn 18 = .ok (.ifCond .ne 5, 3) := by decide +kernel
theorem dX3_blendIn_21 : decode cX3_blendIn 21 = .ok (.iconst (-1), 1) := by decide +kernel
theorem dX3_blendIn_22 : decode cX3_blendIn 22 = .ok (.ireturn, 1) := by decide +kernel
theorem dX3_blendIn_23 : decode cX3_blendIn 23 = .ok (.aload_n 0, 1) := by decide +kernel
theorem dX3_blendIn_24 : decode cX3_blendIn 24 = .ok (.aload_n 3, 1) := by decide +kernel
theorem dX3_blendIn_25 : decode cX3_blendIn 25 = .ok (.getfield 245, 3) := by decide +kernel
theorem dX3_blendIn_28 : decode cX3_blendIn 28 = .ok (.invokevirtual 145, 3) := by decide +kernel
theorem dX3_blendIn_31 : decode cX3_blendIn 31 = .ok (.astore 4, 2) := by decide +kernel
theorem dX3_blendIn_33 : decode cX3_blendIn 33 = .ok (.aload_n 3, 1) := by decide +kernel
theorem dX3_blendIn_34 : decode cX3_blendIn 34 = .ok (.getfield 261, 3) := by decide +kernel
theorem dX3_blendIn_37 : decode cX3_blendIn 37 = .ok (.aload_n 0, 1) := by decide +kernel
theorem dX3_blendIn_38 : decode cX3_blendIn 38 = .ok (.getfield 39, 3) := by decide +kernel
theorem dX3_blendIn_41 : decode cX3_blendIn 41 = .ok (.iconst 1, 1) := by decide +kernel
theorem dX3_blendIn_42 : decode cX3_blendIn 42 = .ok (.invokestatic 168, 3) := by decide +kernel
theorem dX3_blendIn_45 : decode cX3_blendIn 45 = .ok (.imul, 1) := by decide +kernel
theorem dX3_blendIn_46 : decode cX3_blendIn 46 = .ok (.bipush 100, 2) := by decide +kernel
theorem dX3_blendIn_48 : decode cX3_blendIn 48 = .ok (.idiv, 1) := by decide +kernel
theorem dX3_blendIn_49 : decode cX3_blendIn 49 = .ok (.istore 5, 2) := by decide +kernel
theorem dX3_blendIn_51 : decode cX3_blendIn 51 = .ok (.aload 4, 2) := by decide +kernel
theorem dX3_blendIn_53 : decode cX3_blendIn 53 = .ok (.ifnull 57, 3) := by decide +kernel
theorem dX3_blendIn_56 : decode cX3_blendIn 56 = .ok (.aload_n 3, 1) := by decide +kernel
theorem dX3_blendIn_57 : decode cX3_blendIn 57 = .ok (.getfield 236, 3) := by decide +kernel
theorem dX3_blendIn_60 : decode cX3_blendIn 60 = .ok (.ifCond .ne 50, 3) := by decide +kernel
theorem dX3_blendIn_63 : decode cX3_blendIn 63 = .ok (.aload_n 3, 1) := by decide +kernel
theorem dX3_blendIn_64 : decode cX3_blendIn 64 = .ok (.getfield 251, 3) := by decide +kernel
theorem dX3_blendIn_67 : decode cX3_blendIn 67 = .ok (.ifCond .ne 43, 3) := by decide +kernel
theorem dX3_blendIn_70 : decode cX3_blendIn 70 = .ok (.aload_n 3, 1) := by decide +kernel
theorem dX3_blendIn_71 : decode cX3_blendIn 71 = .ok (.getfield 221, 3) := by decide +kernel
theorem dX3_blendIn_74 : decode cX3_blendIn 74 = .ok (.iload_n 2, 1) := by decide +kernel
theorem dX3_blendIn_75 : decode cX3_blendIn 75 = .ok (.iadd, 1) := by decide +kernel
theorem dX3_blendIn_76 : decode cX3_blendIn 76 = .ok (.aload 4, 2) := by decide +kernel
theorem dX3_blendIn_78 : decode cX3_blendIn 78 = .ok (.getfield 150, 3) := by decide +kernel
theorem dX3_blendIn_81 : decode cX3_blendIn 81 = .ok (.if_icmp .gt 29, 3) := by decide +kernel
theorem dX3_blendIn_84 : decode cX3_blendIn 84 = .ok (.aload_n 3, 1) := by decide +kernel
theorem dX3_blendIn_85 : decode cX3_blendIn 85 = .ok (.getfield 264, 3) := by decide +kernel
theorem dX3_blendIn_88 : decode cX3_blendIn 88 = .ok (.iload_n 2, 1) := by decide +kernel
theorem dX3_blendIn_89 : decode cX3_blendIn 89 = .ok (.iadd, 1) := by decide +kernel
theorem dX3_blendIn_90 : decode cX3_blendIn 90 = .ok (.iload 5, 2) := by decide +kernel
theorem dX3_blendIn_92 : decode cX3_blendIn 92 = .ok (.if_icmp .gt 18, 3) := by decide +kernel
theorem dX3_blendIn_95 : decode cX3_blendIn 95 = .ok (.iload_n 2, 1) := by decide +kernel
theorem dX3_blendIn_96 : decode cX3_blendIn 96 = .ok (.aload_n 0, 1) := by decide +kernel
theorem dX3_blendIn_97 : decode cX3_blendIn 97 = .ok (.getfield 42, 3) := by decide +kernel
theorem dX3_blendIn_100 : decode cX3_blendIn 100 = .ok (.aload_n 3, 1) := by decide +kernel
theorem dX3_blendIn_101 : decode cX3_blendIn 101 = .ok (.getfield 220, 3) := by decide +kernel
theorem dX3_blendIn_104 : decode cX3_blendIn 104 = .ok (.invokestatic 168, 3) := by decide +kernel
theorem dX3_blendIn_107 : decode cX3_blendIn 107 = .ok (.if_icmp .le 6, 3) := by decide +kernel
theorem dX3_blendIn_110 : decode cX3_blendIn 110 = .ok (.bipush (-2), 2) := by decide +kernel
theorem dX3_blendIn_112 : decode cX3_blendIn 112 = .ok (.ireturn, 1) := by decide +kernel
theorem dX3_blendIn_113 : decode cX3_blendIn 113 = .ok (.aload_n 0, 1) := by decide +kernel
theorem dX3_blendIn_114 : decode cX3_blendIn 114 = .ok (.aload_n 3, 1) := by decide +kernel
theorem dX3_blendIn_115 : decode cX3_blendIn 115 = .ok (.getfield 220, 3) := by decide +kernel
theorem dX3_blendIn_118 : decode cX3_blendIn 118 = .ok (.iload_n 2, 1) := by decide +kernel
theorem dX3_blendIn_119 : decode cX3_blendIn 119 = .ok (.ineg, 1) := by decide +kernel
theorem dX3_blendIn_120 : decode cX3_blendIn 120 = .ok (.invokevirtual 254, 3) := by decide +kernel
theorem dX3_blendIn_123 : decode cX3_blendIn 123 = .ok (.aload_n 3, 1) := by decide +kernel
theorem dX3_blendIn_124 : decode cX3_blendIn 124 = .ok (.dup, 1) := by decide +kernel
theorem dX3_blendIn_125 : decode cX3_blendIn 125 = .ok (.getfield 264, 3) := by decide +kernel
theorem dX3_blendIn_128 : decode cX3_blendIn 128 = .ok (.iload_n 2, 1) := by decide +kernel
theorem dX3_blendIn_129 : decode cX3_blendIn 129 = .ok (.iadd, 1) := by decide +kernel
theorem dX3_blendIn_130 : decode cX3_blendIn 130 = .ok (.putfield 264, 3) := by decide +kernel
theorem dX3_blendIn_133 : decode cX3_blendIn 133 = .ok (.aload_n 3, 1) := by decide +kernel
theorem dX3_blendIn_134 : decode cX3_blendIn 134 = .ok (.dup, 1) := by decide +kernel
theorem dX3_blendIn_135 : decode cX3_blendIn 135 = .ok (.getfield 221, 3) := by decide +kernel
theorem dX3_blendIn_138 : decode cX3_blendIn 138 = .ok (.iload_n 2, 1) := by decide +kernel
theorem dX3_blendIn_139 : decode cX3_blendIn 139 = .ok (.iadd, 1) := by decide +kernel
theorem dX3_blendIn_140 : decode cX3_blendIn 140 = .ok (.putfield 221, 3) := by decide +kernel
theorem dX3_blendIn_143 : decode cX3_blendIn 143 = .ok (.aload_n 3, 1) := by decide +kernel
theorem dX3_blendIn_144 : decode cX3_blendIn 144 = .ok (.getfield 221, 3) := by decide +kernel
theorem dX3_blendIn_147 : decode cX3_blendIn 147 = .ok (.ireturn, 1) := by decide +kernel
theorem dX3_letPass_0 : decode cX3_letPass 0 = .ok (.iload_n 1, 1) := by decide +kernel
theorem dX3_letPass_1 : decode cX3_letPass 1 = .ok (.iconst 1, 1) := by decide +kernel
theorem dX3_letPass_2 : decode cX3_letPass 2 = .ok (.sipush 999, 3) := by decide +kernel
theorem dX3_letPass_5 : decode cX3_letPass 5 = .ok (.invokestatic 106, 3) := by decide +kernel
theorem dX3_letPass_8 : decode cX3_letPass 8 = .ok (.ifCond .ne 5, 3) := by decide +kernel
theorem dX3_letPass_11 : decode cX3_letPass 11 = .ok (.iconst (-1), 1) := by decide +kernel
theorem dX3_letPass_12 : decode cX3_letPass 12 = .ok (.ireturn, 1) := by decide +kernel
theorem dX3_letPass_13 : decode cX3_letPass 13 = .ok (.aload_n 0, 1) := by decide +kernel
theorem dX3_letPass_14 : decode cX3_letPass 14 = .ok (.getfield 71, 3) := by decide +kernel
theorem dX3_letPass_17 : decode cX3_letPass 17 = .ok (.iload_n 1, 1) := by decide +kernel
theorem dX3_letPass_18 : decode cX3_letPass 18 = .ok (.iadd, 1) := by decide +kernel
theorem dX3_letPass_19 : decode cX3_letPass 19 = .ok (.sipush 30000, 3) := by decide +kernel
theorem dX3_letPass_22 : decode cX3_letPass 22 = .ok (.if_icmp .le 6, 3) := by decide +kernel
theorem dX3_letPass_25 : decode cX3_letPass 25 = .ok (.bipush (-3), 2) := by decide +kernel
theorem dX3_letPass_27 : decode cX3_letPass 27 = .ok (.ireturn, 1) := by decide +kernel
theorem dX3_letPass_28 : decode cX3_letPass 28 = .ok (.aload_n 0, 1) := by decide +kernel
theorem dX3_letPass_29 : decode cX3_letPass 29 = .ok (.dup, 1) := by decide +kernel
theorem dX3_letPass_30 : decode cX3_letPass 30 = .ok (.getfield 71, 3) := by decide +kernel
theorem dX3_letPass_33 : decode cX3_letPass 33 = .ok (.iload_n 1, 1) := by decide +kernel
theorem dX3_letPass_34 : decode cX3_letPass 34 = .ok (.iadd, 1) := by decide +kernel
theorem dX3_letPass_35 : decode cX3_letPass 35 = .ok (.putfield 71, 3) := by decide +kernel
theorem dX3_letPass_38 : decode cX3_letPass 38 = .ok (.iconst 0, 1) := by decide +kernel
theorem dX3_letPass_39 : decode cX3_letPass 39 = .ok (.istore_n 2, 1) := by decide +kernel
theorem dX3_letPass_40 : decode cX3_letPass 40 = .ok (.iconst 0, 1) := by decide +kernel
theorem dX3_letPass_41 : decode cX3_letPass 41 = .ok (.istore_n 3, 1) := by decide +kernel
theorem dX3_letPass_42 : decode cX3_letPass 42 = .ok (.iload_n 3, 1) := by decide +kernel
theorem dX3_letPass_43 : decode cX3_letPass 43 = .ok (.aload_n 0, 1) := by decide +kernel
theorem dX3_letPass_44 : decode cX3_letPass 44 = .ok (.getfield 31, 3) := by decide +kernel
theorem dX3_letPass_47 : decode cX3_letPass 47 = .ok (.arraylength, 1) := by decide +kernel
theorem dX3_letPass_48 : decode cX3_letPass 48 = .ok (.if_icmp .ge 54, 3) := by decide +kernel
theorem dX3_letPass_51 : decode cX3_letPass 51 = .ok (.aload_n 0, 1) := by decide +kernel
theorem dX3_letPass_52 : decode cX3_letPass 52 = .ok (.getfield 31, 3) := by decide +kernel
theorem dX3_letPass_55 : decode cX3_letPass 55 = .ok (.iload_n 3, 1) := by decide +kernel
theorem dX3_letPass_56 : decode cX3_letPass 56 = .ok (.aaload, 1) := by decide +kernel
theorem dX3_letPass_57 : decode cX3_letPass 57 = .ok (.astore 4, 2) := by decide +kernel
theorem dX3_letPass_59 : decode cX3_letPass 59 = .ok (.aload 4, 2) := by decide +kernel
theorem dX3_letPass_61 : decode cX3_letPass 61 = .ok (.getfield 102, 3) := by decide +kernel
theorem dX3_letPass_64 : decode cX3_letPass 64 = .ok (.ifCond .eq 32, 3) := by decide +kernel
theorem dX3_letPass_67 : decode cX3_letPass 67 = .ok (.aload 4, 2) := by decide +kernel
theorem dX3_letPass_69 : decode cX3_letPass 69 = .ok (.getfield 251, 3) := by decide +kernel
theorem dX3_letPass_72 : decode cX3_letPass 72 = .ok (.ifCond .ne 24, 3) := by decide +kernel
theorem dX3_letPass_75 : decode cX3_letPass 75 = .ok (.aload_n 0, 1) := by decide +kernel
theorem dX3_letPass_76 : decode cX3_letPass 76 = .ok (.getfield 71, 3) := by decide +kernel
theorem dX3_letPass_79 : decode cX3_letPass 79 = .ok (.aload 4, 2) := by decide +kernel
theorem dX3_letPass_81 : decode cX3_letPass 81 = .ok (.getfield 267, 3) := by decide +kernel
theorem dX3_letPass_84 : decode cX3_letPass 84 = .ok (.if_icmp .le 12, 3) := by decide +kernel
theorem dX3_letPass_87 : decode cX3_letPass 87 = .ok (.aload 4, 2) := by decide +kernel
theorem dX3_letPass_89 : decode cX3_letPass 89 = .ok (.iconst 1, 1) := by decide +kernel
theorem dX3_letPass_90 : decode cX3_letPass 90 = .ok (.putfield 251, 3) := by decide +kernel
theorem dX3_letPass_93 : decode cX3_letPass 93 = .ok (.iinc 2 1, 3) := by decide +kernel
theorem dX3_letPass_96 : decode cX3_letPass 96 = .ok (.iinc 3 1, 3) := by decide +kernel
theorem dX3_letPass_99 : decode cX3_letPass 99 = .ok (.goto (-57), 3) := by decide +kernel
theorem dX3_letPass_102 : decode cX3_letPass 102 = .ok (.aload_n 0, 1) := by decide +kernel
theorem dX3_letPass_103 : decode cX3_letPass 103 = .ok (.dup, 1) := by decide +kernel
theorem dX3_letPass_104 : decode cX3_letPass 104 = .ok (.getfield 86, 3) := by decide +kernel
theorem dX3_letPass_107 : decode cX3_letPass 107 = .ok (.iload_n 2, 1) := by decide +kernel
theorem dX3_letPass_108 : decode cX3_letPass 108 = .ok (.iadd, 1) := by decide +kernel
theorem dX3_letPass_109 : decode cX3_letPass 109 = .ok (.putfield 86, 3) := by decide +kernel
theorem dX3_letPass_112 : decode cX3_letPass 112 = .ok (.iload_n 2, 1) := by decide +kernel
theorem dX3_letPass_113 : decode cX3_letPass 113 = .ok (.ireturn, 1) := by decide +kernel
theorem dX3_total_0 : decode cX3_total 0 = .ok (.iload_n 1, 1) := by decide +kernel
theorem dX3_total_1 : decode cX3_total 1 = .ok (.tableswitch 105 0 9 #[55, 60, 65, 70, 75, 80, 85, 90, 95, 100], 55) := by decide +kernel
theorem dX3_total_56 : decode cX3_total 56 = .ok (.aload_n 0, 1) := by decide +kernel
theorem dX3_total_57 : decode cX3_total 57 = .ok (.getfield 61, 3) := by decide +kernel
theorem dX3_total_60 : decode cX3_total 60 = .ok (.ireturn, 1) := by decide +kernel
theorem dX3_total_61 : decode cX3_total 61 = .ok (.aload_n 0, 1) := by decide +kernel
theorem dX3_total_62 : decode cX3_total 62 = .ok (.getfield 65, 3) := by decide +kernel
theorem dX3_total_65 : decode cX3_total 65 = .ok (.ireturn, 1) := by decide +kernel
theorem dX3_total_66 : decode cX3_total 66 = .ok (.aload_n 0, 1) := by decide +kernel
theorem dX3_total_67 : decode cX3_total 67 = .ok (.getfield 68, 3) := by decide +kernel
theorem dX3_total_70 : decode cX3_total 70 = .ok (.ireturn, 1) := by decide +kernel
theorem dX3_total_71 : decode cX3_total 71 = .ok (.aload_n 0, 1) := by decide +kernel
theorem dX3_total_72 : decode cX3_total 72 = .ok (.invokevirtual 270, 3) := by decide +kernel
theorem dX3_total_75 : decode cX3_total 75 = .ok (.ireturn, 1) := by decide +kernel
theorem dX3_total_76 : decode cX3_total 76 = .ok (.aload_n 0, 1) := by decide +kernel
theorem dX3_total_77 : decode cX3_total 77 = .ok (.getfield 71, 3) := by decide +kernel
theorem dX3_total_80 : decode cX3_total 80 = .ok (.ireturn, 1) := by decide +kernel
theorem dX3_total_81 : decode cX3_total 81 = .ok (.aload_n 0, 1) := by decide +kernel
theorem dX3_total_82 : decode cX3_total 82 = .ok (.getfield 74, 3) := by decide +kernel
theorem dX3_total_85 : decode cX3_total 85 = .ok (.ireturn, 1) := by decide +kernel
theorem dX3_total_86 : decode cX3_total 86 = .ok (.aload_n 0, 1) := by decide +kernel
theorem dX3_total_87 : decode cX3_total 87 = .ok (.getfield 77, 3) := by decide +kernel
theorem dX3_total_90 : decode cX3_total 90 = .ok (.ireturn, 1) := by decide +kernel
theorem dX3_total_91 : decode cX3_total 91 = .ok (.aload_n 0, 1) := by decide +kernel
theorem dX3_total_92 : decode cX3_total 92 = .ok (.getfield 80, 3) := by decide +kernel
theorem dX3_total_95 : decode cX3_total 95 = .ok (.ireturn, 1) := by decide +kernel
theorem dX3_total_96 : decode cX3_total 96 = .ok (.aload_n 0, 1) := by decide +kernel
theorem dX3_total_97 : decode cX3_total 97 = .ok (.invokevirtual 273, 3) := by decide +kernel
theorem dX3_total_100 : decode cX3_total 100 = .ok (.ireturn, 1) := by decide +kernel
theorem dX3_total_101 : decode cX3_total 101 = .ok (.aload_n 0, 1) := by decide +kernel
theorem dX3_total_102 : decode cX3_total 102 = .ok (.getfield 83, 3) := by decide +kernel
theorem dX3_total_105 : decode cX3_total 105 = .ok (.ireturn, 1) := by decide +kernel
theorem dX3_total_106 : decode cX3_total 106 = .ok (.aload_n 0, 1) := by decide +kernel
theorem dX3_total_107 : decode cX3_total 107 = .ok (.getfield 86, 3) := by decide +kernel
theorem dX3_total_110 : decode cX3_total 110 = .ok (.ireturn, 1) := by decide +kernel
theorem dX3_batchTotal_0 : decode cX3_batchTotal 0 = .ok (.iconst 0, 1) := by decide +kernel
theorem dX3_batchTotal_1 : decode cX3_batchTotal 1 = .ok (.istore_n 1, 1) := by decide +kernel
theorem dX3_batchTotal_2 : decode cX3_batchTotal 2 = .ok (.iconst 0, 1) := by decide +kernel
theorem dX3_batchTotal_3 : decode cX3_batchTotal 3 = .ok (.istore_n 2, 1) := by decide +kernel
theorem dX3_batchTotal_4 : decode cX3_batchTotal 4 = .ok (.iload_n 2, 1) := by decide +kernel
theorem dX3_batchTotal_5 : decode cX3_batchTotal 5 = .ok (.aload_n 0, 1) := by decide +kernel
theorem dX3_batchTotal_6 : decode cX3_batchTotal 6 = .ok (.getfield 31, 3) := by decide +kernel
theorem dX3_batchTotal_9 : decode cX3_batchTotal 9 = .ok (.arraylength, 1) := by decide +kernel
theorem dX3_batchTotal_10 : decode cX3_batchTotal 10 = .ok (.if_icmp .ge 29, 3) := by decide +kernel
theorem dX3_batchTotal_13 : decode cX3_batchTotal 13 = .ok (.iload_n 1, 1) := by decide +kernel
theorem dX3_batchTotal_14 : decode cX3_batchTotal 14 = .ok (.aload_n 0, 1) := by decide +kernel
theorem dX3_batchTotal_15 : decode cX3_batchTotal 15 = .ok (.getfield 31, 3) := by decide +kernel
theorem dX3_batchTotal_18 : decode cX3_batchTotal 18 = .ok (.iload_n 2, 1) := by decide +kernel
theorem dX3_batchTotal_19 : decode cX3_batchTotal 19 = .ok (.aaload, 1) := by decide +kernel
theorem dX3_batchTotal_20 : decode cX3_batchTotal 20 = .ok (.getfield 102, 3) := by decide +kernel
theorem dX3_batchTotal_23 : decode cX3_batchTotal 23 = .ok (.ifCond .eq 7, 3) := by decide +kernel
theorem dX3_batchTotal_26 : decode cX3_batchTotal 26 = .ok (.iconst 1, 1) := by decide +kernel
theorem dX3_batchTotal_27 : decode cX3_batchTotal 27 = .ok (.goto 4, 3) := by decide +kernel
theorem dX3_batchTotal_30 : decode cX3_batchTotal 30 = .ok (.iconst 0, 1) := by decide +kernel
theorem dX3_batchTotal_31 : decode cX3_batchTotal 31 = .ok (.iadd, 1) := by decide +kernel
theorem dX3_batchTotal_32 : decode cX3_batchTotal 32 = .ok (.istore_n 1, 1) := by decide +kernel
theorem dX3_batchTotal_33 : decode cX3_batchTotal 33 = .ok (.iinc 2 1, 3) := by decide +kernel
theorem dX3_batchTotal_36 : decode cX3_batchTotal 36 = .ok (.goto (-32), 3) := by decide +kernel
theorem dX3_batchTotal_39 : decode cX3_batchTotal 39 = .ok (.iload_n 1, 1) := by decide +kernel
theorem dX3_batchTotal_40 : decode cX3_batchTotal 40 = .ok (.ireturn, 1) := by decide +kernel
theorem dX3_massTotal_0 : decode cX3_massTotal 0 = .ok (.iconst 0, 1) := by decide +kernel
theorem dX3_massTotal_1 : decode cX3_massTotal 1 = .ok (.istore_n 1, 1) := by decide +kernel
theorem dX3_massTotal_2 : decode cX3_massTotal 2 = .ok (.iconst 0, 1) := by decide +kernel
theorem dX3_massTotal_3 : decode cX3_massTotal 3 = .ok (.istore_n 2, 1) := by decide +kernel
theorem dX3_massTotal_4 : decode cX3_massTotal 4 = .ok (.iload_n 2, 1) := by decide +kernel
theorem dX3_massTotal_5 : decode cX3_massTotal 5 = .ok (.aload_n 0, 1) := by decide +kernel
theorem dX3_massTotal_6 : decode cX3_massTotal 6 = .ok (.getfield 31, 3) := by decide +kernel
theorem dX3_massTotal_9 : decode cX3_massTotal 9 = .ok (.arraylength, 1) := by decide +kernel
theorem dX3_massTotal_10 : decode cX3_massTotal 10 = .ok (.if_icmp .ge 37, 3) := by decide +kernel
theorem dX3_massTotal_13 : decode cX3_massTotal 13 = .ok (.iload_n 1, 1) := by decide +kernel
theorem dX3_massTotal_14 : decode cX3_massTotal 14 = .ok (.aload_n 0, 1) := by decide +kernel
theorem dX3_massTotal_15 : decode cX3_massTotal 15 = .ok (.getfield 31, 3) := by decide +kernel
theorem dX3_massTotal_18 : decode cX3_massTotal 18 = .ok (.iload_n 2, 1) := by decide +kernel
theorem dX3_massTotal_19 : decode cX3_massTotal 19 = .ok (.aaload, 1) := by decide +kernel
theorem dX3_massTotal_20 : decode cX3_massTotal 20 = .ok (.getfield 102, 3) := by decide +kernel
theorem dX3_massTotal_23 : decode cX3_massTotal 23 = .ok (.ifCond .eq 15, 3) := by decide +kernel
theorem dX3_massTotal_26 : decode cX3_massTotal 26 = .ok (.aload_n 0, 1) := by decide +kernel
theorem dX3_massTotal_27 : decode cX3_massTotal 27 = .ok (.getfield 31, 3) := by decide +kernel
theorem dX3_massTotal_30 : decode cX3_massTotal 30 = .ok (.iload_n 2, 1) := by decide +kernel
theorem dX3_massTotal_31 : decode cX3_massTotal 31 = .ok (.aaload, 1) := by decide +kernel
theorem dX3_massTotal_32 : decode cX3_massTotal 32 = .ok (.getfield 221, 3) := by decide +kernel
theorem dX3_massTotal_35 : decode cX3_massTotal 35 = .ok (.goto 4, 3) := by decide +kernel
theorem dX3_massTotal_38 : decode cX3_massTotal 38 = .ok (.iconst 0, 1) := by decide +kernel
theorem dX3_massTotal_39 : decode cX3_massTotal 39 = .ok (.iadd, 1) := by decide +kernel
theorem dX3_massTotal_40 : decode cX3_massTotal 40 = .ok (.istore_n 1, 1) := by decide +kernel
theorem dX3_massTotal_41 : decode cX3_massTotal 41 = .ok (.iinc 2 1, 3) := by decide +kernel
theorem dX3_massTotal_44 : decode cX3_massTotal 44 = .ok (.goto (-40), 3) := by decide +kernel
theorem dX3_massTotal_47 : decode cX3_massTotal 47 = .ok (.iload_n 1, 1) := by decide +kernel
theorem dX3_massTotal_48 : decode cX3_massTotal 48 = .ok (.ireturn, 1) := by decide +kernel
theorem dX3_openTargets_0 : decode cX3_openTargets 0 = .ok (.iconst 0, 1) := by decide +kernel
theorem dX3_openTargets_1 : decode cX3_openTargets 1 = .ok (.istore_n 2, 1) := by decide +kernel
theorem dX3_openTargets_2 : decode cX3_openTargets 2 = .ok (.iconst 0, 1) := by decide +kernel
theorem dX3_openTargets_3 : decode cX3_openTargets 3 = .ok (.istore_n 3, 1) := by decide +kernel
theorem dX3_openTargets_4 : decode cX3_openTargets 4 = .ok (.iload_n 3, 1) := by decide +kernel
theorem dX3_openTargets_5 : decode cX3_openTargets 5 = .ok (.aload_n 0, 1) := by decide +kernel
theorem dX3_openTargets_6 : decode cX3_openTargets 6 = .ok (.getfield 65, 3) := by decide +kernel
theorem dX3_openTargets_9 : decode cX3_openTargets 9 = .ok (.if_icmp .ge 25, 3) := by decide +kernel
theorem dX3_openTargets_12 : decode cX3_openTargets 12 = .ok (.aload_n 0, 1) := by decide +kernel
theorem dX3_openTargets_13 : decode cX3_openTargets 13 = .ok (.aload_n 1, 1) := by decide +kernel
theorem dX3_openTargets_14 : decode cX3_openTargets 14 = .ok (.iload_n 3, 1) := by decide +kernel
theorem dX3_openTargets_15 : decode cX3_openTargets 15 = .ok (.invokevirtual 209, 3) := by decide +kernel
theorem dX3_openTargets_18 : decode cX3_openTargets 18 = .ok (.iconst (-1), 1) := by decide +kernel
theorem dX3_openTargets_19 : decode cX3_openTargets 19 = .ok (.if_icmp .eq 9, 3) := by decide +kernel
theorem dX3_openTargets_22 : decode cX3_openTargets 22 = .ok (.iload_n 2, 1) := by decide +kernel
theorem dX3_openTargets_23 : decode cX3_openTargets 23 = .ok (.iconst 1, 1) := by decide +kernel
theorem dX3_openTargets_24 : decode cX3_openTargets 24 = .ok (.iload_n 3, 1) := by decide +kernel
theorem dX3_openTargets_25 : decode cX3_openTargets 25 = .ok (.ishl, 1) := by decide +kernel
theorem dX3_openTargets_26 : decode cX3_openTargets 26 = .ok (.ior, 1) := by decide +kernel
theorem dX3_openTargets_27 : decode cX3_openTargets 27 = .ok (.istore_n 2, 1) := by decide +kernel
theorem dX3_openTargets_28 : decode cX3_openTargets 28 = .ok (.iinc 3 1, 3) := by decide +kernel
theorem dX3_openTargets_31 : decode cX3_openTargets 31 = .ok (.goto (-27), 3) := by decide +kernel
theorem dX3_openTargets_34 : decode cX3_openTargets 34 = .ok (.iload_n 2, 1) := by decide +kernel
theorem dX3_openTargets_35 : decode cX3_openTargets 35 = .ok (.ireturn, 1) := by decide +kernel
theorem dX3_minutesTo_0 : decode cX3_minutesTo 0 = .ok (.aload_n 0, 1) := by decide +kernel
theorem dX3_minutesTo_1 : decode cX3_minutesTo 1 = .ok (.iload_n 2, 1) := by decide +kernel
theorem dX3_minutesTo_2 : decode cX3_minutesTo 2 = .ok (.invokevirtual 145, 3) := by decide +kernel
theorem dX3_minutesTo_5 : decode cX3_minutesTo 5 = .ok (.astore_n 3, 1) := by decide +kernel
theorem dX3_minutesTo_6 : decode cX3_minutesTo 6 = .ok (.aload_n 0, 1) := by decide +kernel
theorem dX3_minutesTo_7 : decode cX3_minutesTo 7 = .ok (.aload_n 0, 1) := by decide +kernel
theorem dX3_minutesTo_8 : decode cX3_minutesTo 8 = .ok (.aload_n 1, 1) := by decide +kernel
theorem dX3_minutesTo_9 : decode cX3_minutesTo 9 = .ok (.iload_n 2, 1) := by decide +kernel
theorem dX3_minutesTo_10 : decode cX3_minutesTo 10 = .ok (.invokevirtual 209, 3) := by decide +kernel
theorem dX3_minutesTo_13 : decode cX3_minutesTo 13 = .ok (.invokevirtual 159, 3) := by decide +kernel
theorem dX3_minutesTo_16 : decode cX3_minutesTo 16 = .ok (.astore 4, 2) := by decide +kernel
theorem dX3_minutesTo_18 : decode cX3_minutesTo 18 = .ok (.aload_n 3, 1) := by decide +kernel
theorem dX3_minutesTo_19 : decode cX3_minutesTo 19 = .ok (.ifnull 8, 3) := by decide +kernel
theorem dX3_minutesTo_22 : decode cX3_minutesTo 22 = .ok (.aload 4, 2) := by decide +kernel
theorem dX3_minutesTo_24 : decode cX3_minutesTo 24 = .ok (.ifnonnull 5, 3) := by decide +kernel
theorem dX3_minutesTo_27 : decode cX3_minutesTo 27 = .ok (.iconst (-1), 1) := by decide +kernel
theorem dX3_minutesTo_28 : decode cX3_minutesTo 28 = .ok (.ireturn, 1) := by decide +kernel
theorem dX3_minutesTo_29 : decode cX3_minutesTo 29 = .ok (.aload_n 0, 1) := by decide +kernel
theorem dX3_minutesTo_30 : decode cX3_minutesTo 30 = .ok (.aload_n 3, 1) := by decide +kernel
theorem dX3_minutesTo_31 : decode cX3_minutesTo 31 = .ok (.aload_n 1, 1) := by decide +kernel
theorem dX3_minutesTo_32 : decode cX3_minutesTo 32 = .ok (.getfield 220, 3) := by decide +kernel
theorem dX3_minutesTo_35 : decode cX3_minutesTo 35 = .ok (.invokevirtual 192, 3) := by decide +kernel
theorem dX3_minutesTo_38 : decode cX3_minutesTo 38 = .ok (.aload 4, 2) := by decide +kernel
theorem dX3_minutesTo_40 : decode cX3_minutesTo 40 = .ok (.aload_n 1, 1) := by decide +kernel
theorem dX3_minutesTo_41 : decode cX3_minutesTo 41 = .ok (.getfield 221, 3) := by decide +kernel
theorem dX3_minutesTo_44 : decode cX3_minutesTo 44 = .ok (.invokevirtual 224, 3) := by decide +kernel
theorem dX3_minutesTo_47 : decode cX3_minutesTo 47 = .ok (.iadd, 1) := by decide +kernel
theorem dX3_minutesTo_48 : decode cX3_minutesTo 48 = .ok (.ireturn, 1) := by decide +kernel
theorem dX3_quickestTarget_0 : decode cX3_quickestTarget 0 = .ok (.iconst (-1), 1) := by decide +kernel
theorem dX3_quickestTarget_1 : decode cX3_quickestTarget 1 = .ok (.istore_n 2, 1) := by decide +kernel
theorem dX3_quickestTarget_2 : decode cX3_quickestTarget 2 = .ok (.iconst 0, 1) := by decide +kernel
theorem dX3_quickestTarget_3 : decode cX3_quickestTarget 3 = .ok (.istore_n 3, 1) := by decide +kernel
theorem dX3_quickestTarget_4 : decode cX3_quickestTarget 4 = .ok (.iconst 0, 1) := by decide +kernel
theorem dX3_quickestTarget_5 : decode cX3_quickestTarget 5 = .ok (.istore 4, 2) := by decide +kernel
theorem dX3_quickestTarget_7 : decode cX3_quickestTarget 7 = .ok (.iload 4, 2) := by decide +kernel
theorem dX3_quickestTarget_9 : decode cX3_quickestTarget 9 = .ok (.aload_n 0, 1) := by decide +kernel
theorem dX3_quickestTarget_10 : decode cX3_quickestTarget 10 = .ok (.getfield 65, 3) := by decide +kernel
theorem dX3_quickestTarget_13 : decode cX3_quickestTarget 13 = .ok (.if_icmp .ge 41, 3) := by decide +kernel
theorem dX3_quickestTarget_16 : decode cX3_quickestTarget 16 = .ok (.aload_n 0, 1) := by decide +kernel
theorem dX3_quickestTarget_17 : decode cX3_quickestTarget 17 = .ok (.aload_n 1, 1) := by decide +kernel
theorem dX3_quickestTarget_18 : decode cX3_quickestTarget 18 = .ok (.iload 4, 2) := by decide +kernel
theorem dX3_quickestTarget_20 : decode cX3_quickestTarget 20 = .ok (.invokevirtual 276, 3) := by decide +kernel
theorem dX3_quickestTarget_23 : decode cX3_quickestTarget 23 = .ok (.istore 5, 2) := by decide +kernel
theorem dX3_quickestTarget_25 : decode cX3_quickestTarget 25 = .ok (.iload 5, 2) := by decide +kernel
theorem dX3_quickestTarget_27 : decode cX3_quickestTarget 27 = .ok (.iconst (-1), 1) := by decide +kernel
theorem dX3_quickestTarget_28 : decode cX3_quickestTarget 28 = .ok (.if_icmp .eq 20, 3) := by decide +kernel
theorem dX3_quickestTarget_31 : decode cX3_quickestTarget 31 = .ok (.iload_n 2, 1) := by decide +kernel
theorem dX3_quickestTarget_32 : decode cX3_quickestTarget 32 = .ok (.iconst (-1), 1) := by decide +kernel
theorem dX3_quickestTarget_33 : decode cX3_quickestTarget 33 = .ok (.if_icmp .eq 9, 3) := by decide +kernel
theorem dX3_quickestTarget_36 : decode cX3_quickestTarget 36 = .ok (.iload 5, 2) := by decide +kernel
theorem dX3_quickestTarget_38 : decode cX3_quickestTarget 38 = .ok (.iload_n 3, 1) := by decide +kernel
theorem dX3_quickestTarget_39 : decode cX3_quickestTarget 39 = .ok (.if_icmp .ge 9, 3) := by decide +kernel
theorem dX3_quickestTarget_42 : decode cX3_quickestTarget 42 = .ok (.iload 4, 2) := by decide +kernel
theorem dX3_quickestTarget_44 : decode cX3_quickestTarget 44 = .ok (.istore_n 2, 1) := by decide +kernel
theorem dX3_quickestTarget_45 : decode cX3_quickestTarget 45 = .ok (.iload 5, 2) := by decide +kernel
theorem dX3_quickestTarget_47 : decode cX3_quickestTarget 47 = .ok (.istore_n 3, 1) := by decide +kernel
theorem dX3_quickestTarget_48 : decode cX3_quickestTarget 48 = .ok (.iinc 4 1, 3) := by decide +kernel
theorem dX3_quickestTarget_51 : decode cX3_quickestTarget 51 = .ok (.goto (-44), 3) := by decide +kernel
theorem dX3_quickestTarget_54 : decode cX3_quickestTarget 54 = .ok (.iload_n 2, 1) := by decide +kernel
theorem dX3_quickestTarget_55 : decode cX3_quickestTarget 55 = .ok (.ireturn, 1) := by decide +kernel
theorem dX3_earliestEnd_0 : decode cX3_earliestEnd 0 = .ok (.aload_n 0, 1) := by decide +kernel
theorem dX3_earliestEnd_1 : decode cX3_earliestEnd 1 = .ok (.aload_n 1, 1) := by decide +kernel
theorem dX3_earliestEnd_2 : decode cX3_earliestEnd 2 = .ok (.getfield 142, 3) := by decide +kernel
theorem dX3_earliestEnd_5 : decode cX3_earliestEnd 5 = .ok (.invokevirtual 110, 3) := by decide +kernel
theorem dX3_earliestEnd_8 : decode cX3_earliestEnd 8 = .ok (.astore_n 2, 1) := by decide +kernel
theorem dX3_earliestEnd_9 : decode cX3_earliestEnd 9 = .ok (.aload_n 0, 1) := by decide +kernel
theorem dX3_earliestEnd_10 : decode cX3_earliestEnd 10 = .ok (.getfield 71, 3) := by decide +kernel
theorem dX3_earliestEnd_13 : decode cX3_earliestEnd 13 = .ok (.aload_n 1, 1) := by decide +kernel
theorem dX3_earliestEnd_14 : decode cX3_earliestEnd 14 = .ok (.getfield 279, 3) := by decide +kernel
theorem dX3_earliestEnd_17 : decode cX3_earliestEnd 17 = .ok (.invokestatic 282, 3) := by decide +kernel
theorem dX3_earliestEnd_20 : decode cX3_earliestEnd 20 = .ok (.istore_n 3, 1) := by decide +kernel
theorem dX3_earliestEnd_21 : decode cX3_earliestEnd 21 = .ok (.aload_n 1, 1) := by decide +kernel
theorem dX3_earliestEnd_22 : decode cX3_earliestEnd 22 = .ok (.getfield 221, 3) := by decide +kernel
theorem dX3_earliestEnd_25 : decode cX3_earliestEnd 25 = .ok (.istore 4, 2) := by decide +kernel
theorem dX3_earliestEnd_27 : decode cX3_earliestEnd 27 = .ok (.aload_n 2, 1) := by decide +kernel
theorem dX3_earliestEnd_28 : decode cX3_earliestEnd 28 = .ok (.ifnonnull 6, 3) := by decide +kernel
theorem dX3_earliestEnd_31 : decode cX3_earliestEnd 31 = .ok (.bipush (-4), 2) := by decide +kernel
theorem dX3_earliestEnd_33 : decode cX3_earliestEnd 33 = .ok (.ireturn, 1) := by decide +kernel
theorem dX3_earliestEnd_34 : decode cX3_earliestEnd 34 = .ok (.aload_n 1, 1) := by decide +kernel
theorem dX3_earliestEnd_35 : decode cX3_earliestEnd 35 = .ok (.getfield 236, 3) := by decide +kernel
theorem dX3_earliestEnd_38 : decode cX3_earliestEnd 38 = .ok (.iconst 1, 1) := by decide +kernel
theorem dX3_earliestEnd_39 : decode cX3_earliestEnd 39 = .ok (.iadd, 1) := by decide +kernel
theorem dX3_earliestEnd_40 : decode cX3_earliestEnd 40 = .ok (.istore 5, 2) := by decide +kernel
theorem dX3_earliestEnd_42 : decode cX3_earliestEnd 42 = .ok (.iload 5, 2) := by decide +kernel
theorem dX3_earliestEnd_44 : decode cX3_earliestEnd 44 = .ok (.aload_n 2, 1) := by decide +kernel
theorem dX3_earliestEnd_45 : decode cX3_earliestEnd 45 = .ok (.getfield 117, 3) := by decide +kernel
theorem dX3_earliestEnd_48 : decode cX3_earliestEnd 48 = .ok (.if_icmp .ge 64, 3) := by decide +kernel
theorem dX3_earliestEnd_51 : decode cX3_earliestEnd 51 = .ok (.aload_n 2, 1) := by decide +kernel
theorem dX3_earliestEnd_52 : decode cX3_earliestEnd 52 = .ok (.iload 5, 2) := by decide +kernel
theorem dX3_earliestEnd_54 : decode cX3_earliestEnd 54 = .ok (.invokevirtual 124, 3) := by decide +kernel
theorem dX3_earliestEnd_57 : decode cX3_earliestEnd 57 = .ok (.astore 6, 2) := by decide +kernel
theorem dX3_earliestEnd_59 : decode cX3_earliestEnd 59 = .ok (.aload 6, 2) := by decide +kernel
theorem dX3_earliestEnd_61 : decode cX3_earliestEnd 61 = .ok (.ifnull 17, 3) := by decide +kernel
theorem dX3_earliestEnd_64 : decode cX3_earliestEnd 64 = .ok (.aload_n 0, 1) := by decide +kernel
theorem dX3_earliestEnd_65 : decode cX3_earliestEnd 65 = .ok (.aload 6, 2) := by decide +kernel
theorem dX3_earliestEnd_67 : decode cX3_earliestEnd 67 = .ok (.getfield 128, 3) := by decide +kernel
theorem dX3_earliestEnd_70 : decode cX3_earliestEnd 70 = .ok (.iload 4, 2) := by decide +kernel
theorem dX3_earliestEnd_72 : decode cX3_earliestEnd 72 = .ok (.invokevirtual 288, 3) := by decide +kernel
theorem dX3_earliestEnd_75 : decode cX3_earliestEnd 75 = .ok (.ifCond .ne 6, 3) := by decide +kernel
theorem dX3_earliestEnd_78 : decode cX3_earliestEnd 78 = .ok (.bipush (-4), 2) := by decide +kernel
theorem dX3_earliestEnd_80 : decode cX3_earliestEnd 80 = .ok (.ireturn, 1) := by decide +kernel
theorem dX3_earliestEnd_81 : decode cX3_earliestEnd 81 = .ok (.iload 4, 2) := by decide +kernel
theorem dX3_earliestEnd_83 : decode cX3_earliestEnd 83 = .ok (.aload_n 0, 1) := by decide +kernel
theorem dX3_earliestEnd_84 : decode cX3_earliestEnd 84 = .ok (.iload 4, 2) := by decide +kernel
theorem dX3_earliestEnd_86 : decode cX3_earliestEnd 86 = .ok (.invokevirtual 233, 3) := by decide +kernel
theorem dX3_earliestEnd_89 : decode cX3_earliestEnd 89 = .ok (.isub, 1) := by decide +kernel
theorem dX3_earliestEnd_90 : decode cX3_earliestEnd 90 = .ok (.istore 4, 2) := by decide +kernel
theorem dX3_earliestEnd_92 : decode cX3_earliestEnd 92 = .ok (.iload_n 3, 1) := by decide +kernel
theorem dX3_earliestEnd_93 : decode cX3_earliestEnd 93 = .ok (.aload 6, 2) := by decide +kernel
theorem dX3_earliestEnd_95 : decode cX3_earliestEnd 95 = .ok (.getfield 133, 3) := by decide +kernel
theorem dX3_earliestEnd_98 : decode cX3_earliestEnd 98 = .ok (.aload 6, 2) := by decide +kernel
theorem dX3_earliestEnd_100 : decode cX3_earliestEnd 100 = .ok (.getfield 136, 3) := by decide +kernel
theorem dX3_earliestEnd_103 : decode cX3_earliestEnd 103 = .ok (.iadd, 1) := by decide +kernel
theorem dX3_earliestEnd_104 : decode cX3_earliestEnd 104 = .ok (.iadd, 1) := by decide +kernel
theorem dX3_earliestEnd_105 : decode cX3_earliestEnd 105 = .ok (.istore_n 3, 1) := by decide +kernel
theorem dX3_earliestEnd_106 : decode cX3_earliestEnd 106 = .ok (.iinc 5 1, 3) := by decide +kernel
theorem dX3_earliestEnd_109 : decode cX3_earliestEnd 109 = .ok (.goto (-67), 3) := by decide +kernel
theorem dX3_earliestEnd_112 : decode cX3_earliestEnd 112 = .ok (.iload_n 3, 1) := by decide +kernel
theorem dX3_earliestEnd_113 : decode cX3_earliestEnd 113 = .ok (.ireturn, 1) := by decide +kernel
theorem dX3_hasVesselFor_0 : decode cX3_hasVesselFor 0 = .ok (.iconst 0, 1) := by decide +kernel
theorem dX3_hasVesselFor_1 : decode cX3_hasVesselFor 1 = .ok (.istore_n 3, 1) := by decide +kernel
theorem dX3_hasVesselFor_2 : decode cX3_hasVesselFor 2 = .ok (.iload_n 3, 1) := by decide +kernel
theorem dX3_hasVesselFor_3 : decode cX3_hasVesselFor 3 = .ok (.aload_n 0, 1) := by decide +kernel
theorem dX3_hasVesselFor_4 : decode cX3_hasVesselFor 4 = .ok (.getfield 65, 3) := by decide +kernel
theorem dX3_hasVesselFor_7 : decode cX3_hasVesselFor 7 = .ok (.if_icmp .ge 34, 3) := by decide +kernel
theorem dX3_hasVesselFor_10 : decode cX3_hasVesselFor 10 = .ok (.iload_n 3, 1) := by decide +kernel
theorem dX3_hasVesselFor_11 : decode cX3_hasVesselFor 11 = .ok (.aload_n 0, 1) := by decide +kernel
theorem dX3_hasVesselFor_12 : decode cX3_hasVesselFor 12 = .ok (.getfield 19, 3) := by decide +kernel
theorem dX3_hasVesselFor_15 : decode cX3_hasVesselFor 15 = .ok (.arraylength, 1) := by decide +kernel
theorem dX3_hasVesselFor_16 : decode cX3_hasVesselFor 16 = .ok (.if_icmp .ge 25, 3) := by decide +kernel
theorem dX3_hasVesselFor_19 : decode cX3_hasVesselFor 19 = .ok (.aload_n 0, 1) := by decide +kernel
theorem dX3_hasVesselFor_20 : decode cX3_hasVesselFor 20 = .ok (.getfield 19, 3) := by decide +kernel
theorem dX3_hasVesselFor_23 : decode cX3_hasVesselFor 23 = .ok (.iload_n 3, 1) := by decide +kernel
theorem dX3_hasVesselFor_24 : decode cX3_hasVesselFor 24 = .ok (.aaload, 1) := by decide +kernel
theorem dX3_hasVesselFor_25 : decode cX3_hasVesselFor 25 = .ok (.iload_n 1, 1) := by decide +kernel
theorem dX3_hasVesselFor_26 : decode cX3_hasVesselFor 26 = .ok (.iload_n 2, 1) := by decide +kernel
theorem dX3_hasVesselFor_27 : decode cX3_hasVesselFor 27 = .ok (.invokevirtual 291, 3) := by decide +kernel
theorem dX3_hasVesselFor_30 : decode cX3_hasVesselFor 30 = .ok (.ifCond .eq 5, 3) := by decide +kernel
theorem dX3_hasVesselFor_33 : decode cX3_hasVesselFor 33 = .ok (.iconst 1, 1) := by decide +kernel
theorem dX3_hasVesselFor_34 : decode cX3_hasVesselFor 34 = .ok (.ireturn, 1) := by decide +kernel
theorem dX3_hasVesselFor_35 : decode cX3_hasVesselFor 35 = .ok (.iinc 3 1, 3) := by decide +kernel
theorem dX3_hasVesselFor_38 : decode cX3_hasVesselFor 38 = .ok (.goto (-36), 3) := by decide +kernel
theorem dX3_hasVesselFor_41 : decode cX3_hasVesselFor 41 = .ok (.iconst 0, 1) := by decide +kernel
theorem dX3_hasVesselFor_42 : decode cX3_hasVesselFor 42 = .ok (.ireturn, 1) := by decide +kernel
theorem dX3_batchInPlace_0 : decode cX3_batchInPlace 0 = .ok (.iconst 0, 1) := by decide +kernel
theorem dX3_batchInPlace_1 : decode cX3_batchInPlace 1 = .ok (.istore_n 2, 1) := by decide +kernel
theorem dX3_batchInPlace_2 : decode cX3_batchInPlace 2 = .ok (.iload_n 2, 1) := by decide +kernel
theorem dX3_batchInPlace_3 : decode cX3_batchInPlace 3 = .ok (.aload_n 0, 1) := by decide +kernel
theorem dX3_batchInPlace_4 : decode cX3_batchInPlace 4 = .ok (.getfield 31, 3) := by decide +kernel
theorem dX3_batchInPlace_7 : decode cX3_batchInPlace 7 = .ok (.arraylength, 1) := by decide +kernel
theorem dX3_batchInPlace_8 : decode cX3_batchInPlace 8 = .ok (.if_icmp .ge 28, 3) := by decide +kernel
theorem dX3_batchInPlace_11 : decode cX3_batchInPlace 11 = .ok (.aload_n 0, 1) := by decide +kernel
theorem dX3_batchInPlace_12 : decode cX3_batchInPlace 12 = .ok (.iload_n 2, 1) := by decide +kernel
theorem dX3_batchInPlace_13 : decode cX3_batchInPlace 13 = .ok (.invokevirtual 294, 3) := by decide +kernel
theorem dX3_batchInPlace_16 : decode cX3_batchInPlace 16 = .ok (.ifCond .eq 14, 3) := by decide +kernel
theorem dX3_batchInPlace_19 : decode cX3_batchInPlace 19 = .ok (.aload_n 0, 1) := by decide +kernel
theorem dX3_batchInPlace_20 : decode cX3_batchInPlace 20 = .ok (.iload_n 2, 1) := by decide +kernel
theorem dX3_batchInPlace_21 : decode cX3_batchInPlace 21 = .ok (.invokevirtual 297, 3) := by decide +kernel
theorem dX3_batchInPlace_24 : decode cX3_batchInPlace 24 = .ok (.iload_n 1, 1) := by decide +kernel
theorem dX3_batchInPlace_25 : decode cX3_batchInPlace 25 = .ok (.if_icmp .ne 5, 3) := by decide +kernel
theorem dX3_batchInPlace_28 : decode cX3_batchInPlace 28 = .ok (.iload_n 2, 1) := by decide +kernel
theorem dX3_batchInPlace_29 : decode cX3_batchInPlace 29 = .ok (.ireturn, 1) := by decide +kernel
theorem dX3_batchInPlace_30 : decode cX3_batchInPlace 30 = .ok (.iinc 2 1, 3) := by decide +kernel
theorem dX3_batchInPlace_33 : decode cX3_batchInPlace 33 = .ok (.goto (-31), 3) := by decide +kernel
theorem dX3_batchInPlace_36 : decode cX3_batchInPlace 36 = .ok (.bipush (-4), 2) := by decide +kernel
theorem dX3_batchInPlace_38 : decode cX3_batchInPlace 38 = .ok (.ireturn, 1) := by decide +kernel
theorem dX3_canSpoil_0 : decode cX3_canSpoil 0 = .ok (.aload_n 0, 1) := by decide +kernel
theorem dX3_canSpoil_1 : decode cX3_canSpoil 1 = .ok (.iload_n 1, 1) := by decide +kernel
theorem dX3_canSpoil_2 : decode cX3_canSpoil 2 = .ok (.invokevirtual 205, 3) := by decide +kernel
theorem dX3_canSpoil_5 : decode cX3_canSpoil 5 = .ok (.astore_n 2, 1) := by decide +kernel
theorem dX3_canSpoil_6 : decode cX3_canSpoil 6 = .ok (.aload_n 2, 1) := by decide +kernel
theorem dX3_canSpoil_7 : decode cX3_canSpoil 7 = .ok (.ifnull 14, 3) := by decide +kernel
theorem dX3_canSpoil_10 : decode cX3_canSpoil 10 = .ok (.aload_n 2, 1) := by decide +kernel
theorem dX3_canSpoil_11 : decode cX3_canSpoil 11 = .ok (.getfield 251, 3) := by decide +kernel
theorem dX3_canSpoil_14 : decode cX3_canSpoil 14 = .ok (.ifCond .ne 7, 3) := by decide +kernel
theorem dX3_canSpoil_17 : decode cX3_canSpoil 17 = .ok (.iconst 1, 1) := by decide +kernel
theorem dX3_canSpoil_18 : decode cX3_canSpoil 18 = .ok (.goto 4, 3) := by decide +kernel
theorem dX3_canSpoil_21 : decode cX3_canSpoil 21 = .ok (.iconst 0, 1) := by decide +kernel
theorem dX3_canSpoil_22 : decode cX3_canSpoil 22 = .ok (.ireturn, 1) := by decide +kernel
theorem dX3_moreUrgentThan_0 : decode cX3_moreUrgentThan 0 = .ok (.aload_n 0, 1) := by decide +kernel
theorem dX3_moreUrgentThan_1 : decode cX3_moreUrgentThan 1 = .ok (.iload_n 1, 1) := by decide +kernel
theorem dX3_moreUrgentThan_2 : decode cX3_moreUrgentThan 2 = .ok (.invokevirtual 205, 3) := by decide +kernel
theorem dX3_moreUrgentThan_5 : decode cX3_moreUrgentThan 5 = .ok (.astore_n 2, 1) := by decide +kernel
theorem dX3_moreUrgentThan_6 : decode cX3_moreUrgentThan 6 = .ok (.iconst 0, 1) := by decide +kernel
theorem dX3_moreUrgentThan_7 : decode cX3_moreUrgentThan 7 = .ok (.istore_n 3, 1) := by decide +kernel
theorem dX3_moreUrgentThan_8 : decode cX3_moreUrgentThan 8 = .ok (.iconst 0, 1) := by decide +kernel
theorem dX3_moreUrgentThan_9 : decode cX3_moreUrgentThan 9 = .ok (.istore 4, 2) := by decide +kernel
theorem dX3_moreUrgentThan_11 : decode cX3_moreUrgentThan 11 = .ok (.iload 4, 2) := by decide +kernel
theorem dX3_moreUrgentThan_13 : decode cX3_moreUrgentThan 13 = .ok (.aload_n 0, 1) := by decide +kernel
theorem dX3_moreUrgentThan_14 : decode cX3_moreUrgentThan 14 = .ok (.getfield 31, 3) := by decide +kernel
theorem dX3_moreUrgentThan_17 : decode cX3_moreUrgentThan 17 = .ok (.arraylength, 1) := by decide +kernel
theorem dX3_moreUrgentThan_18 : decode cX3_moreUrgentThan 18 = .ok (.if_icmp .ge 85, 3) := by decide +kernel
theorem dX3_moreUrgentThan_21 : decode cX3_moreUrgentThan 21 = .ok (.aload_n 2, 1) := by decide +kernel
theorem dX3_moreUrgentThan_22 : decode cX3_moreUrgentThan 22 = .ok (.ifnull 81, 3) := by decide +kernel
theorem dX3_moreUrgentThan_25 : decode cX3_moreUrgentThan 25 = .ok (.aload_n 0, 1) := by decide +kernel
theorem dX3_moreUrgentThan_26 : decode cX3_moreUrgentThan 26 = .ok (.getfield 31, 3) := by decide +kernel
theorem dX3_moreUrgentThan_29 : decode cX3_moreUrgentThan 29 = .ok (.iload 4, 2) := by decide +kernel
theorem dX3_moreUrgentThan_31 : decode cX3_moreUrgentThan 31 = .ok (.aaload, 1) := by decide +kernel
theorem dX3_moreUrgentThan_32 : decode cX3_moreUrgentThan 32 = .ok (.getfield 267, 3) := by decide +kernel
theorem dX3_moreUrgentThan_35 : decode cX3_moreUrgentThan 35 = .ok (.istore 5, 2) := by decide +kernel
theorem dX3_moreUrgentThan_37 : decode cX3_moreUrgentThan 37 = .ok (.iload 5, 2) := by decide +kernel
theorem dX3_moreUrgentThan_39 : decode cX3_moreUrgentThan 39 = .ok (.aload_n 2, 1) := by decide +kernel
theorem dX3_moreUrgentThan_40 : decode cX3_moreUrgentThan 40 = .ok (.getfield 267, 3) := by decide +kernel
theorem dX3_moreUrgentThan_43 : decode cX3_moreUrgentThan 43 = .ok (.if_icmp .ge 7, 3) := by decide +kernel
theorem dX3_moreUrgentThan_46 : decode cX3_moreUrgentThan 46 = .ok (.iconst 1, 1) := by decide +kernel
theorem dX3_moreUrgentThan_47 : decode cX3_moreUrgentThan 47 = .ok (.goto 4, 3) := by decide +kernel
theorem dX3_moreUrgentThan_50 : decode cX3_moreUrgentThan 50 = .ok (.iconst 0, 1) := by decide +kernel
theorem dX3_moreUrgentThan_51 : decode cX3_moreUrgentThan 51 = .ok (.istore 6, 2) := by decide +kernel
theorem dX3_moreUrgentThan_53 : decode cX3_moreUrgentThan 53 = .ok (.iload 5, 2) := by decide +kernel
theorem dX3_moreUrgentThan_55 : decode cX3_moreUrgentThan 55 = .ok (.aload_n 2, 1) := by decide +kernel
theorem dX3_moreUrgentThan_56 : decode cX3_moreUrgentThan 56 = .ok (.getfield 267, 3) := by decide +kernel
theorem dX3_moreUrgentThan_59 : decode cX3_moreUrgentThan 59 = .ok (.if_icmp .ne 13, 3) := by decide +kernel
theorem dX3_moreUrgentThan_62 : decode cX3_moreUrgentThan 62 = .ok (.iload 4, 2) := by decide +kernel
theorem dX3_moreUrgentThan_64 : decode cX3_moreUrgentThan 64 = .ok (.iload_n 1, 1) := by decide +kernel
theorem dX3_moreUrgentThan_65 : decode cX3_moreUrgentThan 65 = .ok (.if_icmp .ge 7, 3) := by decide +kernel
theorem dX3_moreUrgentThan_68 : decode cX3_moreUrgentThan 68 = .ok (.iconst 1, 1) := by decide +kernel
theorem dX3_moreUrgentThan_69 : decode cX3_moreUrgentThan 69 = .ok (.goto 4, 3) := by decide +kernel
theorem dX3_moreUrgentThan_72 : decode cX3_moreUrgentThan 72 = .ok (.iconst 0, 1) := by decide +kernel
theorem dX3_moreUrgentThan_73 : decode cX3_moreUrgentThan 73 = .ok (.istore 7, 2) := by decide +kernel
theorem dX3_moreUrgentThan_75 : decode cX3_moreUrgentThan 75 = .ok (.aload_n 0, 1) := by decide +kernel
theorem dX3_moreUrgentThan_76 : decode cX3_moreUrgentThan 76 = .ok (.iload 4, 2) := by decide +kernel
theorem dX3_moreUrgentThan_78 : decode cX3_moreUrgentThan 78 = .ok (.invokevirtual 294, 3) := by decide +kernel
theorem dX3_moreUrgentThan_81 : decode cX3_moreUrgentThan 81 = .ok (.ifCond .eq 16, 3) := by decide +kernel
theorem dX3_moreUrgentThan_84 : decode cX3_moreUrgentThan 84 = .ok (.iload 6, 2) := by decide +kernel
theorem dX3_moreUrgentThan_86 : decode cX3_moreUrgentThan 86 = .ok (.ifCond .ne 8, 3) := by decide +kernel
theorem dX3_moreUrgentThan_89 : decode cX3_moreUrgentThan 89 = .ok (.iload 7, 2) := by decide +kernel
theorem dX3_moreUrgentThan_91 : decode cX3_moreUrgentThan 91 = .ok (.ifCond .eq 6, 3) := by decide +kernel
theorem dX3_moreUrgentThan_94 : decode cX3_moreUrgentThan 94 = .ok (.iinc 3 1, 3) := by decide +kernel
theorem dX3_moreUrgentThan_97 : decode cX3_moreUrgentThan 97 = .ok (.iinc 4 1, 3) := by decide +kernel
theorem dX3_moreUrgentThan_100 : decode cX3_moreUrgentThan 100 = .ok (.goto (-89), 3) := by decide +kernel
theorem dX3_moreUrgentThan_103 : decode cX3_moreUrgentThan 103 = .ok (.iload_n 3, 1) := by decide +kernel
theorem dX3_moreUrgentThan_104 : decode cX3_moreUrgentThan 104 = .ok (.ireturn, 1) := by decide +kernel
theorem dX4_init_0 : decode cX4_init 0 = .ok (.aload_n 0, 1) := by decide +kernel
theorem dX4_init_1 : decode cX4_init 1 = .ok (.invokespecial 3, 3) := by decide +kernel
theorem dX4_init_4 : decode cX4_init 4 = .ok (.aload_n 0, 1) := by decide +kernel
theorem dX4_init_5 : decode cX4_init 5 = .ok (.iconst 4, 1) := by decide +kernel
theorem dX4_init_6 : decode cX4_init 6 = .ok (.anewarray 9, 3) := by decide +kernel
theorem dX4_init_9 : decode cX4_init 9 = .ok (.putfield 11, 3) := by decide +kernel
theorem dX4_init_12 : decode cX4_init 12 = .ok (.iconst 0, 1) := by decide +kernel
theorem dX4_init_13 : decode cX4_init 13 = .ok (.istore_n 1, 1) := by decide +kernel
theorem dX4_init_14 : decode cX4_init 14 = .ok (.iload_n 1, 1) := by decide +kernel
theorem dX4_init_15 : decode cX4_init 15 = .ok (.aload_n 0, 1) := by decide +kernel
theorem dX4_init_16 : decode cX4_init 16 = .ok (.getfield 11, 3) := by decide +kernel
theorem dX4_init_19 : decode cX4_init 19 = .ok (.arraylength, 1) := by decide +kernel
theorem dX4_init_20 : decode cX4_init 20 = .ok (.if_icmp .ge 22, 3) := by decide +kernel
theorem dX4_init_23 : decode cX4_init 23 = .ok (.aload_n 0, 1) := by decide +kernel
theorem dX4_init_24 : decode cX4_init 24 = .ok (.getfield 11, 3) := by decide +kernel
theorem dX4_init_27 : decode cX4_init 27 = .ok (.iload_n 1, 1) := by decide +kernel
theorem dX4_init_28 : decode cX4_init 28 = .ok (.new 9, 3) := by decide +kernel
theorem dX4_init_31 : decode cX4_init 31 = .ok (.dup, 1) := by decide +kernel
theorem dX4_init_32 : decode cX4_init 32 = .ok (.invokespecial 17, 3) := by decide +kernel
theorem dX4_init_35 : decode cX4_init 35 = .ok (.aastore, 1) := by decide +kernel
theorem dX4_init_36 : decode cX4_init 36 = .ok (.iinc 1 1, 3) := by decide +kernel
theorem dX4_init_39 : decode cX4_init 39 = .ok (.goto (-25), 3) := by decide +kernel
theorem dX4_init_42 : decode cX4_init 42 = .ok (.return_, 1) := by decide +kernel
theorem dX4_copyFrom_0 : decode cX4_copyFrom 0 = .ok (.aload_n 0, 1) := by decide +kernel
theorem dX4_copyFrom_1 : decode cX4_copyFrom 1 = .ok (.aload_n 1, 1) := by decide +kernel
theorem dX4_copyFrom_2 : decode cX4_copyFrom 2 = .ok (.getfield 18, 3) := by decide +kernel
theorem dX4_copyFrom_5 : decode cX4_copyFrom 5 = .ok (.putfield 18, 3) := by decide +kernel
theorem dX4_copyFrom_8 : decode cX4_copyFrom 8 = .ok (.aload_n 0, 1) := by decide +kernel
theorem dX4_copyFrom_9 : decode cX4_copyFrom 9 = .ok (.aload_n 1, 1) := by decide +kernel
theorem dX4_copyFrom_10 : decode cX4_copyFrom 10 = .ok (.getfield 22, 3) := by decide +kernel
theorem dX4_copyFrom_13 : decode cX4_copyFrom 13 = .ok (.putfield 22, 3) := by decide +kernel
theorem dX4_copyFrom_16 : decode cX4_copyFrom 16 = .ok (.iconst 0, 1) := by decide +kernel
theorem dX4_copyFrom_17 : decode cX4_copyFrom 17 = .ok (.istore_n 2, 1) := by decide +kernel
theorem dX4_copyFrom_18 : decode cX4_copyFrom 18 = .ok (.iload_n 2, 1) := by decide +kernel
theorem dX4_copyFrom_19 : decode cX4_copyFrom 19 = .ok (.aload_n 0, 1) := by decide +kernel
theorem dX4_copyFrom_20 : decode cX4_copyFrom 20 = .ok (.getfield 11, 3) := by decide +kernel
theorem dX4_copyFrom_23 : decode cX4_copyFrom 23 = .ok (.arraylength, 1) := by decide +kernel
theorem dX4_copyFrom_24 : decode cX4_copyFrom 24 = .ok (.if_icmp .ge 33, 3) := by decide +kernel
theorem dX4_copyFrom_27 : decode cX4_copyFrom 27 = .ok (.iload_n 2, 1) := by decide +kernel
theorem dX4_copyFrom_28 : decode cX4_copyFrom 28 = .ok (.aload_n 1, 1) := by decide +kernel
theorem dX4_copyFrom_29 : decode cX4_copyFrom 29 = .ok (.getfield 11, 3) := by decide +kernel
theorem dX4_copyFrom_32 : decode cX4_copyFrom 32 = .ok (.arraylength, 1) := by decide +kernel
theorem dX4_copyFrom_33 : decode cX4_copyFrom 33 = .ok (.if_icmp .ge 24, 3) := by decide +kernel
theorem dX4_copyFrom_36 : decode cX4_copyFrom 36 = .ok (.aload_n 0, 1) := by decide +kernel
theorem dX4_copyFrom_37 : decode cX4_copyFrom 37 = .ok (.getfield 11, 3) := by decide +kernel
theorem dX4_copyFrom_40 : decode cX4_copyFrom 40 = .ok (.iload_n 2, 1) := by decide +kernel
theorem dX4_copyFrom_41 : decode cX4_copyFrom 41 = .ok (.aaload, 1) := by decide +kernel
theorem dX4_copyFrom_42 : decode cX4_copyFrom 42 = .ok (.aload_n 1, 1) := by decide +kernel
theorem dX4_copyFrom_43 : decode cX4_copyFrom 43 = .ok (.getfield 11, 3) := by decide +kernel
theorem dX4_copyFrom_46 : decode cX4_copyFrom 46 = .ok (.iload_n 2, 1) := by decide +kernel
theorem dX4_copyFrom_47 : decode cX4_copyFrom 47 = .ok (.aaload, 1) := by decide +kernel
theorem dX4_copyFrom_48 : decode cX4_copyFrom 48 = .ok (.invokevirtual 25, 3) := by decide +kernel
theorem dX4_copyFrom_51 : decode cX4_copyFrom 51 = .ok (.iinc 2 1, 3) := by decide +kernel
theorem dX4_copyFrom_54 : decode cX4_copyFrom 54 = .ok (.goto (-36), 3) := by decide +kernel
theorem dX4_copyFrom_57 : decode cX4_copyFrom 57 = .ok (.return_, 1) := by decide +kernel
theorem dX4_stageAt_0 : decode cX4_stageAt 0 = .ok (.iload_n 1, 1) := by decide +kernel
theorem dX4_stageAt_1 : decode cX4_stageAt 1 = .ok (.ifCond .lt 24, 3) := by decide +kernel
theorem dX4_stageAt_4 : decode cX4_stageAt 4 = .ok (.iload_n 1, 1) := by decide +kernel
theorem dX4_stageAt_5 : decode cX4_stageAt 5 = .ok (.aload_n 0, 1) := by decide +kernel
theorem dX4_stageAt_6 : decode cX4_stageAt 6 = .ok (.getfield 22, 3) := by decide +kernel
theorem dX4_stageAt_9 : decode cX4_stageAt 9 = .ok (.if_icmp .ge 16, 3) := by decide +kernel
theorem dX4_stageAt_12 : decode cX4_stageAt 12 = .ok (.iload_n 1, 1) := by decide +kernel
theorem dX4_stageAt_13 : decode cX4_stageAt 13 = .ok (.aload_n 0, 1) := by decide +kernel
theorem dX4_stageAt_14 : decode cX4_stageAt 14 = .ok (.getfield 11, 3) := by decide +kernel
theorem dX4_stageAt_17 : decode cX4_stageAt 17 = .ok (.arraylength, 1) := by decide +kernel
theorem dX4_stageAt_18 : decode cX4_stageAt 18 = .ok (.if_icmp .ge 7, 3) := by decide +kernel
theorem dX4_stageAt_21 : decode cX4_stageAt 21 = .ok (.iconst 1, 1) := by decide +kernel
theorem dX4_stageAt_22 : decode cX4_stageAt 22 = .ok (.goto 4, 3) := by decide +kernel
theorem dX4_stageAt_25 : decode cX4_stageAt 25 = .ok (.iconst 0, 1) := by decide +kernel
theorem dX4_stageAt_26 : decode cX4_stageAt 26 = .ok (.istore_n 2, 1) := by decide +kernel
theorem dX4_stageAt_27 : decode cX4_stageAt 27 = .ok (.iload_n 2, 1) := by decide +kernel
theorem dX4_stageAt_28 : decode cX4_stageAt 28 = .ok (.ifCond .eq 12, 3) := by decide +kernel
theorem dX4_stageAt_31 : decode cX4_stageAt 31 = .ok (.aload_n 0, 1) := by decide +kernel
theorem dX4_stageAt_32 : decode cX4_stageAt 32 = .ok (.getfield 11, 3) := by decide +kernel
theorem dX4_stageAt_35 : decode cX4_stageAt 35 = .ok (.iload_n 1, 1) := by decide +kernel
theorem dX4_stageAt_36 : decode cX4_stageAt 36 = .ok (.aaload, 1) := by decide +kernel
theorem dX4_stageAt_37 : decode cX4_stageAt 37 = .ok (.goto 4, 3) := by decide +kernel
theorem dX4_stageAt_40 : decode cX4_stageAt 40 = .ok (.aconst_null, 1) := by decide +kernel
theorem dX4_stageAt_41 : decode cX4_stageAt 41 = .ok (.areturn, 1) := by decide +kernel
theorem dX5_init_0 : decode cX5_init 0 = .ok (.aload_n 0, 1) := by decide +kernel
theorem dX5_init_1 : decode cX5_init 1 = .ok (.invokespecial 3, 3) := by decide +kernel
theorem dX5_init_4 : decode cX5_init 4 = .ok (.aload_n 0, 1) := by decide +kernel
theorem dX5_init_5 : decode cX5_init 5 = .ok (.bipush 80, 2) := by decide +kernel
theorem dX5_init_7 : decode cX5_init 7 = .ok (.newarray .char, 2) := by decide +kernel
theorem dX5_init_9 : decode cX5_init 9 = .ok (.putfield 9, 3) := by decide +kernel
theorem dX5_init_12 : decode cX5_init 12 = .ok (.aload_n 0, 1) := by decide +kernel
theorem dX5_init_13 : decode cX5_init 13 = .ok (.iconst 3, 1) := by decide +kernel
theorem dX5_init_14 : decode cX5_init 14 = .ok (.newarray .int, 2) := by decide +kernel
theorem dX5_init_16 : decode cX5_init 16 = .ok (.putfield 15, 3) := by decide +kernel
theorem dX5_init_19 : decode cX5_init 19 = .ok (.return_, 1) := by decide +kernel
theorem dX5_append_0 : decode cX5_append 0 = .ok (.iload_n 1, 1) := by decide +kernel
theorem dX5_append_1 : decode cX5_append 1 = .ok (.bipush 32, 2) := by decide +kernel
theorem dX5_append_3 : decode cX5_append 3 = .ok (.bipush 126, 2) := by decide +kernel
theorem dX5_append_5 : decode cX5_append 5 = .ok (.invokestatic 19, 3) := by decide +kernel
theorem dX5_append_8 : decode cX5_append 8 = .ok (.ifCond .ne 5, 3) := by decide +kernel
theorem dX5_append_11 : decode cX5_append 11 = .ok (.iconst (-1), 1) := by decide +kernel
theorem dX5_append_12 : decode cX5_append 12 = .ok (.ireturn, 1) := by decide +kernel
theorem dX5_append_13 : decode cX5_append 13 = .ok (.aload_n 0, 1) := by decide +kernel
theorem dX5_append_14 : decode cX5_append 14 = .ok (.getfield 23, 3) := by decide +kernel
theorem dX5_append_17 : decode cX5_append 17 = .ok (.ifCond .lt 15, 3) := by decide +kernel
theorem dX5_append_20 : decode cX5_append 20 = .ok (.aload_n 0, 1) := by decide +kernel
theorem dX5_append_21 : decode cX5_append 21 = .ok (.getfield 23, 3) := by decide +kernel
theorem dX5_append_24 : decode cX5_append 24 = .ok (.aload_n 0, 1) := by decide +kernel
theorem dX5_append_25 : decode cX5_append 25 = .ok (.getfield 9, 3) := by decide +kernel
theorem dX5_append_28 : decode cX5_append 28 = .ok (.arraylength, 1) := by decide +kernel
theorem dX5_append_29 : decode cX5_append 29 = .ok (.if_icmp .lt 6, 3) := by decide +kernel
theorem dX5_append_32 : decode cX5_append 32 = .ok (.bipush (-3), 2) := by decide +kernel
theorem dX5_append_34 : decode cX5_append 34 = .ok (.ireturn, 1) := by decide +kernel
theorem dX5_append_35 : decode cX5_append 35 = .ok (.aload_n 0, 1) := by decide +kernel
theorem dX5_append_36 : decode cX5_append 36 = .ok (.getfield 9, 3) := by decide +kernel
theorem dX5_append_39 : decode cX5_append 39 = .ok (.aload_n 0, 1) := by decide +kernel
theorem dX5_append_40 : decode cX5_append 40 = .ok (.getfield 23, 3) := by decide +kernel
theorem dX5_append_43 : decode cX5_append 43 = .ok (.iload_n 1, 1) := by decide +kernel
theorem dX5_append_44 : decode cX5_append 44 = .ok (.i2c, 1) := by decide +kernel
theorem dX5_append_45 : decode cX5_append 45 = .ok (.castore, 1) := by decide +kernel
theorem dX5_append_46 : decode cX5_append 46 = .ok (.aload_n 0, 1) := by decide +kernel
theorem dX5_append_47 : decode cX5_append 47 = .ok (.dup, 1) := by decide +kernel
theorem dX5_append_48 : decode cX5_append 48 = .ok (.getfield 23, 3) := by decide +kernel
theorem dX5_append_51 : decode cX5_append 51 = .ok (.iconst 1, 1) := by decide +kernel
theorem dX5_append_52 : decode cX5_append 52 = .ok (.iadd, 1) := by decide +kernel
theorem dX5_append_53 : decode cX5_append 53 = .ok (.putfield 23, 3) := by decide +kernel
theorem dX5_append_56 : decode cX5_append 56 = .ok (.aload_n 0, 1) := by decide +kernel
theorem dX5_append_57 : decode cX5_append 57 = .ok (.getfield 23, 3) := by decide +kernel
theorem dX5_append_60 : decode cX5_append 60 = .ok (.ireturn, 1) := by decide +kernel
theorem dX5_signAt_0 : decode cX5_signAt 0 = .ok (.iload_n 1, 1) := by decide +kernel
theorem dX5_signAt_1 : decode cX5_signAt 1 = .ok (.ifCond .lt 24, 3) := by decide +kernel
theorem dX5_signAt_4 : decode cX5_signAt 4 = .ok (.iload_n 1, 1) := by decide +kernel
theorem dX5_signAt_5 : decode cX5_signAt 5 = .ok (.aload_n 0, 1) := by decide +kernel
theorem dX5_signAt_6 : decode cX5_signAt 6 = .ok (.getfield 23, 3) := by decide +kernel
theorem dX5_signAt_9 : decode cX5_signAt 9 = .ok (.if_icmp .ge 16, 3) := by decide +kernel
theorem dX5_signAt_12 : decode cX5_signAt 12 = .ok (.iload_n 1, 1) := by decide +kernel
theorem dX5_signAt_13 : decode cX5_signAt 13 = .ok (.aload_n 0, 1) := by decide +kernel
theorem dX5_signAt_14 : decode cX5_signAt 14 = .ok (.getfield 9, 3) := by decide +kernel
theorem dX5_signAt_17 : decode cX5_signAt 17 = .ok (.arraylength, 1) := by decide +kernel
theorem dX5_signAt_18 : decode cX5_signAt 18 = .ok (.if_icmp .ge 7, 3) := by decide +kernel
theorem dX5_signAt_21 : decode cX5_signAt 21 = .ok (.iconst 1, 1) := by decide +kernel
theorem dX5_signAt_22 : decode cX5_signAt 22 = .ok (.goto 4, 3) := by decide +kernel
theorem dX5_signAt_25 : decode cX5_signAt 25 = .ok (.iconst 0, 1) := by decide +kernel
theorem dX5_signAt_26 : decode cX5_signAt 26 = .ok (.istore_n 2, 1) := by decide +kernel
theorem dX5_signAt_27 : decode cX5_signAt 27 = .ok (.iload_n 2, 1) := by decide +kernel
theorem dX5_signAt_28 : decode cX5_signAt 28 = .ok (.ifCond .eq 12, 3) := by decide +kernel
theorem dX5_signAt_31 : decode cX5_signAt 31 = .ok (.aload_n 0, 1) := by decide +kernel
theorem dX5_signAt_32 : decode cX5_signAt 32 = .ok (.getfield 9, 3) := by decide +kernel
theorem dX5_signAt_35 : decode cX5_signAt 35 = .ok (.iload_n 1, 1) := by decide +kernel
theorem dX5_signAt_36 : decode cX5_signAt 36 = .ok (.caload, 1) := by decide +kernel
theorem dX5_signAt_37 : decode cX5_signAt 37 = .ok (.goto 4, 3) := by decide +kernel
theorem dX5_signAt_40 : decode cX5_signAt 40 = .ok (.iconst 0, 1) := by decide +kernel
theorem dX5_signAt_41 : decode cX5_signAt 41 = .ok (.ireturn, 1) := by decide +kernel
theorem dX5_readCommand_0 : decode cX5_readCommand 0 = .ok (.aload_n 0, 1) := by decide +kernel
theorem dX5_readCommand_1 : decode cX5_readCommand 1 = .ok (.aload_n 0, 1) := by decide +kernel
theorem dX5_readCommand_2 : decode cX5_readCommand 2 = .ok (.iload_n 1, 1) := by decide +kernel
theorem dX5_readCommand_3 : decode cX5_readCommand 3 = .ok (.invokevirtual 27, 3) := by decide +kernel
theorem dX5_readCommand_6 : decode cX5_readCommand 6 = .ok (.putfield 31, 3) := by decide +kernel
theorem dX5_readCommand_9 : decode cX5_readCommand 9 = .ok (.aload_n 0, 1) := by decide +kernel
theorem dX5_readCommand_10 : decode cX5_readCommand 10 = .ok (.getfield 31, 3) := by decide +kernel
theorem dX5_readCommand_13 : decode cX5_readCommand 13 = .ok (.invokestatic 35, 3) := by decide +kernel
theorem dX5_readCommand_16 : decode cX5_readCommand 16 = .ok (.istore_n 2, 1) := by decide +kernel
theorem dX5_readCommand_17 : decode cX5_readCommand 17 = .ok (.aload_n 0, 1) := by decide +kernel
theorem dX5_readCommand_18 : decode cX5_readCommand 18 = .ok (.iload_n 1, 1) := by decide +kernel
theorem dX5_readCommand_19 : decode cX5_readCommand 19 = .ok (.iconst 1, 1) := by decide +kernel
theorem dX5_readCommand_20 : decode cX5_readCommand 20 = .ok (.iadd, 1) := by decide +kernel
theorem dX5_readCommand_21 : decode cX5_readCommand 21 = .ok (.putfield 39, 3) := by decide +kernel
theorem dX5_readCommand_24 : decode cX5_readCommand 24 = .ok (.iconst 0, 1) := by decide +kernel
theorem dX5_readCommand_25 : decode cX5_readCommand 25 = .ok (.istore_n 3, 1) := by decide +kernel
theorem dX5_readCommand_26 : decode cX5_readCommand 26 = .ok (.iload_n 3, 1) := by decide +kernel
theorem dX5_readCommand_27 : decode cX5_readCommand 27 = .ok (.iload_n 2, 1) := by decide +kernel
theorem dX5_readCommand_28 : decode cX5_readCommand 28 = .ok (.if_icmp .ge 58, 3) := by decide +kernel
theorem dX5_readCommand_31 : decode cX5_readCommand 31 = .ok (.iload_n 3, 1) := by decide +kernel
theorem dX5_readCommand_32 : decode cX5_readCommand 32 = .ok (.iconst 1, 1) := by decide +kernel
theorem dX5_readCommand_33 : decode cX5_readCommand 33 = .ok (.iadd, 1) := by decide +kernel
theorem dX5_readCommand_34 : decode cX5_readCommand 34 = .ok (.iload_n 2, 1) := by decide +kernel
theorem dX5_readCommand_35 : decode cX5_readCommand 35 = .ok (.if_icmp .ge 8, 3) := by decide +kernel
theorem dX5_readCommand_38 : decode cX5_readCommand 38 = .ok (.bipush 44, 2) := by decide +kernel
theorem dX5_readCommand_40 : decode cX5_readCommand 40 = .ok (.goto 5, 3) := by decide +kernel
theorem dX5_readCommand_43 : decode cX5_readCommand 43 = .ok (.bipush 59, 2) := by decide +kernel
theorem dX5_readCommand_45 : decode cX5_readCommand 45 = .ok (.istore 4, 2) := by decide +kernel
theorem dX5_readCommand_47 : decode cX5_readCommand 47 = .ok (.aload_n 0, 1) := by decide +kernel
theorem dX5_readCommand_48 : decode cX5_readCommand 48 = .ok (.iload_n 3, 1) := by decide +kernel
theorem dX5_readCommand_49 : decode cX5_readCommand 49 = .ok (.invokevirtual 42, 3) := by decide +kernel
theorem dX5_readCommand_52 : decode cX5_readCommand 52 = .ok (.ifCond .eq 16, 3) := by decide +kernel
theorem dX5_readCommand_55 : decode cX5_readCommand 55 = .ok (.aload_n 0, 1) := by decide +kernel
theorem dX5_readCommand_56 : decode cX5_readCommand 56 = .ok (.aload_n 0, 1) := by decide +kernel
theorem dX5_readCommand_57 : decode cX5_readCommand 57 = .ok (.getfield 39, 3) := by decide +kernel
theorem dX5_readCommand_60 : decode cX5_readCommand 60 = .ok (.invokevirtual 27, 3) := by decide +kernel
theorem dX5_readCommand_63 : decode cX5_readCommand 63 = .ok (.iload 4, 2) := by decide +kernel
theorem dX5_readCommand_65 : decode cX5_readCommand 65 = .ok (.if_icmp .eq 5, 3) := by decide +kernel
theorem dX5_readCommand_68 : decode cX5_readCommand 68 = .ok (.iconst 0, 1) := by decide +kernel
theorem dX5_readCommand_69 : decode cX5_readCommand 69 = .ok (.ireturn, 1) := by decide +kernel
theorem dX5_readCommand_70 : decode cX5_readCommand 70 = .ok (.aload_n 0, 1) := by decide +kernel
theorem dX5_readCommand_71 : decode cX5_readCommand 71 = .ok (.dup, 1) := by decide +kernel
theorem dX5_readCommand_72 : decode cX5_readCommand 72 = .ok (.getfield 39, 3) := by decide +kernel
theorem dX5_readCommand_75 : decode cX5_readCommand 75 = .ok (.iconst 1, 1) := by decide +kernel
theorem dX5_readCommand_76 : decode cX5_readCommand 76 = .ok (.iadd, 1) := by decide +kernel
theorem dX5_readCommand_77 : decode cX5_readCommand 77 = .ok (.putfield 39, 3) := by decide +kernel
theorem dX5_readCommand_80 : decode cX5_readCommand 80 = .ok (.iinc 3 1, 3) := by decide +kernel
theorem dX5_readCommand_83 : decode cX5_readCommand 83 = .ok (.goto (-57), 3) := by decide +kernel
theorem dX5_readCommand_86 : decode cX5_readCommand 86 = .ok (.iload_n 2, 1) := by decide +kernel
theorem dX5_readCommand_87 : decode cX5_readCommand 87 = .ok (.ifCond .le 7, 3) := by decide +kernel
theorem dX5_readCommand_90 : decode cX5_readCommand 90 = .ok (.iconst 1, 1) := by decide +kernel
theorem dX5_readCommand_91 : decode cX5_readCommand 91 = .ok (.goto 4, 3) := by decide +kernel
theorem dX5_readCommand_94 : decode cX5_readCommand 94 = .ok (.iconst 0, 1) := by decide +kernel
theorem dX5_readCommand_95 : decode cX5_readCommand 95 = .ok (.ireturn, 1) := by decide +kernel
theorem dX5_numbersOf_0 : decode cX5_numbersOf 0 = .ok (.iload_n 0, 1) := by decide +kernel
theorem dX5_numbersOf_1 : decode cX5_numbersOf 1 = .ok (.lookupswitch 65 #[(98, 59), (101, 63), (109, 61), (111, 61), (116, 63), (120, 63)], 59) := by decide +kernel
theorem dX5_numbersOf_60 : decode cX5_numbersOf 60 = .ok (.iconst 3, 1) := by decide +kernel
theorem dX5_numbersOf_61 : decode cX5_numbersOf 61 = .ok (.ireturn, 1) := by decide +kernel
theorem dX5_numbersOf_62 : decode cX5_numbersOf 62 = .ok (.iconst 2, 1) := by decide +kernel
theorem dX5_numbersOf_63 : decode cX5_numbersOf 63 = .ok (.ireturn, 1) := by decide +kernel
theorem dX5_numbersOf_64 : decode cX5_numbersOf 64 = .ok (.iconst 1, 1) := by decide +kernel
theorem dX5_numbersOf_65 : decode cX5_numbersOf 65 = .ok (.ireturn, 1) := by decide +kernel
theorem dX5_numbersOf_66 : decode cX5_numbersOf 66 = .ok (.iconst 0, 1) := by decide +kernel
theorem dX5_numbersOf_67 : decode cX5_numbersOf 67 = .ok (.ireturn, 1) := by decide +kernel
theorem dX5_readNumber_0 : decode cX5_readNumber 0 = .ok (.iconst 0, 1) := by decide +kernel
theorem dX5_readNumber_1 : decode cX5_readNumber 1 = .ok (.istore_n 2, 1) := by decide +kernel
theorem dX5_readNumber_2 : decode cX5_readNumber 2 = .ok (.iconst 0, 1) := by decide +kernel
theorem dX5_readNumber_3 : decode cX5_readNumber 3 = .ok (.istore_n 3, 1) := by decide +kernel
theorem dX5_readNumber_4 : decode cX5_readNumber 4 = .ok (.iload_n 3, 1) := by decide +kernel
theorem dX5_readNumber_5 : decode cX5_readNumber 5 = .ok (.iconst 3, 1) := by decide +kernel
theorem dX5_readNumber_6 : decode cX5_readNumber 6 = .ok (.if_icmp .ge 54, 3) := by decide +kernel
theorem dX5_readNumber_9 : decode cX5_readNumber 9 = .ok (.aload_n 0, 1) := by decide +kernel
theorem dX5_readNumber_10 : decode cX5_readNumber 10 = .ok (.aload_n 0, 1) := by decide +kernel
theorem dX5_readNumber_11 : decode cX5_readNumber 11 = .ok (.getfield 39, 3) := by decide +kernel
theorem dX5_readNumber_14 : decode cX5_readNumber 14 = .ok (.invokevirtual 27, 3) := by decide +kernel
theorem dX5_readNumber_17 : decode cX5_readNumber 17 = .ok (.bipush 48, 2) := by decide +kernel
theorem dX5_readNumber_19 : decode cX5_readNumber 19 = .ok (.bipush 57, 2) := by decide +kernel
theorem dX5_readNumber_21 : decode cX5_readNumber 21 = .ok (.invokestatic 19, 3) := by decide +kernel
theorem dX5_readNumber_24 : decode cX5_readNumber 24 = .ok (.ifCond .eq 36, 3) := by decide +kernel
theorem dX5_readNumber_27 : decode cX5_readNumber 27 = .ok (.iload_n 2, 1) := by decide +kernel
theorem dX5_readNumber_28 : decode cX5_readNumber 28 = .ok (.bipush 10, 2) := by decide +kernel
theorem dX5_readNumber_30 : decode cX5_readNumber 30 = .ok (.imul, 1) := by decide +kernel
theorem dX5_readNumber_31 : decode cX5_readNumber 31 = .ok (.aload_n 0, 1) := by decide +kernel
theorem dX5_readNumber_32 : decode cX5_readNumber 32 = .ok (.aload_n 0, 1) := by decide +kernel
theorem dX5_readNumber_33 : decode cX5_readNumber 33 = .ok (.getfield 39, 3) := by decide +kernel
theorem dX5_readNumber_36 : decode cX5_readNumber 36 = .ok (.invokevirtual 27, 3) := by decide +kernel
theorem dX5_readNumber_39 : decode cX5_readNumber 39 = .ok (.iadd, 1) := by decide +kernel
theorem dX5_readNumber_40 : decode cX5_readNumber 40 = .ok (.bipush 48, 2) := by decide +kernel
theorem dX5_readNumber_42 : decode cX5_readNumber 42 = .ok (.isub, 1) := by decide +kernel
theorem dX5_readNumber_43 : decode cX5_readNumber 43 = .ok (.istore_n 2, 1) := by decide +kernel
theorem dX5_readNumber_44 : decode cX5_readNumber 44 = .ok (.iinc 3 1, 3) := by decide +kernel
theorem dX5_readNumber_47 : decode cX5_readNumber 47 = .ok (.aload_n 0, 1) := by decide +kernel
theorem dX5_readNumber_48 : decode cX5_readNumber 48 = .ok (.dup, 1) := by decide +kernel
theorem dX5_readNumber_49 : decode cX5_readNumber 49 = .ok (.getfield 39, 3) := by decide +kernel
theorem dX5_readNumber_52 : decode cX5_readNumber 52 = .ok (.iconst 1, 1) := by decide +kernel
theorem dX5_readNumber_53 : decode cX5_readNumber 53 = .ok (.iadd, 1) := by decide +kernel
theorem dX5_readNumber_54 : decode cX5_readNumber 54 = .ok (.putfield 39, 3) := by decide +kernel
theorem dX5_readNumber_57 : decode cX5_readNumber 57 = .ok (.goto (-53), 3) := by decide +kernel
theorem dX5_readNumber_60 : decode cX5_readNumber 60 = .ok (.aload_n 0, 1) := by decide +kernel
theorem dX5_readNumber_61 : decode cX5_readNumber 61 = .ok (.getfield 15, 3) := by decide +kernel
theorem dX5_readNumber_64 : decode cX5_readNumber 64 = .ok (.iload_n 1, 1) := by decide +kernel
theorem dX5_readNumber_65 : decode cX5_readNumber 65 = .ok (.iload_n 2, 1) := by decide +kernel
theorem dX5_readNumber_66 : decode cX5_readNumber 66 = .ok (.invokestatic 46, 3) := by decide +kernel
theorem dX5_readNumber_69 : decode cX5_readNumber 69 = .ok (.iload_n 3, 1) := by decide +kernel
theorem dX5_readNumber_70 : decode cX5_readNumber 70 = .ok (.ifCond .le 7, 3) := by decide +kernel
theorem dX5_readNumber_73 : decode cX5_readNumber 73 = .ok (.iconst 1, 1) := by decide +kernel
theorem dX5_readNumber_74 : decode cX5_readNumber 74 = .ok (.goto 4, 3) := by decide +kernel
theorem dX5_readNumber_77 : decode cX5_readNumber 77 = .ok (.iconst 0, 1) := by decide +kernel
theorem dX5_readNumber_78 : decode cX5_readNumber 78 = .ok (.ireturn, 1) := by decide +kernel
theorem dX6_init_0 : decode cX6_init 0 = .ok (.aload_n 0, 1) := by decide +kernel
theorem dX6_init_1 : decode cX6_init 1 = .ok (.invokespecial 1, 3) := by decide +kernel
theorem dX6_init_4 : decode cX6_init 4 = .ok (.return_, 1) := by decide +kernel
theorem dX6_copyFrom_0 : decode cX6_copyFrom 0 = .ok (.aload_n 0, 1) := by decide +kernel
theorem dX6_copyFrom_1 : decode cX6_copyFrom 1 = .ok (.aload_n 1, 1) := by decide +kernel
theorem dX6_copyFrom_2 : decode cX6_copyFrom 2 = .ok (.getfield 7, 3) := by decide +kernel
theorem dX6_copyFrom_5 : decode cX6_copyFrom 5 = .ok (.putfield 7, 3) := by decide +kernel
theorem dX6_copyFrom_8 : decode cX6_copyFrom 8 = .ok (.aload_n 0, 1) := by decide +kernel
theorem dX6_copyFrom_9 : decode cX6_copyFrom 9 = .ok (.aload_n 1, 1) := by decide +kernel
theorem dX6_copyFrom_10 : decode cX6_copyFrom 10 = .ok (.getfield 13, 3) := by decide +kernel
theorem dX6_copyFrom_13 : decode cX6_copyFrom 13 = .ok (.putfield 13, 3) := by decide +kernel
theorem dX6_copyFrom_16 : decode cX6_copyFrom 16 = .ok (.aload_n 0, 1) := by decide +kernel
theorem dX6_copyFrom_17 : decode cX6_copyFrom 17 = .ok (.aload_n 1, 1) := by decide +kernel
theorem dX6_copyFrom_18 : decode cX6_copyFrom 18 = .ok (.getfield 16, 3) := by decide +kernel
theorem dX6_copyFrom_21 : decode cX6_copyFrom 21 = .ok (.putfield 16, 3) := by decide +kernel
theorem dX6_copyFrom_24 : decode cX6_copyFrom 24 = .ok (.aload_n 0, 1) := by decide +kernel
theorem dX6_copyFrom_25 : decode cX6_copyFrom 25 = .ok (.aload_n 1, 1) := by decide +kernel
theorem dX6_copyFrom_26 : decode cX6_copyFrom 26 = .ok (.getfield 19, 3) := by decide +kernel
theorem dX6_copyFrom_29 : decode cX6_copyFrom 29 = .ok (.putfield 19, 3) := by decide +kernel
theorem dX6_copyFrom_32 : decode cX6_copyFrom 32 = .ok (.return_, 1) := by decide +kernel
theorem dX6_detail_0 : decode cX6_detail 0 = .ok (.iload_n 1, 1) := by decide +kernel
theorem dX6_detail_1 : decode cX6_detail 1 = .ok (.tableswitch 42 0 2 #[27, 32, 37], 27) := by decide +kernel
theorem dX6_detail_28 : decode cX6_detail 28 = .ok (.aload_n 0, 1) := by decide +kernel
theorem dX6_detail_29 : decode cX6_detail 29 = .ok (.getfield 7, 3) := by decide +kernel
theorem dX6_detail_32 : decode cX6_detail 32 = .ok (.ireturn, 1) := by decide +kernel
theorem dX6_detail_33 : decode cX6_detail 33 = .ok (.aload_n 0, 1) := by decide +kernel
theorem dX6_detail_34 : decode cX6_detail 34 = .ok (.getfield 13, 3) := by decide +kernel
theorem dX6_detail_37 : decode cX6_detail 37 = .ok (.ireturn, 1) := by decide +kernel
theorem dX6_detail_38 : decode cX6_detail 38 = .ok (.aload_n 0, 1) := by decide +kernel
theorem dX6_detail_39 : decode cX6_detail 39 = .ok (.getfield 16, 3) := by decide +kernel
theorem dX6_detail_42 : decode cX6_detail 42 = .ok (.ireturn, 1) := by decide +kernel
theorem dX6_detail_43 : decode cX6_detail 43 = .ok (.aload_n 0, 1) := by decide +kernel
theorem dX6_detail_44 : decode cX6_detail 44 = .ok (.getfield 19, 3) := by decide +kernel
theorem dX6_detail_47 : decode cX6_detail 47 = .ok (.ireturn, 1) := by decide +kernel
theorem dX7_init_0 : decode cX7_init 0 = .ok (.aload_n 0, 1) := by decide +kernel
theorem dX7_init_1 : decode cX7_init 1 = .ok (.invokespecial 3, 3) := by decide +kernel
theorem dX7_init_4 : decode cX7_init 4 = .ok (.aload_n 0, 1) := by decide +kernel
theorem dX7_init_5 : decode cX7_init 5 = .ok (.iconst (-1), 1) := by decide +kernel
theorem dX7_init_6 : decode cX7_init 6 = .ok (.putfield 9, 3) := by decide +kernel
theorem dX7_init_9 : decode cX7_init 9 = .ok (.aload_n 0, 1) := by decide +kernel
theorem dX7_init_10 : decode cX7_init 10 = .ok (.iconst (-1), 1) := by decide +kernel
theorem dX7_init_11 : decode cX7_init 11 = .ok (.putfield 15, 3) := by decide +kernel
theorem dX7_init_14 : decode cX7_init 14 = .ok (.return_, 1) := by decide +kernel
theorem dX7_copyFrom_0 : decode cX7_copyFrom 0 = .ok (.aload_n 0, 1) := by decide +kernel
theorem dX7_copyFrom_1 : decode cX7_copyFrom 1 = .ok (.aload_n 1, 1) := by decide +kernel
theorem dX7_copyFrom_2 : decode cX7_copyFrom 2 = .ok (.getfield 18, 3) := by decide +kernel
theorem dX7_copyFrom_5 : decode cX7_copyFrom 5 = .ok (.putfield 18, 3) := by decide +kernel
theorem dX7_copyFrom_8 : decode cX7_copyFrom 8 = .ok (.aload_n 0, 1) := by decide +kernel
theorem dX7_copyFrom_9 : decode cX7_copyFrom 9 = .ok (.aload_n 1, 1) := by decide +kernel
theorem dX7_copyFrom_10 : decode cX7_copyFrom 10 = .ok (.getfield 21, 3) := by decide +kernel
theorem dX7_copyFrom_13 : decode cX7_copyFrom 13 = .ok (.putfield 21, 3) := by decide +kernel
theorem dX7_copyFrom_16 : decode cX7_copyFrom 16 = .ok (.aload_n 0, 1) := by decide +kernel
theorem dX7_copyFrom_17 : decode cX7_copyFrom 17 = .ok (.aload_n 1, 1) := by decide +kernel
theorem dX7_copyFrom_18 : decode cX7_copyFrom 18 = .ok (.getfield 9, 3) := by decide +kernel
theorem dX7_copyFrom_21 : decode cX7_copyFrom 21 = .ok (.putfield 9, 3) := by decide +kernel
theorem dX7_copyFrom_24 : decode cX7_copyFrom 24 = .ok (.aload_n 0, 1) := by decide +kernel
theorem dX7_copyFrom_25 : decode cX7_copyFrom 25 = .ok (.aload_n 1, 1) := by decide +kernel
theorem dX7_copyFrom_26 : decode cX7_copyFrom 26 = .ok (.getfield 15, 3) := by decide +kernel
theorem dX7_copyFrom_29 : decode cX7_copyFrom 29 = .ok (.putfield 15, 3) := by decide +kernel
theorem dX7_copyFrom_32 : decode cX7_copyFrom 32 = .ok (.aload_n 0, 1) := by decide +kernel
theorem dX7_copyFrom_33 : decode cX7_copyFrom 33 = .ok (.aload_n 1, 1) := by decide +kernel
theorem dX7_copyFrom_34 : decode cX7_copyFrom 34 = .ok (.getfield 24, 3) := by decide +kernel
theorem dX7_copyFrom_37 : decode cX7_copyFrom 37 = .ok (.putfield 24, 3) := by decide +kernel
theorem dX7_copyFrom_40 : decode cX7_copyFrom 40 = .ok (.return_, 1) := by decide +kernel
theorem dX7_canTake_0 : decode cX7_canTake 0 = .ok (.aload_n 0, 1) := by decide +kernel
theorem dX7_canTake_1 : decode cX7_canTake 1 = .ok (.getfield 9, 3) := by decide +kernel
theorem dX7_canTake_4 : decode cX7_canTake 4 = .ok (.iconst (-1), 1) := by decide +kernel
theorem dX7_canTake_5 : decode cX7_canTake 5 = .ok (.if_icmp .ne 16, 3) := by decide +kernel
theorem dX7_canTake_8 : decode cX7_canTake 8 = .ok (.aload_n 0, 1) := by decide +kernel
theorem dX7_canTake_9 : decode cX7_canTake 9 = .ok (.iload_n 1, 1) := by decide +kernel
theorem dX7_canTake_10 : decode cX7_canTake 10 = .ok (.iload_n 2, 1) := by decide +kernel
theorem dX7_canTake_11 : decode cX7_canTake 11 = .ok (.invokevirtual 27, 3) := by decide +kernel
theorem dX7_canTake_14 : decode cX7_canTake 14 = .ok (.ifCond .eq 7, 3) := by decide +kernel
theorem dX7_canTake_17 : decode cX7_canTake 17 = .ok (.iconst 1, 1) := by decide +kernel
theorem dX7_canTake_18 : decode cX7_canTake 18 = .ok (.goto 4, 3) := by decide +kernel
theorem dX7_canTake_21 : decode cX7_canTake 21 = .ok (.iconst 0, 1) := by decide +kernel
theorem dX7_canTake_22 : decode cX7_canTake 22 = .ok (.ireturn, 1) := by decide +kernel
theorem dX7_suits_0 : decode cX7_suits 0 = .ok (.aload_n 0, 1) := by decide +kernel
theorem dX7_suits_1 : decode cX7_suits 1 = .ok (.getfield 18, 3) := by decide +kernel
theorem dX7_suits_4 : decode cX7_suits 4 = .ok (.iload_n 1, 1) := by decide +kernel
theorem dX7_suits_5 : decode cX7_suits 5 = .ok (.if_icmp .ne 15, 3) := by decide +kernel
theorem dX7_suits_8 : decode cX7_suits 8 = .ok (.aload_n 0, 1) := by decide +kernel
theorem dX7_suits_9 : decode cX7_suits 9 = .ok (.getfield 21, 3) := by decide +kernel
theorem dX7_suits_12 : decode cX7_suits 12 = .ok (.iload_n 2, 1) := by decide +kernel
theorem dX7_suits_13 : decode cX7_suits 13 = .ok (.if_icmp .lt 7, 3) := by decide +kernel
theorem dX7_suits_16 : decode cX7_suits 16 = .ok (.iconst 1, 1) := by decide +kernel
theorem dX7_suits_17 : decode cX7_suits 17 = .ok (.goto 4, 3) := by decide +kernel
theorem dX7_suits_20 : decode cX7_suits 20 = .ok (.iconst 0, 1) := by decide +kernel
theorem dX7_suits_21 : decode cX7_suits 21 = .ok (.ireturn, 1) := by decide +kernel
theorem dX7_detail_0 : decode cX7_detail 0 = .ok (.iload_n 1, 1) := by decide +kernel
theorem dX7_detail_1 : decode cX7_detail 1 = .ok (.tableswitch 51 0 3 #[31, 36, 41, 46], 31) := by decide +kernel
theorem dX7_detail_32 : decode cX7_detail 32 = .ok (.aload_n 0, 1) := by decide +kernel
theorem dX7_detail_33 : decode cX7_detail 33 = .ok (.getfield 18, 3) := by decide +kernel
theorem dX7_detail_36 : decode cX7_detail 36 = .ok (.ireturn, 1) := by decide +kernel
theorem dX7_detail_37 : decode cX7_detail 37 = .ok (.aload_n 0, 1) := by decide +kernel
theorem dX7_detail_38 : decode cX7_detail 38 = .ok (.getfield 21, 3) := by decide +kernel
theorem dX7_detail_41 : decode cX7_detail 41 = .ok (.ireturn, 1) := by decide +kernel
theorem dX7_detail_42 : decode cX7_detail 42 = .ok (.aload_n 0, 1) := by decide +kernel
theorem dX7_detail_43 : decode cX7_detail 43 = .ok (.getfield 9, 3) := by decide +kernel
theorem dX7_detail_46 : decode cX7_detail 46 = .ok (.ireturn, 1) := by decide +kernel
theorem dX7_detail_47 : decode cX7_detail 47 = .ok (.aload_n 0, 1) := by decide +kernel
theorem dX7_detail_48 : decode cX7_detail 48 = .ok (.getfield 15, 3) := by decide +kernel
theorem dX7_detail_51 : decode cX7_detail 51 = .ok (.ireturn, 1) := by decide +kernel
theorem dX7_detail_52 : decode cX7_detail 52 = .ok (.aload_n 0, 1) := by decide +kernel
theorem dX7_detail_53 : decode cX7_detail 53 = .ok (.getfield 24, 3) := by decide +kernel
theorem dX7_detail_56 : decode cX7_detail 56 = .ok (.ireturn, 1) := by decide +kernel
theorem dX8_init_0 : decode cX8_init 0 = .ok (.aload_n 0, 1) := by decide +kernel
theorem dX8_init_1 : decode cX8_init 1 = .ok (.invokespecial 1, 3) := by decide +kernel
theorem dX8_init_4 : decode cX8_init 4 = .ok (.aload_n 0, 1) := by decide +kernel
theorem dX8_init_5 : decode cX8_init 5 = .ok (.new 7, 3) := by decide +kernel
theorem dX8_init_8 : decode cX8_init 8 = .ok (.dup, 1) := by decide +kernel
theorem dX8_init_9 : decode cX8_init 9 = .ok (.invokespecial 9, 3) := by decide +kernel
theorem dX8_init_12 : decode cX8_init 12 = .ok (.putfield 10, 3) := by decide +kernel
theorem dX8_init_15 : decode cX8_init 15 = .ok (.aload_n 0, 1) := by decide +kernel
theorem dX8_init_16 : decode cX8_init 16 = .ok (.new 7, 3) := by decide +kernel
theorem dX8_init_19 : decode cX8_init 19 = .ok (.dup, 1) := by decide +kernel
theorem dX8_init_20 : decode cX8_init 20 = .ok (.invokespecial 9, 3) := by decide +kernel
theorem dX8_init_23 : decode cX8_init 23 = .ok (.putfield 16, 3) := by decide +kernel
theorem dX8_init_26 : decode cX8_init 26 = .ok (.aload_n 0, 1) := by decide +kernel
theorem dX8_init_27 : decode cX8_init 27 = .ok (.new 19, 3) := by decide +kernel
theorem dX8_init_30 : decode cX8_init 30 = .ok (.dup, 1) := by decide +kernel
theorem dX8_init_31 : decode cX8_init 31 = .ok (.invokespecial 21, 3) := by decide +kernel
theorem dX8_init_34 : decode cX8_init 34 = .ok (.putfield 22, 3) := by decide +kernel
theorem dX8_init_37 : decode cX8_init 37 = .ok (.aload_n 0, 1) := by decide +kernel
theorem dX8_init_38 : decode cX8_init 38 = .ok (.new 26, 3) := by decide +kernel
theorem dX8_init_41 : decode cX8_init 41 = .ok (.dup, 1) := by decide +kernel
theorem dX8_init_42 : decode cX8_init 42 = .ok (.invokespecial 28, 3) := by decide +kernel
theorem dX8_init_45 : decode cX8_init 45 = .ok (.putfield 29, 3) := by decide +kernel
theorem dX8_init_48 : decode cX8_init 48 = .ok (.return_, 1) := by decide +kernel
theorem dX8_recipe_0 : decode cX8_recipe 0 = .ok (.aload_n 0, 1) := by decide +kernel
theorem dX8_recipe_1 : decode cX8_recipe 1 = .ok (.getfield 22, 3) := by decide +kernel
theorem dX8_recipe_4 : decode cX8_recipe 4 = .ok (.aload_n 0, 1) := by decide +kernel
theorem dX8_recipe_5 : decode cX8_recipe 5 = .ok (.getfield 10, 3) := by decide +kernel
theorem dX8_recipe_8 : decode cX8_recipe 8 = .ok (.invokevirtual 33, 3) := by decide +kernel
theorem dX8_recipe_11 : decode cX8_recipe 11 = .ok (.aload_n 0, 1) := by decide +kernel
theorem dX8_recipe_12 : decode cX8_recipe 12 = .ok (.getfield 22, 3) := by decide +kernel
theorem dX8_recipe_15 : decode cX8_recipe 15 = .ok (.aload_n 0, 1) := by decide +kernel
theorem dX8_recipe_16 : decode cX8_recipe 16 = .ok (.getfield 10, 3) := by decide +kernel
theorem dX8_recipe_19 : decode cX8_recipe 19 = .ok (.iload_n 1, 1) := by decide +kernel
theorem dX8_recipe_20 : decode cX8_recipe 20 = .ok (.invokevirtual 37, 3) := by decide +kernel
theorem dX8_recipe_23 : decode cX8_recipe 23 = .ok (.invokevirtual 41, 3) := by decide +kernel
theorem dX8_recipe_26 : decode cX8_recipe 26 = .ok (.ireturn, 1) := by decide +kernel
theorem dX8_stage_0 : decode cX8_stage 0 = .ok (.aload_n 0, 1) := by decide +kernel
theorem dX8_stage_1 : decode cX8_stage 1 = .ok (.getfield 22, 3) := by decide +kernel
theorem dX8_stage_4 : decode cX8_stage 4 = .ok (.aload_n 0, 1) := by decide +kernel
theorem dX8_stage_5 : decode cX8_stage 5 = .ok (.getfield 10, 3) := by decide +kernel
theorem dX8_stage_8 : decode cX8_stage 8 = .ok (.invokevirtual 33, 3) := by decide +kernel
theorem dX8_stage_11 : decode cX8_stage 11 = .ok (.aload_n 0, 1) := by decide +kernel
theorem dX8_stage_12 : decode cX8_stage 12 = .ok (.getfield 22, 3) := by decide +kernel
theorem dX8_stage_15 : decode cX8_stage 15 = .ok (.aload_n 0, 1) := by decide +kernel
theorem dX8_stage_16 : decode cX8_stage 16 = .ok (.getfield 10, 3) := by decide +kernel
theorem dX8_stage_19 : decode cX8_stage 19 = .ok (.iload_n 1, 1) := by decide +kernel
theorem dX8_stage_20 : decode cX8_stage 20 = .ok (.iload_n 2, 1) := by decide +kernel
theorem dX8_stage_21 : decode cX8_stage 21 = .ok (.iload_n 3, 1) := by decide +kernel
theorem dX8_stage_22 : decode cX8_stage 22 = .ok (.iload 4, 2) := by decide +kernel
theorem dX8_stage_24 : decode cX8_stage 24 = .ok (.iload 5, 2) := by decide +kernel
theorem dX8_stage_26 : decode cX8_stage 26 = .ok (.invokevirtual 44, 3) := by decide +kernel
theorem dX8_stage_29 : decode cX8_stage 29 = .ok (.invokevirtual 41, 3) := by decide +kernel
theorem dX8_stage_32 : decode cX8_stage 32 = .ok (.ireturn, 1) := by decide +kernel
theorem dX8_vessel_0 : decode cX8_vessel 0 = .ok (.aload_n 0, 1) := by decide +kernel
theorem dX8_vessel_1 : decode cX8_vessel 1 = .ok (.getfield 22, 3) := by decide +kernel
theorem dX8_vessel_4 : decode cX8_vessel 4 = .ok (.aload_n 0, 1) := by decide +kernel
theorem dX8_vessel_5 : decode cX8_vessel 5 = .ok (.getfield 10, 3) := by decide +kernel
theorem dX8_vessel_8 : decode cX8_vessel 8 = .ok (.invokevirtual 33, 3) := by decide +kernel
theorem dX8_vessel_11 : decode cX8_vessel 11 = .ok (.aload_n 0, 1) := by decide +kernel
theorem dX8_vessel_12 : decode cX8_vessel 12 = .ok (.getfield 22, 3) := by decide +kernel
theorem dX8_vessel_15 : decode cX8_vessel 15 = .ok (.aload_n 0, 1) := by decide +kernel
theorem dX8_vessel_16 : decode cX8_vessel 16 = .ok (.getfield 10, 3) := by decide +kernel
theorem dX8_vessel_19 : decode cX8_vessel 19 = .ok (.iload_n 1, 1) := by decide +kernel
theorem dX8_vessel_20 : decode cX8_vessel 20 = .ok (.iload_n 2, 1) := by decide +kernel
theorem dX8_vessel_21 : decode cX8_vessel 21 = .ok (.invokevirtual 48, 3) := by decide +kernel
theorem dX8_vessel_24 : decode cX8_vessel 24 = .ok (.invokevirtual 41, 3) := by decide +kernel
theorem dX8_vessel_27 : decode cX8_vessel 27 = .ok (.ireturn, 1) := by decide +kernel
theorem dX8_line_0 : decode cX8_line 0 = .ok (.aload_n 0, 1) := by decide +kernel
theorem dX8_line_1 : decode cX8_line 1 = .ok (.getfield 22, 3) := by decide +kernel
theorem dX8_line_4 : decode cX8_line 4 = .ok (.aload_n 0, 1) := by decide +kernel
theorem dX8_line_5 : decode cX8_line 5 = .ok (.getfield 10, 3) := by decide +kernel
theorem dX8_line_8 : decode cX8_line 8 = .ok (.invokevirtual 33, 3) := by decide +kernel
theorem dX8_line_11 : decode cX8_line 11 = .ok (.aload_n 0, 1) := by decide +kernel
theorem dX8_line_12 : decode cX8_line 12 = .ok (.getfield 22, 3) := by decide +kernel
theorem dX8_line_15 : decode cX8_line 15 = .ok (.aload_n 0, 1) := by decide +kernel
theorem dX8_line_16 : decode cX8_line 16 = .ok (.getfield 10, 3) := by decide +kernel
theorem dX8_line_19 : decode cX8_line 19 = .ok (.iload_n 1, 1) := by decide +kernel
theorem dX8_line_20 : decode cX8_line 20 = .ok (.iload_n 2, 1) := by decide +kernel
theorem dX8_line_21 : decode cX8_line 21 = .ok (.invokevirtual 52, 3) := by decide +kernel
theorem dX8_line_24 : decode cX8_line 24 = .ok (.invokevirtual 41, 3) := by decide +kernel
theorem dX8_line_27 : decode cX8_line 27 = .ok (.ireturn, 1) := by decide +kernel
theorem dX8_cleaning_0 : decode cX8_cleaning 0 = .ok (.aload_n 0, 1) := by decide +kernel
theorem dX8_cleaning_1 : decode cX8_cleaning 1 = .ok (.getfield 22, 3) := by decide +kernel
theorem dX8_cleaning_4 : decode cX8_cleaning 4 = .ok (.aload_n 0, 1) := by decide +kernel
theorem dX8_cleaning_5 : decode cX8_cleaning 5 = .ok (.getfield 10, 3) := by decide +kernel
theorem dX8_cleaning_8 : decode cX8_cleaning 8 = .ok (.invokevirtual 33, 3) := by decide +kernel
theorem dX8_cleaning_11 : decode cX8_cleaning 11 = .ok (.aload_n 0, 1) := by decide +kernel
theorem dX8_cleaning_12 : decode cX8_cleaning 12 = .ok (.getfield 22, 3) := by decide +kernel
theorem dX8_cleaning_15 : decode cX8_cleaning 15 = .ok (.aload_n 0, 1) := by decide +kernel
theorem dX8_cleaning_16 : decode cX8_cleaning 16 = .ok (.getfield 10, 3) := by decide +kernel
theorem dX8_cleaning_19 : decode cX8_cleaning 19 = .ok (.iload_n 1, 1) := by decide +kernel
theorem dX8_cleaning_20 : decode cX8_cleaning 20 = .ok (.iload_n 2, 1) := by decide +kernel
theorem dX8_cleaning_21 : decode cX8_cleaning 21 = .ok (.iload_n 3, 1) := by decide +kernel
theorem dX8_cleaning_22 : decode cX8_cleaning 22 = .ok (.invokevirtual 55, 3) := by decide +kernel
theorem dX8_cleaning_25 : decode cX8_cleaning 25 = .ok (.invokevirtual 41, 3) := by decide +kernel
theorem dX8_cleaning_28 : decode cX8_cleaning 28 = .ok (.ireturn, 1) := by decide +kernel
theorem dX8_stageOf_0 : decode cX8_stageOf 0 = .ok (.aload_n 0, 1) := by decide +kernel
theorem dX8_stageOf_1 : decode cX8_stageOf 1 = .ok (.getfield 10, 3) := by decide +kernel
theorem dX8_stageOf_4 : decode cX8_stageOf 4 = .ok (.iload_n 1, 1) := by decide +kernel
theorem dX8_stageOf_5 : decode cX8_stageOf 5 = .ok (.invokevirtual 59, 3) := by decide +kernel
theorem dX8_stageOf_8 : decode cX8_stageOf 8 = .ok (.astore 4, 2) := by decide +kernel
theorem dX8_stageOf_10 : decode cX8_stageOf 10 = .ok (.aload 4, 2) := by decide +kernel
theorem dX8_stageOf_12 : decode cX8_stageOf 12 = .ok (.ifnull 16, 3) := by decide +kernel
theorem dX8_stageOf_15 : decode cX8_stageOf 15 = .ok (.iload_n 2, 1) := by decide +kernel
theorem dX8_stageOf_16 : decode cX8_stageOf 16 = .ok (.ifCond .lt 12, 3) := by decide +kernel
theorem dX8_stageOf_19 : decode cX8_stageOf 19 = .ok (.iload_n 3, 1) := by decide +kernel
theorem dX8_stageOf_20 : decode cX8_stageOf 20 = .ok (.iconst 0, 1) := by decide +kernel
theorem dX8_stageOf_21 : decode cX8_stageOf 21 = .ok (.iconst 4, 1) := by decide +kernel
theorem dX8_stageOf_22 : decode cX8_stageOf 22 = .ok (.invokestatic 63, 3) := by decide +kernel
theorem dX8_stageOf_25 : decode cX8_stageOf 25 = .ok (.ifCond .ne 5, 3) := by decide +kernel
theorem dX8_stageOf_28 : decode cX8_stageOf 28 = .ok (.iconst (-1), 1) := by decide +kernel
theorem dX8_stageOf_29 : decode cX8_stageOf 29 = .ok (.ireturn, 1) := by decide +kernel
theorem dX8_stageOf_30 : decode cX8_stageOf 30 = .ok (.aload 4, 2) := by decide +kernel
theorem dX8_stageOf_32 : decode cX8_stageOf 32 = .ok (.iload_n 2, 1) := by decide +kernel
theorem dX8_stageOf_33 : decode cX8_stageOf 33 = .ok (.invokevirtual 67, 3) := by decide +kernel
theorem dX8_stageOf_36 : decode cX8_stageOf 36 = .ok (.astore 5, 2) := by decide +kernel
theorem dX8_stageOf_38 : decode cX8_stageOf 38 = .ok (.aload 5, 2) := by decide +kernel
theorem dX8_stageOf_40 : decode cX8_stageOf 40 = .ok (.ifnonnull 6, 3) := by decide +kernel
theorem dX8_stageOf_43 : decode cX8_stageOf 43 = .ok (.bipush (-4), 2) := by decide +kernel
theorem dX8_stageOf_45 : decode cX8_stageOf 45 = .ok (.ireturn, 1) := by decide +kernel
theorem dX8_stageOf_46 : decode cX8_stageOf 46 = .ok (.iload_n 3, 1) := by decide +kernel
theorem dX8_stageOf_47 : decode cX8_stageOf 47 = .ok (.iconst 4, 1) := by decide +kernel
theorem dX8_stageOf_48 : decode cX8_stageOf 48 = .ok (.if_icmp .ne 11, 3) := by decide +kernel
theorem dX8_stageOf_51 : decode cX8_stageOf 51 = .ok (.aload 4, 2) := by decide +kernel
theorem dX8_stageOf_53 : decode cX8_stageOf 53 = .ok (.getfield 73, 3) := by decide +kernel
theorem dX8_stageOf_56 : decode cX8_stageOf 56 = .ok (.goto 9, 3) := by decide +kernel
theorem dX8_stageOf_59 : decode cX8_stageOf 59 = .ok (.aload 5, 2) := by decide +kernel
theorem dX8_stageOf_61 : decode cX8_stageOf 61 = .ok (.iload_n 3, 1) := by decide +kernel
theorem dX8_stageOf_62 : decode cX8_stageOf 62 = .ok (.invokevirtual 77, 3) := by decide +kernel
theorem dX8_stageOf_65 : decode cX8_stageOf 65 = .ok (.ireturn, 1) := by decide +kernel
theorem dX8_begin_0 : decode cX8_begin 0 = .ok (.aload_n 0, 1) := by decide +kernel
theorem dX8_begin_1 : decode cX8_begin 1 = .ok (.getfield 22, 3) := by decide +kernel
theorem dX8_begin_4 : decode cX8_begin 4 = .ok (.aload_n 0, 1) := by decide +kernel
theorem dX8_begin_5 : decode cX8_begin 5 = .ok (.getfield 10, 3) := by decide +kernel
theorem dX8_begin_8 : decode cX8_begin 8 = .ok (.invokevirtual 33, 3) := by decide +kernel
theorem dX8_begin_11 : decode cX8_begin 11 = .ok (.aload_n 0, 1) := by decide +kernel
theorem dX8_begin_12 : decode cX8_begin 12 = .ok (.getfield 22, 3) := by decide +kernel
theorem dX8_begin_15 : decode cX8_begin 15 = .ok (.aload_n 0, 1) := by decide +kernel
theorem dX8_begin_16 : decode cX8_begin 16 = .ok (.getfield 10, 3) := by decide +kernel
theorem dX8_begin_19 : decode cX8_begin 19 = .ok (.iload_n 1, 1) := by decide +kernel
theorem dX8_begin_20 : decode cX8_begin 20 = .ok (.iload_n 2, 1) := by decide +kernel
theorem dX8_begin_21 : decode cX8_begin 21 = .ok (.iload_n 3, 1) := by decide +kernel
theorem dX8_begin_22 : decode cX8_begin 22 = .ok (.invokevirtual 82, 3) := by decide +kernel
theorem dX8_begin_25 : decode cX8_begin 25 = .ok (.invokevirtual 41, 3) := by decide +kernel
theorem dX8_begin_28 : decode cX8_begin 28 = .ok (.ireturn, 1) := by decide +kernel
theorem dX8_move_0 : decode cX8_move 0 = .ok (.aload_n 0, 1) := by decide +kernel
theorem dX8_move_1 : decode cX8_move 1 = .ok (.getfield 22, 3) := by decide +kernel
theorem dX8_move_4 : decode cX8_move 4 = .ok (.aload_n 0, 1) := by decide +kernel
theorem dX8_move_5 : decode cX8_move 5 = .ok (.getfield 10, 3) := by decide +kernel
theorem dX8_move_8 : decode cX8_move 8 = .ok (.invokevirtual 33, 3) := by decide +kernel
theorem dX8_move_11 : decode cX8_move 11 = .ok (.aload_n 0, 1) := by decide +kernel
theorem dX8_move_12 : decode cX8_move 12 = .ok (.getfield 22, 3) := by decide +kernel
theorem dX8_move_15 : decode cX8_move 15 = .ok (.aload_n 0, 1) := by decide +kernel
theorem dX8_move_16 : decode cX8_move 16 = .ok (.getfield 10, 3) := by decide +kernel
theorem dX8_move_19 : decode cX8_move 19 = .ok (.iload_n 1, 1) := by decide +kernel
theorem dX8_move_20 : decode cX8_move 20 = .ok (.iload_n 2, 1) := by decide +kernel
theorem dX8_move_21 : decode cX8_move 21 = .ok (.invokevirtual 85, 3) := by decide +kernel
theorem dX8_move_24 : decode cX8_move 24 = .ok (.invokevirtual 41, 3) := by decide +kernel
theorem dX8_move_27 : decode cX8_move 27 = .ok (.ireturn, 1) := by decide +kernel
theorem dX8_end_0 : decode cX8_end 0 = .ok (.aload_n 0, 1) := by decide +kernel
theorem dX8_end_1 : decode cX8_end 1 = .ok (.getfield 22, 3) := by decide +kernel
theorem dX8_end_4 : decode cX8_end 4 = .ok (.aload_n 0, 1) := by decide +kernel
theorem dX8_end_5 : decode cX8_end 5 = .ok (.getfield 10, 3) := by decide +kernel
theorem dX8_end_8 : decode cX8_end 8 = .ok (.invokevirtual 33, 3) := by decide +kernel
theorem dX8_end_11 : decode cX8_end 11 = .ok (.aload_n 0, 1) := by decide +kernel
theorem dX8_end_12 : decode cX8_end 12 = .ok (.getfield 22, 3) := by decide +kernel
theorem dX8_end_15 : decode cX8_end 15 = .ok (.aload_n 0, 1) := by decide +kernel
theorem dX8_end_16 : decode cX8_end 16 = .ok (.getfield 10, 3) := by decide +kernel
theorem dX8_end_19 : decode cX8_end 19 = .ok (.iload_n 1, 1) := by decide +kernel
theorem dX8_end_20 : decode cX8_end 20 = .ok (.invokevirtual 88, 3) := by decide +kernel
theorem dX8_end_23 : decode cX8_end 23 = .ok (.invokevirtual 41, 3) := by decide +kernel
theorem dX8_end_26 : decode cX8_end 26 = .ok (.ireturn, 1) := by decide +kernel
theorem dX8_discard_0 : decode cX8_discard 0 = .ok (.aload_n 0, 1) := by decide +kernel
theorem dX8_discard_1 : decode cX8_discard 1 = .ok (.getfield 22, 3) := by decide +kernel
theorem dX8_discard_4 : decode cX8_discard 4 = .ok (.aload_n 0, 1) := by decide +kernel
theorem dX8_discard_5 : decode cX8_discard 5 = .ok (.getfield 10, 3) := by decide +kernel
theorem dX8_discard_8 : decode cX8_discard 8 = .ok (.invokevirtual 33, 3) := by decide +kernel
theorem dX8_discard_11 : decode cX8_discard 11 = .ok (.aload_n 0, 1) := by decide +kernel
theorem dX8_discard_12 : decode cX8_discard 12 = .ok (.getfield 22, 3) := by decide +kernel
theorem dX8_discard_15 : decode cX8_discard 15 = .ok (.aload_n 0, 1) := by decide +kernel
theorem dX8_discard_16 : decode cX8_discard 16 = .ok (.getfield 10, 3) := by decide +kernel
theorem dX8_discard_19 : decode cX8_discard 19 = .ok (.iload_n 1, 1) := by decide +kernel
theorem dX8_discard_20 : decode cX8_discard 20 = .ok (.invokevirtual 91, 3) := by decide +kernel
theorem dX8_discard_23 : decode cX8_discard 23 = .ok (.invokevirtual 41, 3) := by decide +kernel
theorem dX8_discard_26 : decode cX8_discard 26 = .ok (.ireturn, 1) := by decide +kernel
theorem dX8_blend_0 : decode cX8_blend 0 = .ok (.aload_n 0, 1) := by decide +kernel
theorem dX8_blend_1 : decode cX8_blend 1 = .ok (.getfield 22, 3) := by decide +kernel
theorem dX8_blend_4 : decode cX8_blend 4 = .ok (.aload_n 0, 1) := by decide +kernel
theorem dX8_blend_5 : decode cX8_blend 5 = .ok (.getfield 10, 3) := by decide +kernel
theorem dX8_blend_8 : decode cX8_blend 8 = .ok (.invokevirtual 33, 3) := by decide +kernel
theorem dX8_blend_11 : decode cX8_blend 11 = .ok (.aload_n 0, 1) := by decide +kernel
theorem dX8_blend_12 : decode cX8_blend 12 = .ok (.getfield 22, 3) := by decide +kernel
theorem dX8_blend_15 : decode cX8_blend 15 = .ok (.aload_n 0, 1) := by decide +kernel
theorem dX8_blend_16 : decode cX8_blend 16 = .ok (.getfield 10, 3) := by decide +kernel
theorem dX8_blend_19 : decode cX8_blend 19 = .ok (.iload_n 1, 1) := by decide +kernel
theorem dX8_blend_20 : decode cX8_blend 20 = .ok (.iload_n 2, 1) := by decide +kernel
theorem dX8_blend_21 : decode cX8_blend 21 = .ok (.invokevirtual 94, 3) := by decide +kernel
theorem dX8_blend_24 : decode cX8_blend 24 = .ok (.invokevirtual 41, 3) := by decide +kernel
theorem dX8_blend_27 : decode cX8_blend 27 = .ok (.ireturn, 1) := by decide +kernel
theorem dX8_pass_0 : decode cX8_pass 0 = .ok (.aload_n 0, 1) := by decide +kernel
theorem dX8_pass_1 : decode cX8_pass 1 = .ok (.getfield 22, 3) := by decide +kernel
theorem dX8_pass_4 : decode cX8_pass 4 = .ok (.aload_n 0, 1) := by decide +kernel
theorem dX8_pass_5 : decode cX8_pass 5 = .ok (.getfield 10, 3) := by decide +kernel
theorem dX8_pass_8 : decode cX8_pass 8 = .ok (.invokevirtual 33, 3) := by decide +kernel
theorem dX8_pass_11 : decode cX8_pass 11 = .ok (.aload_n 0, 1) := by decide +kernel
theorem dX8_pass_12 : decode cX8_pass 12 = .ok (.getfield 22, 3) := by decide +kernel
theorem dX8_pass_15 : decode cX8_pass 15 = .ok (.aload_n 0, 1) := by decide +kernel
theorem dX8_pass_16 : decode cX8_pass 16 = .ok (.getfield 10, 3) := by decide +kernel
theorem dX8_pass_19 : decode cX8_pass 19 = .ok (.iload_n 1, 1) := by decide +kernel
theorem dX8_pass_20 : decode cX8_pass 20 = .ok (.invokevirtual 97, 3) := by decide +kernel
theorem dX8_pass_23 : decode cX8_pass 23 = .ok (.invokevirtual 41, 3) := by decide +kernel
theorem dX8_pass_26 : decode cX8_pass 26 = .ok (.ireturn, 1) := by decide +kernel
theorem dX8_set_0 : decode cX8_set 0 = .ok (.aload_n 0, 1) := by decide +kernel
theorem dX8_set_1 : decode cX8_set 1 = .ok (.getfield 22, 3) := by decide +kernel
theorem dX8_set_4 : decode cX8_set 4 = .ok (.aload_n 0, 1) := by decide +kernel
theorem dX8_set_5 : decode cX8_set 5 = .ok (.getfield 10, 3) := by decide +kernel
theorem dX8_set_8 : decode cX8_set 8 = .ok (.invokevirtual 33, 3) := by decide +kernel
theorem dX8_set_11 : decode cX8_set 11 = .ok (.aload_n 0, 1) := by decide +kernel
theorem dX8_set_12 : decode cX8_set 12 = .ok (.getfield 22, 3) := by decide +kernel
theorem dX8_set_15 : decode cX8_set 15 = .ok (.aload_n 0, 1) := by decide +kernel
theorem dX8_set_16 : decode cX8_set 16 = .ok (.getfield 10, 3) := by decide +kernel
theorem dX8_set_19 : decode cX8_set 19 = .ok (.iload_n 1, 1) := by decide +kernel
theorem dX8_set_20 : decode cX8_set 20 = .ok (.iload_n 2, 1) := by decide +kernel
theorem dX8_set_21 : decode cX8_set 21 = .ok (.invokevirtual 100, 3) := by decide +kernel
theorem dX8_set_24 : decode cX8_set 24 = .ok (.invokevirtual 41, 3) := by decide +kernel
theorem dX8_set_27 : decode cX8_set 27 = .ok (.ireturn, 1) := by decide +kernel
theorem dX8_batchOf_0 : decode cX8_batchOf 0 = .ok (.aload_n 0, 1) := by decide +kernel
theorem dX8_batchOf_1 : decode cX8_batchOf 1 = .ok (.getfield 10, 3) := by decide +kernel
theorem dX8_batchOf_4 : decode cX8_batchOf 4 = .ok (.iload_n 1, 1) := by decide +kernel
theorem dX8_batchOf_5 : decode cX8_batchOf 5 = .ok (.invokevirtual 103, 3) := by decide +kernel
theorem dX8_batchOf_8 : decode cX8_batchOf 8 = .ok (.astore_n 3, 1) := by decide +kernel
theorem dX8_batchOf_9 : decode cX8_batchOf 9 = .ok (.aload_n 3, 1) := by decide +kernel
theorem dX8_batchOf_10 : decode cX8_batchOf 10 = .ok (.ifnull 13, 3) := by decide +kernel
theorem dX8_batchOf_13 : decode cX8_batchOf 13 = .ok (.iload_n 2, 1) := by decide +kernel
theorem dX8_batchOf_14 : decode cX8_batchOf 14 = .ok (.iconst 0, 1) := by decide +kernel
theorem dX8_batchOf_15 : decode cX8_batchOf 15 = .ok (.bipush 10, 2) := by decide +kernel
theorem dX8_batchOf_17 : decode cX8_batchOf 17 = .ok (.invokestatic 63, 3) := by decide +kernel
theorem dX8_batchOf_20 : decode cX8_batchOf 20 = .ok (.ifCond .ne 5, 3) := by decide +kernel
theorem dX8_batchOf_23 : decode cX8_batchOf 23 = .ok (.iconst (-1), 1) := by decide +kernel
theorem dX8_batchOf_24 : decode cX8_batchOf 24 = .ok (.ireturn, 1) := by decide +kernel
theorem dX8_batchOf_25 : decode cX8_batchOf 25 = .ok (.aload_n 3, 1) := by decide +kernel
theorem dX8_batchOf_26 : decode cX8_batchOf 26 = .ok (.iload_n 2, 1) := by decide +kernel
theorem dX8_batchOf_27 : decode cX8_batchOf 27 = .ok (.aload_n 0, 1) := by decide +kernel
theorem dX8_batchOf_28 : decode cX8_batchOf 28 = .ok (.getfield 10, 3) := by decide +kernel
theorem dX8_batchOf_31 : decode cX8_batchOf 31 = .ok (.getfield 107, 3) := by decide +kernel
theorem dX8_batchOf_34 : decode cX8_batchOf 34 = .ok (.invokevirtual 110, 3) := by decide +kernel
theorem dX8_batchOf_37 : decode cX8_batchOf 37 = .ok (.ireturn, 1) := by decide +kernel
theorem dX8_vesselOf_0 : decode cX8_vesselOf 0 = .ok (.aload_n 0, 1) := by decide +kernel
theorem dX8_vesselOf_1 : decode cX8_vesselOf 1 = .ok (.getfield 10, 3) := by decide +kernel
theorem dX8_vesselOf_4 : decode cX8_vesselOf 4 = .ok (.iload_n 1, 1) := by decide +kernel
theorem dX8_vesselOf_5 : decode cX8_vesselOf 5 = .ok (.invokevirtual 114, 3) := by decide +kernel
theorem dX8_vesselOf_8 : decode cX8_vesselOf 8 = .ok (.astore_n 3, 1) := by decide +kernel
theorem dX8_vesselOf_9 : decode cX8_vesselOf 9 = .ok (.aload_n 3, 1) := by decide +kernel
theorem dX8_vesselOf_10 : decode cX8_vesselOf 10 = .ok (.ifnull 12, 3) := by decide +kernel
theorem dX8_vesselOf_13 : decode cX8_vesselOf 13 = .ok (.iload_n 2, 1) := by decide +kernel
theorem dX8_vesselOf_14 : decode cX8_vesselOf 14 = .ok (.iconst 0, 1) := by decide +kernel
theorem dX8_vesselOf_15 : decode cX8_vesselOf 15 = .ok (.iconst 4, 1) := by decide +kernel
theorem dX8_vesselOf_16 : decode cX8_vesselOf 16 = .ok (.invokestatic 63, 3) := by decide +kernel
theorem dX8_vesselOf_19 : decode cX8_vesselOf 19 = .ok (.ifCond .ne 5, 3) := by decide +kernel
theorem dX8_vesselOf_22 : decode cX8_vesselOf 22 = .ok (.iconst (-1), 1) := by decide +kernel
theorem dX8_vesselOf_23 : decode cX8_vesselOf 23 = .ok (.ireturn, 1) := by decide +kernel
theorem dX8_vesselOf_24 : decode cX8_vesselOf 24 = .ok (.aload_n 3, 1) := by decide +kernel
theorem dX8_vesselOf_25 : decode cX8_vesselOf 25 = .ok (.iload_n 2, 1) := by decide +kernel
theorem dX8_vesselOf_26 : decode cX8_vesselOf 26 = .ok (.invokevirtual 118, 3) := by decide +kernel
theorem dX8_vesselOf_29 : decode cX8_vesselOf 29 = .ok (.istore 4, 2) := by decide +kernel
theorem dX8_vesselOf_31 : decode cX8_vesselOf 31 = .ok (.iload 4, 2) := by decide +kernel
theorem dX8_vesselOf_33 : decode cX8_vesselOf 33 = .ok (.iconst (-1), 1) := by decide +kernel
theorem dX8_vesselOf_34 : decode cX8_vesselOf 34 = .ok (.if_icmp .ne 8, 3) := by decide +kernel
theorem dX8_vesselOf_37 : decode cX8_vesselOf 37 = .ok (.bipush (-4), 2) := by decide +kernel
theorem dX8_vesselOf_39 : decode cX8_vesselOf 39 = .ok (.goto 5, 3) := by decide +kernel
theorem dX8_vesselOf_42 : decode cX8_vesselOf 42 = .ok (.iload 4, 2) := by decide +kernel
theorem dX8_vesselOf_44 : decode cX8_vesselOf 44 = .ok (.ireturn, 1) := by decide +kernel
theorem dX8_lineOf_0 : decode cX8_lineOf 0 = .ok (.aload_n 0, 1) := by decide +kernel
theorem dX8_lineOf_1 : decode cX8_lineOf 1 = .ok (.getfield 10, 3) := by decide +kernel
theorem dX8_lineOf_4 : decode cX8_lineOf 4 = .ok (.iload_n 1, 1) := by decide +kernel
theorem dX8_lineOf_5 : decode cX8_lineOf 5 = .ok (.invokevirtual 121, 3) := by decide +kernel
theorem dX8_lineOf_8 : decode cX8_lineOf 8 = .ok (.astore_n 3, 1) := by decide +kernel
theorem dX8_lineOf_9 : decode cX8_lineOf 9 = .ok (.aload_n 3, 1) := by decide +kernel
theorem dX8_lineOf_10 : decode cX8_lineOf 10 = .ok (.ifnull 12, 3) := by decide +kernel
theorem dX8_lineOf_13 : decode cX8_lineOf 13 = .ok (.iload_n 2, 1) := by decide +kernel
theorem dX8_lineOf_14 : decode cX8_lineOf 14 = .ok (.iconst 0, 1) := by decide +kernel
theorem dX8_lineOf_15 : decode cX8_lineOf 15 = .ok (.iconst 3, 1) := by decide +kernel
theorem dX8_lineOf_16 : decode cX8_lineOf 16 = .ok (.invokestatic 63, 3) := by decide +kernel
theorem dX8_lineOf_19 : decode cX8_lineOf 19 = .ok (.ifCond .ne 5, 3) := by decide +kernel
theorem dX8_lineOf_22 : decode cX8_lineOf 22 = .ok (.iconst (-1), 1) := by decide +kernel
theorem dX8_lineOf_23 : decode cX8_lineOf 23 = .ok (.ireturn, 1) := by decide +kernel
theorem dX8_lineOf_24 : decode cX8_lineOf 24 = .ok (.aload_n 3, 1) := by decide +kernel
theorem dX8_lineOf_25 : decode cX8_lineOf 25 = .ok (.iload_n 2, 1) := by decide +kernel
theorem dX8_lineOf_26 : decode cX8_lineOf 26 = .ok (.aload_n 0, 1) := by decide +kernel
theorem dX8_lineOf_27 : decode cX8_lineOf 27 = .ok (.getfield 10, 3) := by decide +kernel
theorem dX8_lineOf_30 : decode cX8_lineOf 30 = .ok (.getfield 107, 3) := by decide +kernel
theorem dX8_lineOf_33 : decode cX8_lineOf 33 = .ok (.invokevirtual 125, 3) := by decide +kernel
theorem dX8_lineOf_36 : decode cX8_lineOf 36 = .ok (.ireturn, 1) := by decide +kernel
theorem dX8_count_0 : decode cX8_count 0 = .ok (.iload_n 1, 1) := by decide +kernel
theorem dX8_count_1 : decode cX8_count 1 = .ok (.bipush 11, 2) := by decide +kernel
theorem dX8_count_3 : decode cX8_count 3 = .ok (.if_icmp .ne 11, 3) := by decide +kernel
theorem dX8_count_6 : decode cX8_count 6 = .ok (.aload_n 0, 1) := by decide +kernel
theorem dX8_count_7 : decode cX8_count 7 = .ok (.getfield 22, 3) := by decide +kernel
theorem dX8_count_10 : decode cX8_count 10 = .ok (.getfield 128, 3) := by decide +kernel
theorem dX8_count_13 : decode cX8_count 13 = .ok (.ireturn, 1) := by decide +kernel
theorem dX8_count_14 : decode cX8_count 14 = .ok (.iload_n 1, 1) := by decide +kernel
theorem dX8_count_15 : decode cX8_count 15 = .ok (.bipush 12, 2) := by decide +kernel
theorem dX8_count_17 : decode cX8_count 17 = .ok (.if_icmp .ne 11, 3) := by decide +kernel
theorem dX8_count_20 : decode cX8_count 20 = .ok (.aload_n 0, 1) := by decide +kernel
theorem dX8_count_21 : decode cX8_count 21 = .ok (.getfield 29, 3) := by decide +kernel
theorem dX8_count_24 : decode cX8_count 24 = .ok (.getfield 131, 3) := by decide +kernel
theorem dX8_count_27 : decode cX8_count 27 = .ok (.ireturn, 1) := by decide +kernel
theorem dX8_count_28 : decode cX8_count 28 = .ok (.iload_n 1, 1) := by decide +kernel
theorem dX8_count_29 : decode cX8_count 29 = .ok (.bipush 20, 2) := by decide +kernel
theorem dX8_count_31 : decode cX8_count 31 = .ok (.bipush 21, 2) := by decide +kernel
theorem dX8_count_33 : decode cX8_count 33 = .ok (.invokestatic 63, 3) := by decide +kernel
theorem dX8_count_36 : decode cX8_count 36 = .ok (.ifCond .eq 18, 3) := by decide +kernel
theorem dX8_count_39 : decode cX8_count 39 = .ok (.aload_n 0, 1) := by decide +kernel
theorem dX8_count_40 : decode cX8_count 40 = .ok (.getfield 10, 3) := by decide +kernel
theorem dX8_count_43 : decode cX8_count 43 = .ok (.getfield 134, 3) := by decide +kernel
theorem dX8_count_46 : decode cX8_count 46 = .ok (.iload_n 1, 1) := by decide +kernel
theorem dX8_count_47 : decode cX8_count 47 = .ok (.bipush 20, 2) := by decide +kernel
theorem dX8_count_49 : decode cX8_count 49 = .ok (.isub, 1) := by decide +kernel
theorem dX8_count_50 : decode cX8_count 50 = .ok (.invokestatic 138, 3) := by decide +kernel
theorem dX8_count_53 : decode cX8_count 53 = .ok (.ireturn, 1) := by decide +kernel
theorem dX8_count_54 : decode cX8_count 54 = .ok (.iload_n 1, 1) := by decide +kernel
theorem dX8_count_55 : decode cX8_count 55 = .ok (.bipush 30, 2) := by decide +kernel
theorem dX8_count_57 : decode cX8_count 57 = .ok (.bipush 33, 2) := by decide +kernel
theorem dX8_count_59 : decode cX8_count 59 = .ok (.invokestatic 63, 3) := by decide +kernel
theorem dX8_count_62 : decode cX8_count 62 = .ok (.ifCond .eq 18, 3) := by decide +kernel
theorem dX8_count_65 : decode cX8_count 65 = .ok (.aload_n 0, 1) := by decide +kernel
theorem dX8_count_66 : decode cX8_count 66 = .ok (.getfield 10, 3) := by decide +kernel
theorem dX8_count_69 : decode cX8_count 69 = .ok (.getfield 142, 3) := by decide +kernel
theorem dX8_count_72 : decode cX8_count 72 = .ok (.iload_n 1, 1) := by decide +kernel
theorem dX8_count_73 : decode cX8_count 73 = .ok (.bipush 30, 2) := by decide +kernel
theorem dX8_count_75 : decode cX8_count 75 = .ok (.isub, 1) := by decide +kernel
theorem dX8_count_76 : decode cX8_count 76 = .ok (.invokestatic 138, 3) := by decide +kernel
theorem dX8_count_79 : decode cX8_count 79 = .ok (.ireturn, 1) := by decide +kernel
theorem dX8_count_80 : decode cX8_count 80 = .ok (.iload_n 1, 1) := by decide +kernel
theorem dX8_count_81 : decode cX8_count 81 = .ok (.iconst 0, 1) := by decide +kernel
theorem dX8_count_82 : decode cX8_count 82 = .ok (.bipush 10, 2) := by decide +kernel
theorem dX8_count_84 : decode cX8_count 84 = .ok (.invokestatic 63, 3) := by decide +kernel
theorem dX8_count_87 : decode cX8_count 87 = .ok (.ifCond .eq 14, 3) := by decide +kernel
theorem dX8_count_90 : decode cX8_count 90 = .ok (.aload_n 0, 1) := by decide +kernel
theorem dX8_count_91 : decode cX8_count 91 = .ok (.getfield 10, 3) := by decide +kernel
theorem dX8_count_94 : decode cX8_count 94 = .ok (.iload_n 1, 1) := by decide +kernel
theorem dX8_count_95 : decode cX8_count 95 = .ok (.invokevirtual 145, 3) := by decide +kernel
theorem dX8_count_98 : decode cX8_count 98 = .ok (.goto 4, 3) := by decide +kernel
theorem dX8_count_101 : decode cX8_count 101 = .ok (.iconst (-1), 1) := by decide +kernel
theorem dX8_count_102 : decode cX8_count 102 = .ok (.ireturn, 1) := by decide +kernel
theorem dX8_targets_0 : decode cX8_targets 0 = .ok (.aload_n 0, 1) := by decide +kernel
theorem dX8_targets_1 : decode cX8_targets 1 = .ok (.getfield 10, 3) := by decide +kernel
theorem dX8_targets_4 : decode cX8_targets 4 = .ok (.iload_n 1, 1) := by decide +kernel
theorem dX8_targets_5 : decode cX8_targets 5 = .ok (.invokevirtual 103, 3) := by decide +kernel
theorem dX8_targets_8 : decode cX8_targets 8 = .ok (.astore_n 2, 1) := by decide +kernel
theorem dX8_targets_9 : decode cX8_targets 9 = .ok (.aload_n 2, 1) := by decide +kernel
theorem dX8_targets_10 : decode cX8_targets 10 = .ok (.ifnonnull 7, 3) := by decide +kernel
theorem dX8_targets_13 : decode cX8_targets 13 = .ok (.iconst (-1), 1) := by decide +kernel
theorem dX8_targets_14 : decode cX8_targets 14 = .ok (.goto 11, 3) := by decide +kernel
theorem dX8_targets_17 : decode cX8_targets 17 = .ok (.aload_n 0, 1) := by decide +kernel
theorem dX8_targets_18 : decode cX8_targets 18 = .ok (.getfield 10, 3) := by decide +kernel
theorem dX8_targets_21 : decode cX8_targets 21 = .ok (.aload_n 2, 1) := by decide +kernel
theorem dX8_targets_22 : decode cX8_targets 22 = .ok (.invokevirtual 148, 3) := by decide +kernel
theorem dX8_targets_25 : decode cX8_targets 25 = .ok (.ireturn, 1) := by decide +kernel
theorem dX8_quickest_0 : decode cX8_quickest 0 = .ok (.aload_n 0, 1) := by decide +kernel
theorem dX8_quickest_1 : decode cX8_quickest 1 = .ok (.getfield 10, 3) := by decide +kernel
theorem dX8_quickest_4 : decode cX8_quickest 4 = .ok (.iload_n 1, 1) := by decide +kernel
theorem dX8_quickest_5 : decode cX8_quickest 5 = .ok (.invokevirtual 103, 3) := by decide +kernel
theorem dX8_quickest_8 : decode cX8_quickest 8 = .ok (.astore_n 3, 1) := by decide +kernel
theorem dX8_quickest_9 : decode cX8_quickest 9 = .ok (.aload_n 3, 1) := by decide +kernel
theorem dX8_quickest_10 : decode cX8_quickest 10 = .ok (.ifnull 12, 3) := by decide +kernel
theorem dX8_quickest_13 : decode cX8_quickest 13 = .ok (.iload_n 2, 1) := by decide +kernel
theorem dX8_quickest_14 : decode cX8_quickest 14 = .ok (.iconst 0, 1) := by decide +kernel
theorem dX8_quickest_15 : decode cX8_quickest 15 = .ok (.iconst 1, 1) := by decide +kernel
theorem dX8_quickest_16 : decode cX8_quickest 16 = .ok (.invokestatic 63, 3) := by decide +kernel
theorem dX8_quickest_19 : decode cX8_quickest 19 = .ok (.ifCond .ne 5, 3) := by decide +kernel
theorem dX8_quickest_22 : decode cX8_quickest 22 = .ok (.iconst (-1), 1) := by decide +kernel
theorem dX8_quickest_23 : decode cX8_quickest 23 = .ok (.ireturn, 1) := by decide +kernel
theorem dX8_quickest_24 : decode cX8_quickest 24 = .ok (.aload_n 0, 1) := by decide +kernel
theorem dX8_quickest_25 : decode cX8_quickest 25 = .ok (.getfield 10, 3) := by decide +kernel
theorem dX8_quickest_28 : decode cX8_quickest 28 = .ok (.aload_n 3, 1) := by decide +kernel
theorem dX8_quickest_29 : decode cX8_quickest 29 = .ok (.invokevirtual 152, 3) := by decide +kernel
theorem dX8_quickest_32 : decode cX8_quickest 32 = .ok (.istore 4, 2) := by decide +kernel
theorem dX8_quickest_34 : decode cX8_quickest 34 = .ok (.iload 4, 2) := by decide +kernel
theorem dX8_quickest_36 : decode cX8_quickest 36 = .ok (.iconst (-1), 1) := by decide +kernel
theorem dX8_quickest_37 : decode cX8_quickest 37 = .ok (.if_icmp .ne 6, 3) := by decide +kernel
theorem dX8_quickest_40 : decode cX8_quickest 40 = .ok (.bipush (-4), 2) := by decide +kernel
theorem dX8_quickest_42 : decode cX8_quickest 42 = .ok (.ireturn, 1) := by decide +kernel
theorem dX8_quickest_43 : decode cX8_quickest 43 = .ok (.iload_n 2, 1) := by decide +kernel
theorem dX8_quickest_44 : decode cX8_quickest 44 = .ok (.ifCond .ne 8, 3) := by decide +kernel
theorem dX8_quickest_47 : decode cX8_quickest 47 = .ok (.iload 4, 2) := by decide +kernel
theorem dX8_quickest_49 : decode cX8_quickest 49 = .ok (.goto 13, 3) := by decide +kernel
theorem dX8_quickest_52 : decode cX8_quickest 52 = .ok (.aload_n 0, 1) := by decide +kernel
theorem dX8_quickest_53 : decode cX8_quickest 53 = .ok (.getfield 10, 3) := by decide +kernel
theorem dX8_quickest_56 : decode cX8_quickest 56 = .ok (.aload_n 3, 1) := by decide +kernel
theorem dX8_quickest_57 : decode cX8_quickest 57 = .ok (.iload 4, 2) := by decide +kernel
theorem dX8_quickest_59 : decode cX8_quickest 59 = .ok (.invokevirtual 155, 3) := by decide +kernel
theorem dX8_quickest_62 : decode cX8_quickest 62 = .ok (.ireturn, 1) := by decide +kernel
theorem dX8_soonest_0 : decode cX8_soonest 0 = .ok (.aload_n 0, 1) := by decide +kernel
theorem dX8_soonest_1 : decode cX8_soonest 1 = .ok (.getfield 10, 3) := by decide +kernel
theorem dX8_soonest_4 : decode cX8_soonest 4 = .ok (.iload_n 1, 1) := by decide +kernel
theorem dX8_soonest_5 : decode cX8_soonest 5 = .ok (.invokevirtual 103, 3) := by decide +kernel
theorem dX8_soonest_8 : decode cX8_soonest 8 = .ok (.astore_n 2, 1) := by decide +kernel
theorem dX8_soonest_9 : decode cX8_soonest 9 = .ok (.aload_n 2, 1) := by decide +kernel
theorem dX8_soonest_10 : decode cX8_soonest 10 = .ok (.ifnonnull 7, 3) := by decide +kernel
theorem dX8_soonest_13 : decode cX8_soonest 13 = .ok (.iconst (-1), 1) := by decide +kernel
theorem dX8_soonest_14 : decode cX8_soonest 14 = .ok (.goto 11, 3) := by decide +kernel
theorem dX8_soonest_17 : decode cX8_soonest 17 = .ok (.aload_n 0, 1) := by decide +kernel
theorem dX8_soonest_18 : decode cX8_soonest 18 = .ok (.getfield 10, 3) := by decide +kernel
theorem dX8_soonest_21 : decode cX8_soonest 21 = .ok (.aload_n 2, 1) := by decide +kernel
theorem dX8_soonest_22 : decode cX8_soonest 22 = .ok (.invokevirtual 159, 3) := by decide +kernel
theorem dX8_soonest_25 : decode cX8_soonest 25 = .ok (.ireturn, 1) := by decide +kernel
theorem dX8_urgent_0 : decode cX8_urgent 0 = .ok (.iload_n 1, 1) := by decide +kernel
theorem dX8_urgent_1 : decode cX8_urgent 1 = .ok (.ifCond .ge 7, 3) := by decide +kernel
theorem dX8_urgent_4 : decode cX8_urgent 4 = .ok (.iconst (-1), 1) := by decide +kernel
theorem dX8_urgent_5 : decode cX8_urgent 5 = .ok (.goto 11, 3) := by decide +kernel
theorem dX8_urgent_8 : decode cX8_urgent 8 = .ok (.aload_n 0, 1) := by decide +kernel
theorem dX8_urgent_9 : decode cX8_urgent 9 = .ok (.getfield 10, 3) := by decide +kernel
theorem dX8_urgent_12 : decode cX8_urgent 12 = .ok (.iload_n 1, 1) := by decide +kernel
theorem dX8_urgent_13 : decode cX8_urgent 13 = .ok (.invokevirtual 162, 3) := by decide +kernel
theorem dX8_urgent_16 : decode cX8_urgent 16 = .ok (.ireturn, 1) := by decide +kernel
theorem dX8_undo_0 : decode cX8_undo 0 = .ok (.aload_n 0, 1) := by decide +kernel
theorem dX8_undo_1 : decode cX8_undo 1 = .ok (.getfield 22, 3) := by decide +kernel
theorem dX8_undo_4 : decode cX8_undo 4 = .ok (.aload_n 0, 1) := by decide +kernel
theorem dX8_undo_5 : decode cX8_undo 5 = .ok (.getfield 10, 3) := by decide +kernel
theorem dX8_undo_8 : decode cX8_undo 8 = .ok (.invokevirtual 165, 3) := by decide +kernel
theorem dX8_undo_11 : decode cX8_undo 11 = .ok (.ireturn, 1) := by decide +kernel
theorem dX8_type_0 : decode cX8_type 0 = .ok (.aload_n 0, 1) := by decide +kernel
theorem dX8_type_1 : decode cX8_type 1 = .ok (.getfield 29, 3) := by decide +kernel
theorem dX8_type_4 : decode cX8_type 4 = .ok (.iload_n 1, 1) := by decide +kernel
theorem dX8_type_5 : decode cX8_type 5 = .ok (.invokevirtual 169, 3) := by decide +kernel
theorem dX8_type_8 : decode cX8_type 8 = .ok (.ireturn, 1) := by decide +kernel
theorem dX8_clearText_0 : decode cX8_clearText 0 = .ok (.aload_n 0, 1) := by decide +kernel
theorem dX8_clearText_1 : decode cX8_clearText 1 = .ok (.getfield 29, 3) := by decide +kernel
theorem dX8_clearText_4 : decode cX8_clearText 4 = .ok (.getfield 131, 3) := by decide +kernel
theorem dX8_clearText_7 : decode cX8_clearText 7 = .ok (.istore_n 1, 1) := by decide +kernel
theorem dX8_clearText_8 : decode cX8_clearText 8 = .ok (.aload_n 0, 1) := by decide +kernel
theorem dX8_clearText_9 : decode cX8_clearText 9 = .ok (.getfield 29, 3) := by decide +kernel
theorem dX8_clearText_12 : decode cX8_clearText 12 = .ok (.iconst 0, 1) := by decide +kernel
theorem dX8_clearText_13 : decode cX8_clearText 13 = .ok (.putfield 131, 3) := by decide +kernel
theorem dX8_clearText_16 : decode cX8_clearText 16 = .ok (.iload_n 1, 1) := by decide +kernel
theorem dX8_clearText_17 : decode cX8_clearText 17 = .ok (.ireturn, 1) := by decide +kernel
theorem dX8_fault_0 : decode cX8_fault 0 = .ok (.iload_n 1, 1) := by decide +kernel
theorem dX8_fault_1 : decode cX8_fault 1 = .ok (.iconst 0, 1) := by decide +kernel
theorem dX8_fault_2 : decode cX8_fault 2 = .ok (.iconst 1, 1) := by decide +kernel
theorem dX8_fault_3 : decode cX8_fault 3 = .ok (.invokestatic 63, 3) := by decide +kernel
theorem dX8_fault_6 : decode cX8_fault 6 = .ok (.ifCond .ne 5, 3) := by decide +kernel
theorem dX8_fault_9 : decode cX8_fault 9 = .ok (.iconst (-1), 1) := by decide +kernel
theorem dX8_fault_10 : decode cX8_fault 10 = .ok (.ireturn, 1) := by decide +kernel
theorem dX8_fault_11 : decode cX8_fault 11 = .ok (.aload_n 0, 1) := by decide +kernel
theorem dX8_fault_12 : decode cX8_fault 12 = .ok (.invokevirtual 172, 3) := by decide +kernel
theorem dX8_fault_15 : decode cX8_fault 15 = .ok (.aload_n 0, 1) := by decide +kernel
theorem dX8_fault_16 : decode cX8_fault 16 = .ok (.getfield 175, 3) := by decide +kernel
theorem dX8_fault_19 : decode cX8_fault 19 = .ok (.ifCond .ne 6, 3) := by decide +kernel
theorem dX8_fault_22 : decode cX8_fault 22 = .ok (.bipush (-4), 2) := by decide +kernel
theorem dX8_fault_24 : decode cX8_fault 24 = .ok (.ireturn, 1) := by decide +kernel
theorem dX8_fault_25 : decode cX8_fault 25 = .ok (.iload_n 1, 1) := by decide +kernel
theorem dX8_fault_26 : decode cX8_fault 26 = .ok (.ifCond .ne 10, 3) := by decide +kernel
theorem dX8_fault_29 : decode cX8_fault 29 = .ok (.aload_n 0, 1) := by decide +kernel
theorem dX8_fault_30 : decode cX8_fault 30 = .ok (.getfield 178, 3) := by decide +kernel
theorem dX8_fault_33 : decode cX8_fault 33 = .ok (.goto 7, 3) := by decide +kernel
theorem dX8_fault_36 : decode cX8_fault 36 = .ok (.aload_n 0, 1) := by decide +kernel
theorem dX8_fault_37 : decode cX8_fault 37 = .ok (.getfield 175, 3) := by decide +kernel
theorem dX8_fault_40 : decode cX8_fault 40 = .ok (.ireturn, 1) := by decide +kernel
theorem dX8_play_0 : decode cX8_play 0 = .ok (.aload_n 0, 1) := by decide +kernel
theorem dX8_play_1 : decode cX8_play 1 = .ok (.invokevirtual 172, 3) := by decide +kernel
theorem dX8_play_4 : decode cX8_play 4 = .ok (.aload_n 0, 1) := by decide +kernel
theorem dX8_play_5 : decode cX8_play 5 = .ok (.getfield 175, 3) := by decide +kernel
theorem dX8_play_8 : decode cX8_play 8 = .ok (.ifCond .eq 6, 3) := by decide +kernel
theorem dX8_play_11 : decode cX8_play 11 = .ok (.bipush (-2), 2) := by decide +kernel
theorem dX8_play_13 : decode cX8_play 13 = .ok (.ireturn, 1) := by decide +kernel
theorem dX8_play_14 : decode cX8_play 14 = .ok (.aload_n 0, 1) := by decide +kernel
theorem dX8_play_15 : decode cX8_play 15 = .ok (.getfield 22, 3) := by decide +kernel
theorem dX8_play_18 : decode cX8_play 18 = .ok (.aload_n 0, 1) := by decide +kernel
theorem dX8_play_19 : decode cX8_play 19 = .ok (.getfield 10, 3) := by decide +kernel
theorem dX8_play_22 : decode cX8_play 22 = .ok (.invokevirtual 33, 3) := by decide +kernel
theorem dX8_play_25 : decode cX8_play 25 = .ok (.aload_n 0, 1) := by decide +kernel
theorem dX8_play_26 : decode cX8_play 26 = .ok (.getfield 10, 3) := by decide +kernel
theorem dX8_play_29 : decode cX8_play 29 = .ok (.aload_n 0, 1) := by decide +kernel
theorem dX8_play_30 : decode cX8_play 30 = .ok (.getfield 16, 3) := by decide +kernel
theorem dX8_play_33 : decode cX8_play 33 = .ok (.invokevirtual 181, 3) := by decide +kernel
theorem dX8_play_36 : decode cX8_play 36 = .ok (.aload_n 0, 1) := by decide +kernel
theorem dX8_play_37 : decode cX8_play 37 = .ok (.getfield 22, 3) := by decide +kernel
theorem dX8_play_40 : decode cX8_play 40 = .ok (.aload_n 0, 1) := by decide +kernel
theorem dX8_play_41 : decode cX8_play 41 = .ok (.getfield 184, 3) := by decide +kernel
theorem dX8_play_44 : decode cX8_play 44 = .ok (.invokevirtual 41, 3) := by decide +kernel
theorem dX8_play_47 : decode cX8_play 47 = .ok (.ireturn, 1) := by decide +kernel
theorem dX8_rehearse_0 : decode cX8_rehearse 0 = .ok (.aload_n 0, 1) := by decide +kernel
theorem dX8_rehearse_1 : decode cX8_rehearse 1 = .ok (.getfield 16, 3) := by decide +kernel
theorem dX8_rehearse_4 : decode cX8_rehearse 4 = .ok (.aload_n 0, 1) := by decide +kernel
theorem dX8_rehearse_5 : decode cX8_rehearse 5 = .ok (.getfield 10, 3) := by decide +kernel
theorem dX8_rehearse_8 : decode cX8_rehearse 8 = .ok (.invokevirtual 181, 3) := by decide +kernel
theorem dX8_rehearse_11 : decode cX8_rehearse 11 = .ok (.aload_n 0, 1) := by decide +kernel
theorem dX8_rehearse_12 : decode cX8_rehearse 12 = .ok (.iconst 0, 1) := by decide +kernel
theorem dX8_rehearse_13 : decode cX8_rehearse 13 = .ok (.putfield 175, 3) := by decide +kernel
theorem dX8_rehearse_16 : decode cX8_rehearse 16 = .ok (.aload_n 0, 1) := by decide +kernel
theorem dX8_rehearse_17 : decode cX8_rehearse 17 = .ok (.iconst 0, 1) := by decide +kernel
theorem dX8_rehearse_18 : decode cX8_rehearse 18 = .ok (.putfield 178, 3) := by decide +kernel
theorem dX8_rehearse_21 : decode cX8_rehearse 21 = .ok (.aload_n 0, 1) := by decide +kernel
theorem dX8_rehearse_22 : decode cX8_rehearse 22 = .ok (.iconst 0, 1) := by decide +kernel
theorem dX8_rehearse_23 : decode cX8_rehearse 23 = .ok (.putfield 184, 3) := by decide +kernel
theorem dX8_rehearse_26 : decode cX8_rehearse 26 = .ok (.iconst 0, 1) := by decide +kernel
theorem dX8_rehearse_27 : decode cX8_rehearse 27 = .ok (.istore_n 1, 1) := by decide +kernel
theorem dX8_rehearse_28 : decode cX8_rehearse 28 = .ok (.iload_n 1, 1) := by decide +kernel
theorem dX8_rehearse_29 : decode cX8_rehearse 29 = .ok (.bipush 80, 2) := by decide +kernel
theorem dX8_rehearse_31 : decode cX8_rehearse 31 = .ok (.if_icmp .ge 81, 3) := by decide +kernel
theorem dX8_rehearse_34 : decode cX8_rehearse 34 = .ok (.aload_n 0, 1) := by decide +kernel
theorem dX8_rehearse_35 : decode cX8_rehearse 35 = .ok (.getfield 178, 3) := by decide +kernel
theorem dX8_rehearse_38 : decode cX8_rehearse 38 = .ok (.aload_n 0, 1) := by decide +kernel
theorem dX8_rehearse_39 : decode cX8_rehearse 39 = .ok (.getfield 29, 3) := by decide +kernel
theorem dX8_rehearse_42 : decode cX8_rehearse 42 = .ok (.getfield 131, 3) := by decide +kernel
theorem dX8_rehearse_45 : decode cX8_rehearse 45 = .ok (.if_icmp .ge 67, 3) := by decide +kernel
theorem dX8_rehearse_48 : decode cX8_rehearse 48 = .ok (.aload_n 0, 1) := by decide +kernel
theorem dX8_rehearse_49 : decode cX8_rehearse 49 = .ok (.aload_n 0, 1) := by decide +kernel
theorem dX8_rehearse_50 : decode cX8_rehearse 50 = .ok (.getfield 29, 3) := by decide +kernel
theorem dX8_rehearse_53 : decode cX8_rehearse 53 = .ok (.aload_n 0, 1) := by decide +kernel
theorem dX8_rehearse_54 : decode cX8_rehearse 54 = .ok (.getfield 178, 3) := by decide +kernel
theorem dX8_rehearse_57 : decode cX8_rehearse 57 = .ok (.invokevirtual 187, 3) := by decide +kernel
theorem dX8_rehearse_60 : decode cX8_rehearse 60 = .ok (.ifCond .eq 13, 3) := by decide +kernel
theorem dX8_rehearse_63 : decode cX8_rehearse 63 = .ok (.aload_n 0, 1) := by decide +kernel
theorem dX8_rehearse_64 : decode cX8_rehearse 64 = .ok (.invokevirtual 191, 3) := by decide +kernel
theorem dX8_rehearse_67 : decode cX8_rehearse 67 = .ok (.invokestatic 195, 3) := by decide +kernel
theorem dX8_rehearse_70 : decode cX8_rehearse 70 = .ok (.goto 4, 3) := by decide +kernel
theorem dX8_rehearse_73 : decode cX8_rehearse 73 = .ok (.iconst 1, 1) := by decide +kernel
theorem dX8_rehearse_74 : decode cX8_rehearse 74 = .ok (.putfield 175, 3) := by decide +kernel
theorem dX8_rehearse_77 : decode cX8_rehearse 77 = .ok (.aload_n 0, 1) := by decide +kernel
theorem dX8_rehearse_78 : decode cX8_rehearse 78 = .ok (.getfield 175, 3) := by decide +kernel
theorem dX8_rehearse_81 : decode cX8_rehearse 81 = .ok (.ifCond .eq 4, 3) := by decide +kernel
theorem dX8_rehearse_84 : decode cX8_rehearse 84 = .ok (.return_, 1) := by decide +kernel
theorem dX8_rehearse_85 : decode cX8_rehearse 85 = .ok (.aload_n 0, 1) := by decide +kernel
theorem dX8_rehearse_86 : decode cX8_rehearse 86 = .ok (.dup, 1) := by decide +kernel
theorem dX8_rehearse_87 : decode cX8_rehearse 87 = .ok (.getfield 184, 3) := by decide +kernel
theorem dX8_rehearse_90 : decode cX8_rehearse 90 = .ok (.iconst 1, 1) := by decide +kernel
theorem dX8_rehearse_91 : decode cX8_rehearse 91 = .ok (.iadd, 1) := by decide +kernel
theorem dX8_rehearse_92 : decode cX8_rehearse 92 = .ok (.putfield 184, 3) := by decide +kernel
theorem dX8_rehearse_95 : decode cX8_rehearse 95 = .ok (.aload_n 0, 1) := by decide +kernel
theorem dX8_rehearse_96 : decode cX8_rehearse 96 = .ok (.aload_n 0, 1) := by decide +kernel
theorem dX8_rehearse_97 : decode cX8_rehearse 97 = .ok (.getfield 29, 3) := by decide +kernel
theorem dX8_rehearse_100 : decode cX8_rehearse 100 = .ok (.getfield 198, 3) := by decide +kernel
theorem dX8_rehearse_103 : decode cX8_rehearse 103 = .ok (.putfield 178, 3) := by decide +kernel
theorem dX8_rehearse_106 : decode cX8_rehearse 106 = .ok (.iinc 1 1, 3) := by decide +kernel
theorem dX8_rehearse_109 : decode cX8_rehearse 109 = .ok (.goto (-81), 3) := by decide +kernel
theorem dX8_rehearse_112 : decode cX8_rehearse 112 = .ok (.return_, 1) := by decide +kernel
theorem dX8_perform_0 : decode cX8_perform 0 = .ok (.aload_n 0, 1) := by decide +kernel
theorem dX8_perform_1 : decode cX8_perform 1 = .ok (.getfield 29, 3) := by decide +kernel
theorem dX8_perform_4 : decode cX8_perform 4 = .ok (.getfield 201, 3) := by decide +kernel
theorem dX8_perform_7 : decode cX8_perform 7 = .ok (.iconst 0, 1) := by decide +kernel
theorem dX8_perform_8 : decode cX8_perform 8 = .ok (.invokestatic 138, 3) := by decide +kernel
theorem dX8_perform_11 : decode cX8_perform 11 = .ok (.istore_n 1, 1) := by decide +kernel
theorem dX8_perform_12 : decode cX8_perform 12 = .ok (.aload_n 0, 1) := by decide +kernel
theorem dX8_perform_13 : decode cX8_perform 13 = .ok (.getfield 29, 3) := by decide +kernel
theorem dX8_perform_16 : decode cX8_perform 16 = .ok (.getfield 201, 3) := by decide +kernel
theorem dX8_perform_19 : decode cX8_perform 19 = .ok (.iconst 1, 1) := by decide +kernel
theorem dX8_perform_20 : decode cX8_perform 20 = .ok (.invokestatic 138, 3) := by decide +kernel
theorem dX8_perform_23 : decode cX8_perform 23 = .ok (.istore_n 2, 1) := by decide +kernel
theorem dX8_perform_24 : decode cX8_perform 24 = .ok (.aload_n 0, 1) := by decide +kernel
theorem dX8_perform_25 : decode cX8_perform 25 = .ok (.getfield 29, 3) := by decide +kernel
theorem dX8_perform_28 : decode cX8_perform 28 = .ok (.getfield 204, 3) := by decide +kernel
theorem dX8_perform_31 : decode cX8_perform 31 = .ok (.lookupswitch 108 #[(98, 49), (101, 80), (109, 70), (111, 98), (120, 89)], 49) := by decide +kernel
theorem dX8_perform_80 : decode cX8_perform 80 = .ok (.aload_n 0, 1) := by decide +kernel
theorem dX8_perform_81 : decode cX8_perform 81 = .ok (.getfield 16, 3) := by decide +kernel
theorem dX8_perform_84 : decode cX8_perform 84 = .ok (.iload_n 1, 1) := by decide +kernel
theorem dX8_perform_85 : decode cX8_perform 85 = .ok (.iload_n 2, 1) := by decide +kernel
theorem dX8_perform_86 : decode cX8_perform 86 = .ok (.aload_n 0, 1) := by decide +kernel
theorem dX8_perform_87 : decode cX8_perform 87 = .ok (.getfield 29, 3) := by decide +kernel
theorem dX8_perform_90 : decode cX8_perform 90 = .ok (.getfield 201, 3) := by decide +kernel
theorem dX8_perform_93 : decode cX8_perform 93 = .ok (.iconst 2, 1) := by decide +kernel
theorem dX8_perform_94 : decode cX8_perform 94 = .ok (.invokestatic 138, 3) := by decide +kernel
theorem dX8_perform_97 : decode cX8_perform 97 = .ok (.invokevirtual 82, 3) := by decide +kernel
theorem dX8_perform_100 : decode cX8_perform 100 = .ok (.ireturn, 1) := by decide +kernel
theorem dX8_perform_101 : decode cX8_perform 101 = .ok (.aload_n 0, 1) := by decide +kernel
theorem dX8_perform_102 : decode cX8_perform 102 = .ok (.getfield 16, 3) := by decide +kernel
theorem dX8_perform_105 : decode cX8_perform 105 = .ok (.iload_n 1, 1) := by decide +kernel
theorem dX8_perform_106 : decode cX8_perform 106 = .ok (.iload_n 2, 1) := by decide +kernel
theorem dX8_perform_107 : decode cX8_perform 107 = .ok (.invokevirtual 85, 3) := by decide +kernel
theorem dX8_perform_110 : decode cX8_perform 110 = .ok (.ireturn, 1) := by decide +kernel
theorem dX8_perform_111 : decode cX8_perform 111 = .ok (.aload_n 0, 1) := by decide +kernel
theorem dX8_perform_112 : decode cX8_perform 112 = .ok (.getfield 16, 3) := by decide +kernel
theorem dX8_perform_115 : decode cX8_perform 115 = .ok (.iload_n 1, 1) := by decide +kernel
theorem dX8_perform_116 : decode cX8_perform 116 = .ok (.invokevirtual 88, 3) := by decide +kernel
theorem dX8_perform_119 : decode cX8_perform 119 = .ok (.ireturn, 1) := by decide +kernel
theorem dX8_perform_120 : decode cX8_perform 120 = .ok (.aload_n 0, 1) := by decide +kernel
theorem dX8_perform_121 : decode cX8_perform 121 = .ok (.getfield 16, 3) := by decide +kernel
theorem dX8_perform_124 : decode cX8_perform 124 = .ok (.iload_n 1, 1) := by decide +kernel
theorem dX8_perform_125 : decode cX8_perform 125 = .ok (.invokevirtual 91, 3) := by decide +kernel
theorem dX8_perform_128 : decode cX8_perform 128 = .ok (.ireturn, 1) := by decide +kernel
theorem dX8_perform_129 : decode cX8_perform 129 = .ok (.aload_n 0, 1) := by decide +kernel
theorem dX8_perform_130 : decode cX8_perform 130 = .ok (.getfield 16, 3) := by decide +kernel
theorem dX8_perform_133 : decode cX8_perform 133 = .ok (.iload_n 1, 1) := by decide +kernel
theorem dX8_perform_134 : decode cX8_perform 134 = .ok (.iload_n 2, 1) := by decide +kernel
theorem dX8_perform_135 : decode cX8_perform 135 = .ok (.invokevirtual 94, 3) := by decide +kernel
theorem dX8_perform_138 : decode cX8_perform 138 = .ok (.ireturn, 1) := by decide +kernel
theorem dX8_perform_139 : decode cX8_perform 139 = .ok (.aload_n 0, 1) := by decide +kernel
theorem dX8_perform_140 : decode cX8_perform 140 = .ok (.getfield 16, 3) := by decide +kernel
theorem dX8_perform_143 : decode cX8_perform 143 = .ok (.iload_n 1, 1) := by decide +kernel
theorem dX8_perform_144 : decode cX8_perform 144 = .ok (.invokevirtual 97, 3) := by decide +kernel
theorem dX8_perform_147 : decode cX8_perform 147 = .ok (.ireturn, 1) := by decide +kernel
theorem dX8_reasonOf_0 : decode cX8_reasonOf 0 = .ok (.iload_n 0, 1) := by decide +kernel
theorem dX8_reasonOf_1 : decode cX8_reasonOf 1 = .ok (.iconst (-1), 1) := by decide +kernel
theorem dX8_reasonOf_2 : decode cX8_reasonOf 2 = .ok (.if_icmp .ne 5, 3) := by decide +kernel
theorem dX8_reasonOf_5 : decode cX8_reasonOf 5 = .ok (.iconst 2, 1) := by decide +kernel
theorem dX8_reasonOf_6 : decode cX8_reasonOf 6 = .ok (.ireturn, 1) := by decide +kernel
theorem dX8_reasonOf_7 : decode cX8_reasonOf 7 = .ok (.iload_n 0, 1) := by decide +kernel
theorem dX8_reasonOf_8 : decode cX8_reasonOf 8 = .ok (.ifCond .ge 7, 3) := by decide +kernel
theorem dX8_reasonOf_11 : decode cX8_reasonOf 11 = .ok (.iconst 3, 1) := by decide +kernel
theorem dX8_reasonOf_12 : decode cX8_reasonOf 12 = .ok (.goto 4, 3) := by decide +kernel
theorem dX8_reasonOf_15 : decode cX8_reasonOf 15 = .ok (.iconst 0, 1) := by decide +kernel
theorem dX8_reasonOf_16 : decode cX8_reasonOf 16 = .ok (.ireturn, 1) := by decide +kernel
theorem dX8_isWithin_0 : decode cX8_isWithin 0 = .ok (.iload_n 0, 1) := by decide +kernel
theorem dX8_isWithin_1 : decode cX8_isWithin 1 = .ok (.iload_n 1, 1) := by decide +kernel
theorem dX8_isWithin_2 : decode cX8_isWithin 2 = .ok (.if_icmp .lt 12, 3) := by decide +kernel
theorem dX8_isWithin_5 : decode cX8_isWithin 5 = .ok (.iload_n 0, 1) := by decide +kernel
theorem dX8_isWithin_6 : decode cX8_isWithin 6 = .ok (.iload_n 2, 1) := by decide +kernel
theorem dX8_isWithin_7 : decode cX8_isWithin 7 = .ok (.if_icmp .gt 7, 3) := by decide +kernel
theorem dX8_isWithin_10 : decode cX8_isWithin 10 = .ok (.iconst 1, 1) := by decide +kernel
theorem dX8_isWithin_11 : decode cX8_isWithin 11 = .ok (.goto 4, 3) := by decide +kernel
theorem dX8_isWithin_14 : decode cX8_isWithin 14 = .ok (.iconst 0, 1) := by decide +kernel
theorem dX8_isWithin_15 : decode cX8_isWithin 15 = .ok (.ireturn, 1) := by decide +kernel
theorem dX8_entryAt_0 : decode cX8_entryAt 0 = .ok (.iload_n 1, 1) := by decide +kernel
theorem dX8_entryAt_1 : decode cX8_entryAt 1 = .ok (.ifCond .lt 15, 3) := by decide +kernel
theorem dX8_entryAt_4 : decode cX8_entryAt 4 = .ok (.iload_n 1, 1) := by decide +kernel
theorem dX8_entryAt_5 : decode cX8_entryAt 5 = .ok (.aload_n 0, 1) := by decide +kernel
theorem dX8_entryAt_6 : decode cX8_entryAt 6 = .ok (.arraylength, 1) := by decide +kernel
theorem dX8_entryAt_7 : decode cX8_entryAt 7 = .ok (.if_icmp .ge 9, 3) := by decide +kernel
theorem dX8_entryAt_10 : decode cX8_entryAt 10 = .ok (.aload_n 0, 1) := by decide +kernel
theorem dX8_entryAt_11 : decode cX8_entryAt 11 = .ok (.iload_n 1, 1) := by decide +kernel
theorem dX8_entryAt_12 : decode cX8_entryAt 12 = .ok (.iaload, 1) := by decide +kernel
theorem dX8_entryAt_13 : decode cX8_entryAt 13 = .ok (.goto 4, 3) := by decide +kernel
theorem dX8_entryAt_16 : decode cX8_entryAt 16 = .ok (.iconst 0, 1) := by decide +kernel
theorem dX8_entryAt_17 : decode cX8_entryAt 17 = .ok (.ireturn, 1) := by decide +kernel
theorem dX8_putEntry_0 : decode cX8_putEntry 0 = .ok (.iload_n 1, 1) := by decide +kernel
theorem dX8_putEntry_1 : decode cX8_putEntry 1 = .ok (.ifCond .lt 13, 3) := by decide +kernel
theorem dX8_putEntry_4 : decode cX8_putEntry 4 = .ok (.iload_n 1, 1) := by decide +kernel
theorem dX8_putEntry_5 : decode cX8_putEntry 5 = .ok (.aload_n 0, 1) := by decide +kernel
theorem dX8_putEntry_6 : decode cX8_putEntry 6 = .ok (.arraylength, 1) := by decide +kernel
theorem dX8_putEntry_7 : decode cX8_putEntry 7 = .ok (.if_icmp .ge 7, 3) := by decide +kernel
theorem dX8_putEntry_10 : decode cX8_putEntry 10 = .ok (.aload_n 0, 1) := by decide +kernel
theorem dX8_putEntry_11 : decode cX8_putEntry 11 = .ok (.iload_n 1, 1) := by decide +kernel
theorem dX8_putEntry_12 : decode cX8_putEntry 12 = .ok (.iload_n 2, 1) := by decide +kernel
theorem dX8_putEntry_13 : decode cX8_putEntry 13 = .ok (.iastore, 1) := by decide +kernel
theorem dX8_putEntry_14 : decode cX8_putEntry 14 = .ok (.return_, 1) := by decide +kernel
theorem dX8_copyEntries_0 : decode cX8_copyEntries 0 = .ok (.aload_n 0, 1) := by decide +kernel
theorem dX8_copyEntries_1 : decode cX8_copyEntries 1 = .ok (.iconst 0, 1) := by decide +kernel
theorem dX8_copyEntries_2 : decode cX8_copyEntries 2 = .ok (.aload_n 1, 1) := by decide +kernel
theorem dX8_copyEntries_3 : decode cX8_copyEntries 3 = .ok (.iconst 0, 1) := by decide +kernel
theorem dX8_copyEntries_4 : decode cX8_copyEntries 4 = .ok (.aload_n 0, 1) := by decide +kernel
theorem dX8_copyEntries_5 : decode cX8_copyEntries 5 = .ok (.arraylength, 1) := by decide +kernel
theorem dX8_copyEntries_6 : decode cX8_copyEntries 6 = .ok (.aload_n 1, 1) := by decide +kernel
theorem dX8_copyEntries_7 : decode cX8_copyEntries 7 = .ok (.arraylength, 1) := by decide +kernel
theorem dX8_copyEntries_8 : decode cX8_copyEntries 8 = .ok (.invokestatic 208, 3) := by decide +kernel
theorem dX8_copyEntries_11 : decode cX8_copyEntries 11 = .ok (.invokestatic 213, 3) := by decide +kernel
theorem dX8_copyEntries_14 : decode cX8_copyEntries 14 = .ok (.return_, 1) := by decide +kernel
theorem dX9_init_0 : decode cX9_init 0 = .ok (.aload_n 0, 1) := by decide +kernel
theorem dX9_init_1 : decode cX9_init 1 = .ok (.invokespecial 1, 3) := by decide +kernel
theorem dX9_init_4 : decode cX9_init 4 = .ok (.aload_n 0, 1) := by decide +kernel
theorem dX9_init_5 : decode cX9_init 5 = .ok (.sipush 199, 3) := by decide +kernel
theorem dX9_init_8 : decode cX9_init 8 = .ok (.newarray .int, 2) := by decide +kernel
theorem dX9_init_10 : decode cX9_init 10 = .ok (.putfield 7, 3) := by decide +kernel
theorem dX9_init_13 : decode cX9_init 13 = .ok (.aload_n 0, 1) := by decide +kernel
theorem dX9_init_14 : decode cX9_init 14 = .ok (.sipush 796, 3) := by decide +kernel
theorem dX9_init_17 : decode cX9_init 17 = .ok (.newarray .int, 2) := by decide +kernel
theorem dX9_init_19 : decode cX9_init 19 = .ok (.putfield 13, 3) := by decide +kernel
theorem dX9_init_22 : decode cX9_init 22 = .ok (.aload_n 0, 1) := by decide +kernel
theorem dX9_init_23 : decode cX9_init 23 = .ok (.sipush 199, 3) := by decide +kernel
theorem dX9_init_26 : decode cX9_init 26 = .ok (.newarray .int, 2) := by decide +kernel
theorem dX9_init_28 : decode cX9_init 28 = .ok (.putfield 16, 3) := by decide +kernel
theorem dX9_init_31 : decode cX9_init 31 = .ok (.aload_n 0, 1) := by decide +kernel
theorem dX9_init_32 : decode cX9_init 32 = .ok (.bipush 80, 2) := by decide +kernel
theorem dX9_init_34 : decode cX9_init 34 = .ok (.newarray .int, 2) := by decide +kernel
theorem dX9_init_36 : decode cX9_init 36 = .ok (.putfield 19, 3) := by decide +kernel
theorem dX9_init_39 : decode cX9_init 39 = .ok (.aload_n 0, 1) := by decide +kernel
theorem dX9_init_40 : decode cX9_init 40 = .ok (.iconst 3, 1) := by decide +kernel
theorem dX9_init_41 : decode cX9_init 41 = .ok (.newarray .int, 2) := by decide +kernel
theorem dX9_init_43 : decode cX9_init 43 = .ok (.putfield 22, 3) := by decide +kernel
theorem dX9_init_46 : decode cX9_init 46 = .ok (.aload_n 0, 1) := by decide +kernel
theorem dX9_init_47 : decode cX9_init 47 = .ok (.getfield 7, 3) := by decide +kernel
theorem dX9_init_50 : decode cX9_init 50 = .ok (.iconst 0, 1) := by decide +kernel
theorem dX9_init_51 : decode cX9_init 51 = .ok (.bipush 10, 2) := by decide +kernel
theorem dX9_init_53 : decode cX9_init 53 = .ok (.iastore, 1) := by decide +kernel
theorem dX9_init_54 : decode cX9_init 54 = .ok (.aload_n 0, 1) := by decide +kernel
theorem dX9_init_55 : decode cX9_init 55 = .ok (.getfield 7, 3) := by decide +kernel
theorem dX9_init_58 : decode cX9_init 58 = .ok (.iconst 1, 1) := by decide +kernel
theorem dX9_init_59 : decode cX9_init 59 = .ok (.bipush 10, 2) := by decide +kernel
theorem dX9_init_61 : decode cX9_init 61 = .ok (.iastore, 1) := by decide +kernel
theorem dX9_init_62 : decode cX9_init 62 = .ok (.iconst 0, 1) := by decide +kernel
theorem dX9_init_63 : decode cX9_init 63 = .ok (.istore_n 1, 1) := by decide +kernel
theorem dX9_init_64 : decode cX9_init 64 = .ok (.iload_n 1, 1) := by decide +kernel
theorem dX9_init_65 : decode cX9_init 65 = .ok (.bipush 16, 2) := by decide +kernel
theorem dX9_init_67 : decode cX9_init 67 = .ok (.if_icmp .ge 32, 3) := by decide +kernel
theorem dX9_init_70 : decode cX9_init 70 = .ok (.aload_n 0, 1) := by decide +kernel
theorem dX9_init_71 : decode cX9_init 71 = .ok (.getfield 7, 3) := by decide +kernel
theorem dX9_init_74 : decode cX9_init 74 = .ok (.bipush 15, 2) := by decide +kernel
theorem dX9_init_76 : decode cX9_init 76 = .ok (.iload_n 1, 1) := by decide +kernel
theorem dX9_init_77 : decode cX9_init 77 = .ok (.iadd, 1) := by decide +kernel
theorem dX9_init_78 : decode cX9_init 78 = .ok (.iload_n 1, 1) := by decide +kernel
theorem dX9_init_79 : decode cX9_init 79 = .ok (.iconst 4, 1) := by decide +kernel
theorem dX9_init_80 : decode cX9_init 80 = .ok (.idiv, 1) := by decide +kernel
theorem dX9_init_81 : decode cX9_init 81 = .ok (.iload_n 1, 1) := by decide +kernel
theorem dX9_init_82 : decode cX9_init 82 = .ok (.iconst 4, 1) := by decide +kernel
theorem dX9_init_83 : decode cX9_init 83 = .ok (.irem, 1) := by decide +kernel
theorem dX9_init_84 : decode cX9_init 84 = .ok (.if_icmp .ne 7, 3) := by decide +kernel
theorem dX9_init_87 : decode cX9_init 87 = .ok (.iconst 0, 1) := by decide +kernel
theorem dX9_init_88 : decode cX9_init 88 = .ok (.goto 4, 3) := by decide +kernel
theorem dX9_init_91 : decode cX9_init 91 = .ok (.iconst 5, 1) := by decide +kernel
theorem dX9_init_92 : decode cX9_init 92 = .ok (.iastore, 1) := by decide +kernel
theorem dX9_init_93 : decode cX9_init 93 = .ok (.iinc 1 1, 3) := by decide +kernel
theorem dX9_init_96 : decode cX9_init 96 = .ok (.goto (-32), 3) := by decide +kernel
theorem dX9_init_99 : decode cX9_init 99 = .ok (.return_, 1) := by decide +kernel
theorem dX9_in_0 : decode cX9_in 0 = .ok (.iload_n 0, 1) := by decide +kernel
theorem dX9_in_1 : decode cX9_in 1 = .ok (.iload_n 1, 1) := by decide +kernel
theorem dX9_in_2 : decode cX9_in 2 = .ok (.if_icmp .lt 12, 3) := by decide +kernel
theorem dX9_in_5 : decode cX9_in 5 = .ok (.iload_n 0, 1) := by decide +kernel
theorem dX9_in_6 : decode cX9_in 6 = .ok (.iload_n 2, 1) := by decide +kernel
theorem dX9_in_7 : decode cX9_in 7 = .ok (.if_icmp .gt 7, 3) := by decide +kernel
theorem dX9_in_10 : decode cX9_in 10 = .ok (.iconst 1, 1) := by decide +kernel
theorem dX9_in_11 : decode cX9_in 11 = .ok (.goto 4, 3) := by decide +kernel
theorem dX9_in_14 : decode cX9_in 14 = .ok (.iconst 0, 1) := by decide +kernel
theorem dX9_in_15 : decode cX9_in 15 = .ok (.ireturn, 1) := by decide +kernel
theorem dX9_copies_0 : decode cX9_copies 0 = .ok (.iconst 0, 1) := by decide +kernel
theorem dX9_copies_1 : decode cX9_copies 1 = .ok (.istore_n 2, 1) := by decide +kernel
theorem dX9_copies_2 : decode cX9_copies 2 = .ok (.iload_n 2, 1) := by decide +kernel
theorem dX9_copies_3 : decode cX9_copies 3 = .ok (.sipush 199, 3) := by decide +kernel
theorem dX9_copies_6 : decode cX9_copies 6 = .ok (.if_icmp .ge 15, 3) := by decide +kernel
theorem dX9_copies_9 : decode cX9_copies 9 = .ok (.aload_n 1, 1) := by decide +kernel
theorem dX9_copies_10 : decode cX9_copies 10 = .ok (.iload_n 2, 1) := by decide +kernel
theorem dX9_copies_11 : decode cX9_copies 11 = .ok (.aload_n 0, 1) := by decide +kernel
theorem dX9_copies_12 : decode cX9_copies 12 = .ok (.iload_n 2, 1) := by decide +kernel
theorem dX9_copies_13 : decode cX9_copies 13 = .ok (.iaload, 1) := by decide +kernel
theorem dX9_copies_14 : decode cX9_copies 14 = .ok (.iastore, 1) := by decide +kernel
theorem dX9_copies_15 : decode cX9_copies 15 = .ok (.iinc 2 1, 3) := by decide +kernel
theorem dX9_copies_18 : decode cX9_copies 18 = .ok (.goto (-16), 3) := by decide +kernel
theorem dX9_copies_21 : decode cX9_copies 21 = .ok (.return_, 1) := by decide +kernel
theorem dX9_changes_0 : decode cX9_changes 0 = .ok (.aload_n 0, 1) := by decide +kernel
theorem dX9_changes_1 : decode cX9_changes 1 = .ok (.getfield 25, 3) := by decide +kernel
theorem dX9_changes_4 : decode cX9_changes 4 = .ok (.ifCond .eq 4, 3) := by decide +kernel
theorem dX9_changes_7 : decode cX9_changes 7 = .ok (.return_, 1) := by decide +kernel
theorem dX9_changes_8 : decode cX9_changes 8 = .ok (.aload_n 0, 1) := by decide +kernel
theorem dX9_changes_9 : decode cX9_changes 9 = .ok (.getfield 29, 3) := by decide +kernel
theorem dX9_changes_12 : decode cX9_changes 12 = .ok (.iconst 4, 1) := by decide +kernel
theorem dX9_changes_13 : decode cX9_changes 13 = .ok (.if_icmp .ne 44, 3) := by decide +kernel
theorem dX9_changes_16 : decode cX9_changes 16 = .ok (.iconst 0, 1) := by decide +kernel
theorem dX9_changes_17 : decode cX9_changes 17 = .ok (.istore_n 1, 1) := by decide +kernel
theorem dX9_changes_18 : decode cX9_changes 18 = .ok (.iload_n 1, 1) := by decide +kernel
theorem dX9_changes_19 : decode cX9_changes 19 = .ok (.sipush 597, 3) := by decide +kernel
theorem dX9_changes_22 : decode cX9_changes 22 = .ok (.if_icmp .ge 25, 3) := by decide +kernel
theorem dX9_changes_25 : decode cX9_changes 25 = .ok (.aload_n 0, 1) := by decide +kernel
theorem dX9_changes_26 : decode cX9_changes 26 = .ok (.getfield 13, 3) := by decide +kernel
theorem dX9_changes_29 : decode cX9_changes 29 = .ok (.iload_n 1, 1) := by decide +kernel
theorem dX9_changes_30 : decode cX9_changes 30 = .ok (.aload_n 0, 1) := by decide +kernel
theorem dX9_changes_31 : decode cX9_changes 31 = .ok (.getfield 13, 3) := by decide +kernel
theorem dX9_changes_34 : decode cX9_changes 34 = .ok (.iload_n 1, 1) := by decide +kernel
theorem dX9_changes_35 : decode cX9_changes 35 = .ok (.sipush 199, 3) := by decide +kernel
theorem dX9_changes_38 : decode cX9_changes 38 = .ok (.iadd, 1) := by decide +kernel
theorem dX9_changes_39 : decode cX9_changes 39 = .ok (.iaload, 1) := by decide +kernel
theorem dX9_changes_40 : decode cX9_changes 40 = .ok (.iastore, 1) := by decide +kernel
theorem dX9_changes_41 : decode cX9_changes 41 = .ok (.iinc 1 1, 3) := by decide +kernel
theorem dX9_changes_44 : decode cX9_changes 44 = .ok (.goto (-26), 3) := by decide +kernel
theorem dX9_changes_47 : decode cX9_changes 47 = .ok (.aload_n 0, 1) := by decide +kernel
theorem dX9_changes_48 : decode cX9_changes 48 = .ok (.dup, 1) := by decide +kernel
theorem dX9_changes_49 : decode cX9_changes 49 = .ok (.getfield 29, 3) := by decide +kernel
theorem dX9_changes_52 : decode cX9_changes 52 = .ok (.iconst 1, 1) := by decide +kernel
theorem dX9_changes_53 : decode cX9_changes 53 = .ok (.isub, 1) := by decide +kernel
theorem dX9_changes_54 : decode cX9_changes 54 = .ok (.putfield 29, 3) := by decide +kernel
theorem dX9_changes_57 : decode cX9_changes 57 = .ok (.iconst 0, 1) := by decide +kernel
theorem dX9_changes_58 : decode cX9_changes 58 = .ok (.istore_n 1, 1) := by decide +kernel
theorem dX9_changes_59 : decode cX9_changes 59 = .ok (.iload_n 1, 1) := by decide +kernel
theorem dX9_changes_60 : decode cX9_changes 60 = .ok (.sipush 199, 3) := by decide +kernel
theorem dX9_changes_63 : decode cX9_changes 63 = .ok (.if_icmp .ge 30, 3) := by decide +kernel
theorem dX9_changes_66 : decode cX9_changes 66 = .ok (.aload_n 0, 1) := by decide +kernel
theorem dX9_changes_67 : decode cX9_changes 67 = .ok (.getfield 13, 3) := by decide +kernel
theorem dX9_changes_70 : decode cX9_changes 70 = .ok (.sipush 199, 3) := by decide +kernel
theorem dX9_changes_73 : decode cX9_changes 73 = .ok (.aload_n 0, 1) := by decide +kernel
theorem dX9_changes_74 : decode cX9_changes 74 = .ok (.getfield 29, 3) := by decide +kernel
theorem dX9_changes_77 : decode cX9_changes 77 = .ok (.imul, 1) := by decide +kernel
theorem dX9_changes_78 : decode cX9_changes 78 = .ok (.iload_n 1, 1) := by decide +kernel
theorem dX9_changes_79 : decode cX9_changes 79 = .ok (.iadd, 1) := by decide +kernel
theorem dX9_changes_80 : decode cX9_changes 80 = .ok (.aload_n 0, 1) := by decide +kernel
theorem dX9_changes_81 : decode cX9_changes 81 = .ok (.getfield 7, 3) := by decide +kernel
theorem dX9_changes_84 : decode cX9_changes 84 = .ok (.iload_n 1, 1) := by decide +kernel
theorem dX9_changes_85 : decode cX9_changes 85 = .ok (.iaload, 1) := by decide +kernel
theorem dX9_changes_86 : decode cX9_changes 86 = .ok (.iastore, 1) := by decide +kernel
theorem dX9_changes_87 : decode cX9_changes 87 = .ok (.iinc 1 1, 3) := by decide +kernel
theorem dX9_changes_90 : decode cX9_changes 90 = .ok (.goto (-31), 3) := by decide +kernel
theorem dX9_changes_93 : decode cX9_changes 93 = .ok (.aload_n 0, 1) := by decide +kernel
theorem dX9_changes_94 : decode cX9_changes 94 = .ok (.dup, 1) := by decide +kernel
theorem dX9_changes_95 : decode cX9_changes 95 = .ok (.getfield 29, 3) := by decide +kernel
theorem dX9_changes_98 : decode cX9_changes 98 = .ok (.iconst 1, 1) := by decide +kernel
theorem dX9_changes_99 : decode cX9_changes 99 = .ok (.iadd, 1) := by decide +kernel
theorem dX9_changes_100 : decode cX9_changes 100 = .ok (.putfield 29, 3) := by decide +kernel
theorem dX9_changes_103 : decode cX9_changes 103 = .ok (.return_, 1) := by decide +kernel
theorem dX9_isRecipe_0 : decode cX9_isRecipe 0 = .ok (.iload_n 1, 1) := by decide +kernel
theorem dX9_isRecipe_1 : decode cX9_isRecipe 1 = .ok (.ifCond .lt 17, 3) := by decide +kernel
theorem dX9_isRecipe_4 : decode cX9_isRecipe 4 = .ok (.iload_n 1, 1) := by decide +kernel
theorem dX9_isRecipe_5 : decode cX9_isRecipe 5 = .ok (.aload_n 0, 1) := by decide +kernel
theorem dX9_isRecipe_6 : decode cX9_isRecipe 6 = .ok (.getfield 7, 3) := by decide +kernel
theorem dX9_isRecipe_9 : decode cX9_isRecipe 9 = .ok (.iconst 2, 1) := by decide +kernel
theorem dX9_isRecipe_10 : decode cX9_isRecipe 10 = .ok (.iaload, 1) := by decide +kernel
theorem dX9_isRecipe_11 : decode cX9_isRecipe 11 = .ok (.if_icmp .ge 7, 3) := by decide +kernel
theorem dX9_isRecipe_14 : decode cX9_isRecipe 14 = .ok (.iconst 1, 1) := by decide +kernel
theorem dX9_isRecipe_15 : decode cX9_isRecipe 15 = .ok (.goto 4, 3) := by decide +kernel
theorem dX9_isRecipe_18 : decode cX9_isRecipe 18 = .ok (.iconst 0, 1) := by decide +kernel
theorem dX9_isRecipe_19 : decode cX9_isRecipe 19 = .ok (.ireturn, 1) := by decide +kernel
theorem dX9_isVessel_0 : decode cX9_isVessel 0 = .ok (.iload_n 1, 1) := by decide +kernel
theorem dX9_isVessel_1 : decode cX9_isVessel 1 = .ok (.ifCond .lt 17, 3) := by decide +kernel
theorem dX9_isVessel_4 : decode cX9_isVessel 4 = .ok (.iload_n 1, 1) := by decide +kernel
theorem dX9_isVessel_5 : decode cX9_isVessel 5 = .ok (.aload_n 0, 1) := by decide +kernel
theorem dX9_isVessel_6 : decode cX9_isVessel 6 = .ok (.getfield 7, 3) := by decide +kernel
theorem dX9_isVessel_9 : decode cX9_isVessel 9 = .ok (.iconst 3, 1) := by decide +kernel
theorem dX9_isVessel_10 : decode cX9_isVessel 10 = .ok (.iaload, 1) := by decide +kernel
theorem dX9_isVessel_11 : decode cX9_isVessel 11 = .ok (.if_icmp .ge 7, 3) := by decide +kernel
theorem dX9_isVessel_14 : decode cX9_isVessel 14 = .ok (.iconst 1, 1) := by decide +kernel
theorem dX9_isVessel_15 : decode cX9_isVessel 15 = .ok (.goto 4, 3) := by decide +kernel
theorem dX9_isVessel_18 : decode cX9_isVessel 18 = .ok (.iconst 0, 1) := by decide +kernel
theorem dX9_isVessel_19 : decode cX9_isVessel 19 = .ok (.ireturn, 1) := by decide +kernel
theorem dX9_ofVessel_0 : decode cX9_ofVessel 0 = .ok (.aload_n 0, 1) := by decide +kernel
theorem dX9_ofVessel_1 : decode cX9_ofVessel 1 = .ok (.getfield 7, 3) := by decide +kernel
theorem dX9_ofVessel_4 : decode cX9_ofVessel 4 = .ok (.bipush 103, 2) := by decide +kernel
theorem dX9_ofVessel_6 : decode cX9_ofVessel 6 = .ok (.iconst 5, 1) := by decide +kernel
theorem dX9_ofVessel_7 : decode cX9_ofVessel 7 = .ok (.iload_n 1, 1) := by decide +kernel
theorem dX9_ofVessel_8 : decode cX9_ofVessel 8 = .ok (.imul, 1) := by decide +kernel
theorem dX9_ofVessel_9 : decode cX9_ofVessel 9 = .ok (.iadd, 1) := by decide +kernel
theorem dX9_ofVessel_10 : decode cX9_ofVessel 10 = .ok (.iload_n 2, 1) := by decide +kernel
theorem dX9_ofVessel_11 : decode cX9_ofVessel 11 = .ok (.iadd, 1) := by decide +kernel
theorem dX9_ofVessel_12 : decode cX9_ofVessel 12 = .ok (.iaload, 1) := by decide +kernel
theorem dX9_ofVessel_13 : decode cX9_ofVessel 13 = .ok (.ireturn, 1) := by decide +kernel
theorem dX9_putsVessel_0 : decode cX9_putsVessel 0 = .ok (.aload_n 0, 1) := by decide +kernel
theorem dX9_putsVessel_1 : decode cX9_putsVessel 1 = .ok (.getfield 7, 3) := by decide +kernel
theorem dX9_putsVessel_4 : decode cX9_putsVessel 4 = .ok (.bipush 103, 2) := by decide +kernel
theorem dX9_putsVessel_6 : decode cX9_putsVessel 6 = .ok (.iconst 5, 1) := by decide +kernel
theorem dX9_putsVessel_7 : decode cX9_putsVessel 7 = .ok (.iload_n 1, 1) := by decide +kernel
theorem dX9_putsVessel_8 : decode cX9_putsVessel 8 = .ok (.imul, 1) := by decide +kernel
theorem dX9_putsVessel_9 : decode cX9_putsVessel 9 = .ok (.iadd, 1) := by decide +kernel
theorem dX9_putsVessel_10 : decode cX9_putsVessel 10 = .ok (.iload_n 2, 1) := by decide +kernel
theorem dX9_putsVessel_11 : decode cX9_putsVessel 11 = .ok (.iadd, 1) := by decide +kernel
theorem dX9_putsVessel_12 : decode cX9_putsVessel 12 = .ok (.iload_n 3, 1) := by decide +kernel
theorem dX9_putsVessel_13 : decode cX9_putsVessel 13 = .ok (.iastore, 1) := by decide +kernel
theorem dX9_putsVessel_14 : decode cX9_putsVessel 14 = .ok (.return_, 1) := by decide +kernel
theorem dX9_ofLine_0 : decode cX9_ofLine 0 = .ok (.aload_n 0, 1) := by decide +kernel
theorem dX9_ofLine_1 : decode cX9_ofLine 1 = .ok (.getfield 7, 3) := by decide +kernel
theorem dX9_ofLine_4 : decode cX9_ofLine 4 = .ok (.sipush 133, 3) := by decide +kernel
theorem dX9_ofLine_7 : decode cX9_ofLine 7 = .ok (.iconst 4, 1) := by decide +kernel
theorem dX9_ofLine_8 : decode cX9_ofLine 8 = .ok (.iload_n 1, 1) := by decide +kernel
theorem dX9_ofLine_9 : decode cX9_ofLine 9 = .ok (.imul, 1) := by decide +kernel
theorem dX9_ofLine_10 : decode cX9_ofLine 10 = .ok (.iadd, 1) := by decide +kernel
theorem dX9_ofLine_11 : decode cX9_ofLine 11 = .ok (.iload_n 2, 1) := by decide +kernel
theorem dX9_ofLine_12 : decode cX9_ofLine 12 = .ok (.iadd, 1) := by decide +kernel
theorem dX9_ofLine_13 : decode cX9_ofLine 13 = .ok (.iaload, 1) := by decide +kernel
theorem dX9_ofLine_14 : decode cX9_ofLine 14 = .ok (.ireturn, 1) := by decide +kernel
theorem dX9_of_0 : decode cX9_of 0 = .ok (.aload_n 0, 1) := by decide +kernel
theorem dX9_of_1 : decode cX9_of 1 = .ok (.getfield 7, 3) := by decide +kernel
theorem dX9_of_4 : decode cX9_of 4 = .ok (.sipush 145, 3) := by decide +kernel
theorem dX9_of_7 : decode cX9_of 7 = .ok (.bipush 9, 2) := by decide +kernel
theorem dX9_of_9 : decode cX9_of 9 = .ok (.iload_n 1, 1) := by decide +kernel
theorem dX9_of_10 : decode cX9_of 10 = .ok (.imul, 1) := by decide +kernel
theorem dX9_of_11 : decode cX9_of 11 = .ok (.iadd, 1) := by decide +kernel
theorem dX9_of_12 : decode cX9_of 12 = .ok (.iload_n 2, 1) := by decide +kernel
theorem dX9_of_13 : decode cX9_of 13 = .ok (.iadd, 1) := by decide +kernel
theorem dX9_of_14 : decode cX9_of 14 = .ok (.iaload, 1) := by decide +kernel
theorem dX9_of_15 : decode cX9_of 15 = .ok (.ireturn, 1) := by decide +kernel
theorem dX9_puts_0 : decode cX9_puts 0 = .ok (.aload_n 0, 1) := by decide +kernel
theorem dX9_puts_1 : decode cX9_puts 1 = .ok (.getfield 7, 3) := by decide +kernel
theorem dX9_puts_4 : decode cX9_puts 4 = .ok (.sipush 145, 3) := by decide +kernel
theorem dX9_puts_7 : decode cX9_puts 7 = .ok (.bipush 9, 2) := by decide +kernel
theorem dX9_puts_9 : decode cX9_puts 9 = .ok (.iload_n 1, 1) := by decide +kernel
theorem dX9_puts_10 : decode cX9_puts 10 = .ok (.imul, 1) := by decide +kernel
theorem dX9_puts_11 : decode cX9_puts 11 = .ok (.iadd, 1) := by decide +kernel
theorem dX9_puts_12 : decode cX9_puts 12 = .ok (.iload_n 2, 1) := by decide +kernel
theorem dX9_puts_13 : decode cX9_puts 13 = .ok (.iadd, 1) := by decide +kernel
theorem dX9_puts_14 : decode cX9_puts 14 = .ok (.iload_n 3, 1) := by decide +kernel
theorem dX9_puts_15 : decode cX9_puts 15 = .ok (.iastore, 1) := by decide +kernel
theorem dX9_puts_16 : decode cX9_puts 16 = .ok (.return_, 1) := by decide +kernel
theorem dX9_isBatch_0 : decode cX9_isBatch 0 = .ok (.iload_n 1, 1) := by decide +kernel
theorem dX9_isBatch_1 : decode cX9_isBatch 1 = .ok (.iconst 0, 1) := by decide +kernel
theorem dX9_isBatch_2 : decode cX9_isBatch 2 = .ok (.iconst 5, 1) := by decide +kernel
theorem dX9_isBatch_3 : decode cX9_isBatch 3 = .ok (.invokestatic 33, 3) := by decide +kernel
theorem dX9_isBatch_6 : decode cX9_isBatch 6 = .ok (.ifCond .eq 17, 3) := by decide +kernel
theorem dX9_isBatch_9 : decode cX9_isBatch 9 = .ok (.aload_n 0, 1) := by decide +kernel
theorem dX9_isBatch_10 : decode cX9_isBatch 10 = .ok (.iload_n 1, 1) := by decide +kernel
theorem dX9_isBatch_11 : decode cX9_isBatch 11 = .ok (.iconst 0, 1) := by decide +kernel
theorem dX9_isBatch_12 : decode cX9_isBatch 12 = .ok (.invokevirtual 37, 3) := by decide +kernel
theorem dX9_isBatch_15 : decode cX9_isBatch 15 = .ok (.iconst 1, 1) := by decide +kernel
theorem dX9_isBatch_16 : decode cX9_isBatch 16 = .ok (.if_icmp .ne 7, 3) := by decide +kernel
theorem dX9_isBatch_19 : decode cX9_isBatch 19 = .ok (.iconst 1, 1) := by decide +kernel
theorem dX9_isBatch_20 : decode cX9_isBatch 20 = .ok (.goto 4, 3) := by decide +kernel
theorem dX9_isBatch_23 : decode cX9_isBatch 23 = .ok (.iconst 0, 1) := by decide +kernel
theorem dX9_isBatch_24 : decode cX9_isBatch 24 = .ok (.ireturn, 1) := by decide +kernel
theorem dX9_product_0 : decode cX9_product 0 = .ok (.aload_n 0, 1) := by decide +kernel
theorem dX9_product_1 : decode cX9_product 1 = .ok (.getfield 7, 3) := by decide +kernel
theorem dX9_product_4 : decode cX9_product 4 = .ok (.bipush 31, 2) := by decide +kernel
theorem dX9_product_6 : decode cX9_product 6 = .ok (.bipush 18, 2) := by decide +kernel
theorem dX9_product_8 : decode cX9_product 8 = .ok (.iload_n 1, 1) := by decide +kernel
theorem dX9_product_9 : decode cX9_product 9 = .ok (.imul, 1) := by decide +kernel
theorem dX9_product_10 : decode cX9_product 10 = .ok (.iadd, 1) := by decide +kernel
theorem dX9_product_11 : decode cX9_product 11 = .ok (.iaload, 1) := by decide +kernel
theorem dX9_product_12 : decode cX9_product 12 = .ok (.ireturn, 1) := by decide +kernel
theorem dX9_stages_0 : decode cX9_stages 0 = .ok (.aload_n 0, 1) := by decide +kernel
theorem dX9_stages_1 : decode cX9_stages 1 = .ok (.getfield 7, 3) := by decide +kernel
theorem dX9_stages_4 : decode cX9_stages 4 = .ok (.bipush 31, 2) := by decide +kernel
theorem dX9_stages_6 : decode cX9_stages 6 = .ok (.bipush 18, 2) := by decide +kernel
theorem dX9_stages_8 : decode cX9_stages 8 = .ok (.iload_n 1, 1) := by decide +kernel
theorem dX9_stages_9 : decode cX9_stages 9 = .ok (.imul, 1) := by decide +kernel
theorem dX9_stages_10 : decode cX9_stages 10 = .ok (.iadd, 1) := by decide +kernel
theorem dX9_stages_11 : decode cX9_stages 11 = .ok (.iconst 1, 1) := by decide +kernel
theorem dX9_stages_12 : decode cX9_stages 12 = .ok (.iadd, 1) := by decide +kernel
theorem dX9_stages_13 : decode cX9_stages 13 = .ok (.iaload, 1) := by decide +kernel
theorem dX9_stages_14 : decode cX9_stages 14 = .ok (.ireturn, 1) := by decide +kernel
theorem dX9_ofStage_0 : decode cX9_ofStage 0 = .ok (.aload_n 0, 1) := by decide +kernel
theorem dX9_ofStage_1 : decode cX9_ofStage 1 = .ok (.getfield 7, 3) := by decide +kernel
theorem dX9_ofStage_4 : decode cX9_ofStage 4 = .ok (.bipush 31, 2) := by decide +kernel
theorem dX9_ofStage_6 : decode cX9_ofStage 6 = .ok (.bipush 18, 2) := by decide +kernel
theorem dX9_ofStage_8 : decode cX9_ofStage 8 = .ok (.iload_n 1, 1) := by decide +kernel
theorem dX9_ofStage_9 : decode cX9_ofStage 9 = .ok (.imul, 1) := by decide +kernel
theorem dX9_ofStage_10 : decode cX9_ofStage 10 = .ok (.iadd, 1) := by decide +kernel
theorem dX9_ofStage_11 : decode cX9_ofStage 11 = .ok (.iconst 2, 1) := by decide +kernel
theorem dX9_ofStage_12 : decode cX9_ofStage 12 = .ok (.iadd, 1) := by decide +kernel
theorem dX9_ofStage_13 : decode cX9_ofStage 13 = .ok (.iconst 4, 1) := by decide +kernel
theorem dX9_ofStage_14 : decode cX9_ofStage 14 = .ok (.iload_n 2, 1) := by decide +kernel
theorem dX9_ofStage_15 : decode cX9_ofStage 15 = .ok (.imul, 1) := by decide +kernel
theorem dX9_ofStage_16 : decode cX9_ofStage 16 = .ok (.iadd, 1) := by decide +kernel
theorem dX9_ofStage_17 : decode cX9_ofStage 17 = .ok (.iload_n 3, 1) := by decide +kernel
theorem dX9_ofStage_18 : decode cX9_ofStage 18 = .ok (.iadd, 1) := by decide +kernel
theorem dX9_ofStage_19 : decode cX9_ofStage 19 = .ok (.iaload, 1) := by decide +kernel
theorem dX9_ofStage_20 : decode cX9_ofStage 20 = .ok (.ireturn, 1) := by decide +kernel
theorem dX9_recipe_0 : decode cX9_recipe 0 = .ok (.iload_n 1, 1) := by decide +kernel
theorem dX9_recipe_1 : decode cX9_recipe 1 = .ok (.iconst 0, 1) := by decide +kernel
theorem dX9_recipe_2 : decode cX9_recipe 2 = .ok (.iconst 3, 1) := by decide +kernel
theorem dX9_recipe_3 : decode cX9_recipe 3 = .ok (.invokestatic 33, 3) := by decide +kernel
theorem dX9_recipe_6 : decode cX9_recipe 6 = .ok (.ifCond .ne 5, 3) := by decide +kernel
theorem dX9_recipe_9 : decode cX9_recipe 9 = .ok (.iconst (-1), 1) := by decide +kernel
theorem dX9_recipe_10 : decode cX9_recipe 10 = .ok (.ireturn, 1) := by decide +kernel
theorem dX9_recipe_11 : decode cX9_recipe 11 = .ok (.aload_n 0, 1) := by decide +kernel
theorem dX9_recipe_12 : decode cX9_recipe 12 = .ok (.getfield 7, 3) := by decide +kernel
theorem dX9_recipe_15 : decode cX9_recipe 15 = .ok (.iconst 2, 1) := by decide +kernel
theorem dX9_recipe_16 : decode cX9_recipe 16 = .ok (.iaload, 1) := by decide +kernel
theorem dX9_recipe_17 : decode cX9_recipe 17 = .ok (.istore_n 2, 1) := by decide +kernel
theorem dX9_recipe_18 : decode cX9_recipe 18 = .ok (.iload_n 2, 1) := by decide +kernel
theorem dX9_recipe_19 : decode cX9_recipe 19 = .ok (.iconst 4, 1) := by decide +kernel
theorem dX9_recipe_20 : decode cX9_recipe 20 = .ok (.if_icmp .ne 6, 3) := by decide +kernel
theorem dX9_recipe_23 : decode cX9_recipe 23 = .ok (.bipush (-3), 2) := by decide +kernel
theorem dX9_recipe_25 : decode cX9_recipe 25 = .ok (.ireturn, 1) := by decide +kernel
theorem dX9_recipe_26 : decode cX9_recipe 26 = .ok (.aload_n 0, 1) := by decide +kernel
theorem dX9_recipe_27 : decode cX9_recipe 27 = .ok (.invokevirtual 41, 3) := by decide +kernel
theorem dX9_recipe_30 : decode cX9_recipe 30 = .ok (.aload_n 0, 1) := by decide +kernel
theorem dX9_recipe_31 : decode cX9_recipe 31 = .ok (.getfield 7, 3) := by decide +kernel
theorem dX9_recipe_34 : decode cX9_recipe 34 = .ok (.bipush 31, 2) := by decide +kernel
theorem dX9_recipe_36 : decode cX9_recipe 36 = .ok (.bipush 18, 2) := by decide +kernel
theorem dX9_recipe_38 : decode cX9_recipe 38 = .ok (.iload_n 2, 1) := by decide +kernel
theorem dX9_recipe_39 : decode cX9_recipe 39 = .ok (.imul, 1) := by decide +kernel
theorem dX9_recipe_40 : decode cX9_recipe 40 = .ok (.iadd, 1) := by decide +kernel
theorem dX9_recipe_41 : decode cX9_recipe 41 = .ok (.iload_n 1, 1) := by decide +kernel
theorem dX9_recipe_42 : decode cX9_recipe 42 = .ok (.iastore, 1) := by decide +kernel
theorem dX9_recipe_43 : decode cX9_recipe 43 = .ok (.aload_n 0, 1) := by decide +kernel
theorem dX9_recipe_44 : decode cX9_recipe 44 = .ok (.getfield 7, 3) := by decide +kernel
theorem dX9_recipe_47 : decode cX9_recipe 47 = .ok (.bipush 31, 2) := by decide +kernel
theorem dX9_recipe_49 : decode cX9_recipe 49 = .ok (.bipush 18, 2) := by decide +kernel
theorem dX9_recipe_51 : decode cX9_recipe 51 = .ok (.iload_n 2, 1) := by decide +kernel
theorem dX9_recipe_52 : decode cX9_recipe 52 = .ok (.imul, 1) := by decide +kernel
theorem dX9_recipe_53 : decode cX9_recipe 53 = .ok (.iadd, 1) := by decide +kernel
theorem dX9_recipe_54 : decode cX9_recipe 54 = .ok (.iconst 1, 1) := by decide +kernel
theorem dX9_recipe_55 : decode cX9_recipe 55 = .ok (.iadd, 1) := by decide +kernel
theorem dX9_recipe_56 : decode cX9_recipe 56 = .ok (.iconst 0, 1) := by decide +kernel
theorem dX9_recipe_57 : decode cX9_recipe 57 = .ok (.iastore, 1) := by decide +kernel
theorem dX9_recipe_58 : decode cX9_recipe 58 = .ok (.aload_n 0, 1) := by decide +kernel
theorem dX9_recipe_59 : decode cX9_recipe 59 = .ok (.getfield 7, 3) := by decide +kernel
theorem dX9_recipe_62 : decode cX9_recipe 62 = .ok (.iconst 2, 1) := by decide +kernel
theorem dX9_recipe_63 : decode cX9_recipe 63 = .ok (.dup2, 1) := by decide +kernel
theorem dX9_recipe_64 : decode cX9_recipe 64 = .ok (.iaload, 1) := by decide +kernel
theorem dX9_recipe_65 : decode cX9_recipe 65 = .ok (.iconst 1, 1) := by decide +kernel
theorem dX9_recipe_66 : decode cX9_recipe 66 = .ok (.iadd, 1) := by decide +kernel
theorem dX9_recipe_67 : decode cX9_recipe 67 = .ok (.iastore, 1) := by decide +kernel
theorem dX9_recipe_68 : decode cX9_recipe 68 = .ok (.iload_n 2, 1) := by decide +kernel
theorem dX9_recipe_69 : decode cX9_recipe 69 = .ok (.ireturn, 1) := by decide +kernel
theorem dX9_isMade_0 : decode cX9_isMade 0 = .ok (.iconst 0, 1) := by decide +kernel
theorem dX9_isMade_1 : decode cX9_isMade 1 = .ok (.istore_n 2, 1) := by decide +kernel
theorem dX9_isMade_2 : decode cX9_isMade 2 = .ok (.iconst 0, 1) := by decide +kernel
theorem dX9_isMade_3 : decode cX9_isMade 3 = .ok (.istore_n 3, 1) := by decide +kernel
theorem dX9_isMade_4 : decode cX9_isMade 4 = .ok (.iload_n 3, 1) := by decide +kernel
theorem dX9_isMade_5 : decode cX9_isMade 5 = .ok (.bipush 6, 2) := by decide +kernel
theorem dX9_isMade_7 : decode cX9_isMade 7 = .ok (.if_icmp .ge 37, 3) := by decide +kernel
theorem dX9_isMade_10 : decode cX9_isMade 10 = .ok (.iload_n 2, 1) := by decide +kernel
theorem dX9_isMade_11 : decode cX9_isMade 11 = .ok (.ifCond .ne 21, 3) := by decide +kernel
theorem dX9_isMade_14 : decode cX9_isMade 14 = .ok (.aload_n 0, 1) := by decide +kernel
theorem dX9_isMade_15 : decode cX9_isMade 15 = .ok (.iload_n 3, 1) := by decide +kernel
theorem dX9_isMade_16 : decode cX9_isMade 16 = .ok (.invokevirtual 44, 3) := by decide +kernel
theorem dX9_isMade_19 : decode cX9_isMade 19 = .ok (.ifCond .eq 17, 3) := by decide +kernel
theorem dX9_isMade_22 : decode cX9_isMade 22 = .ok (.aload_n 0, 1) := by decide +kernel
theorem dX9_isMade_23 : decode cX9_isMade 23 = .ok (.iload_n 3, 1) := by decide +kernel
theorem dX9_isMade_24 : decode cX9_isMade 24 = .ok (.iconst 1, 1) := by decide +kernel
theorem dX9_isMade_25 : decode cX9_isMade 25 = .ok (.invokevirtual 37, 3) := by decide +kernel
theorem dX9_isMade_28 : decode cX9_isMade 28 = .ok (.iload_n 1, 1) := by decide +kernel
theorem dX9_isMade_29 : decode cX9_isMade 29 = .ok (.if_icmp .ne 7, 3) := by decide +kernel
theorem dX9_isMade_32 : decode cX9_isMade 32 = .ok (.iconst 1, 1) := by decide +kernel
theorem dX9_isMade_33 : decode cX9_isMade 33 = .ok (.goto 4, 3) := by decide +kernel
theorem dX9_isMade_36 : decode cX9_isMade 36 = .ok (.iconst 0, 1) := by decide +kernel
theorem dX9_isMade_37 : decode cX9_isMade 37 = .ok (.istore_n 2, 1) := by decide +kernel
theorem dX9_isMade_38 : decode cX9_isMade 38 = .ok (.iinc 3 1, 3) := by decide +kernel
theorem dX9_isMade_41 : decode cX9_isMade 41 = .ok (.goto (-37), 3) := by decide +kernel
theorem dX9_isMade_44 : decode cX9_isMade 44 = .ok (.iload_n 2, 1) := by decide +kernel
theorem dX9_isMade_45 : decode cX9_isMade 45 = .ok (.ireturn, 1) := by decide +kernel
theorem dX9_stage_0 : decode cX9_stage 0 = .ok (.aload_n 0, 1) := by decide +kernel
theorem dX9_stage_1 : decode cX9_stage 1 = .ok (.iload_n 1, 1) := by decide +kernel
theorem dX9_stage_2 : decode cX9_stage 2 = .ok (.invokevirtual 48, 3) := by decide +kernel
theorem dX9_stage_5 : decode cX9_stage 5 = .ok (.ifCond .eq 48, 3) := by decide +kernel
theorem dX9_stage_8 : decode cX9_stage 8 = .ok (.iload_n 2, 1) := by decide +kernel
theorem dX9_stage_9 : decode cX9_stage 9 = .ok (.iconst 0, 1) := by decide +kernel
theorem dX9_stage_10 : decode cX9_stage 10 = .ok (.iconst 2, 1) := by decide +kernel
theorem dX9_stage_11 : decode cX9_stage 11 = .ok (.invokestatic 33, 3) := by decide +kernel
theorem dX9_stage_14 : decode cX9_stage 14 = .ok (.ifCond .eq 39, 3) := by decide +kernel
theorem dX9_stage_17 : decode cX9_stage 17 = .ok (.iload_n 3, 1) := by decide +kernel
theorem dX9_stage_18 : decode cX9_stage 18 = .ok (.iconst 1, 1) := by decide +kernel
theorem dX9_stage_19 : decode cX9_stage 19 = .ok (.sipush 200, 3) := by decide +kernel
theorem dX9_stage_22 : decode cX9_stage 22 = .ok (.invokestatic 33, 3) := by decide +kernel
theorem dX9_stage_25 : decode cX9_stage 25 = .ok (.ifCond .eq 28, 3) := by decide +kernel
theorem dX9_stage_28 : decode cX9_stage 28 = .ok (.iload 4, 2) := by decide +kernel
theorem dX9_stage_30 : decode cX9_stage 30 = .ok (.iconst 0, 1) := by decide +kernel
theorem dX9_stage_31 : decode cX9_stage 31 = .ok (.sipush 500, 3) := by decide +kernel
theorem dX9_stage_34 : decode cX9_stage 34 = .ok (.invokestatic 33, 3) := by decide +kernel
theorem dX9_stage_37 : decode cX9_stage 37 = .ok (.ifCond .eq 16, 3) := by decide +kernel
theorem dX9_stage_40 : decode cX9_stage 40 = .ok (.iload 5, 2) := by decide +kernel
theorem dX9_stage_42 : decode cX9_stage 42 = .ok (.iload 4, 2) := by decide +kernel
theorem dX9_stage_44 : decode cX9_stage 44 = .ok (.sipush 500, 3) := by decide +kernel
theorem dX9_stage_47 : decode cX9_stage 47 = .ok (.invokestatic 33, 3) := by decide +kernel
theorem dX9_stage_50 : decode cX9_stage 50 = .ok (.ifCond .ne 5, 3) := by decide +kernel
theorem dX9_stage_53 : decode cX9_stage 53 = .ok (.iconst (-1), 1) := by decide +kernel
theorem dX9_stage_54 : decode cX9_stage 54 = .ok (.ireturn, 1) := by decide +kernel
theorem dX9_stage_55 : decode cX9_stage 55 = .ok (.aload_n 0, 1) := by decide +kernel
theorem dX9_stage_56 : decode cX9_stage 56 = .ok (.iload_n 1, 1) := by decide +kernel
theorem dX9_stage_57 : decode cX9_stage 57 = .ok (.invokevirtual 51, 3) := by decide +kernel
theorem dX9_stage_60 : decode cX9_stage 60 = .ok (.ifCond .eq 6, 3) := by decide +kernel
theorem dX9_stage_63 : decode cX9_stage 63 = .ok (.bipush (-2), 2) := by decide +kernel
theorem dX9_stage_65 : decode cX9_stage 65 = .ok (.ireturn, 1) := by decide +kernel
theorem dX9_stage_66 : decode cX9_stage 66 = .ok (.aload_n 0, 1) := by decide +kernel
theorem dX9_stage_67 : decode cX9_stage 67 = .ok (.iload_n 1, 1) := by decide +kernel
theorem dX9_stage_68 : decode cX9_stage 68 = .ok (.invokevirtual 54, 3) := by decide +kernel
theorem dX9_stage_71 : decode cX9_stage 71 = .ok (.istore 6, 2) := by decide +kernel
theorem dX9_stage_73 : decode cX9_stage 73 = .ok (.iload 6, 2) := by decide +kernel
theorem dX9_stage_75 : decode cX9_stage 75 = .ok (.iconst 4, 1) := by decide +kernel
theorem dX9_stage_76 : decode cX9_stage 76 = .ok (.if_icmp .ne 6, 3) := by decide +kernel
theorem dX9_stage_79 : decode cX9_stage 79 = .ok (.bipush (-3), 2) := by decide +kernel
theorem dX9_stage_81 : decode cX9_stage 81 = .ok (.ireturn, 1) := by decide +kernel
theorem dX9_stage_82 : decode cX9_stage 82 = .ok (.aload_n 0, 1) := by decide +kernel
theorem dX9_stage_83 : decode cX9_stage 83 = .ok (.invokevirtual 41, 3) := by decide +kernel
theorem dX9_stage_86 : decode cX9_stage 86 = .ok (.bipush 31, 2) := by decide +kernel
theorem dX9_stage_88 : decode cX9_stage 88 = .ok (.bipush 18, 2) := by decide +kernel
theorem dX9_stage_90 : decode cX9_stage 90 = .ok (.iload_n 1, 1) := by decide +kernel
theorem dX9_stage_91 : decode cX9_stage 91 = .ok (.imul, 1) := by decide +kernel
theorem dX9_stage_92 : decode cX9_stage 92 = .ok (.iadd, 1) := by decide +kernel
theorem dX9_stage_93 : decode cX9_stage 93 = .ok (.iconst 2, 1) := by decide +kernel
theorem dX9_stage_94 : decode cX9_stage 94 = .ok (.iadd, 1) := by decide +kernel
theorem dX9_stage_95 : decode cX9_stage 95 = .ok (.iconst 4, 1) := by decide +kernel
theorem dX9_stage_96 : decode cX9_stage 96 = .ok (.iload 6, 2) := by decide +kernel
theorem dX9_stage_98 : decode cX9_stage 98 = .ok (.imul, 1) := by decide +kernel
theorem dX9_stage_99 : decode cX9_stage 99 = .ok (.iadd, 1) := by decide +kernel
theorem dX9_stage_100 : decode cX9_stage 100 = .ok (.istore 7, 2) := by decide +kernel
theorem dX9_stage_102 : decode cX9_stage 102 = .ok (.aload_n 0, 1) := by decide +kernel
theorem dX9_stage_103 : decode cX9_stage 103 = .ok (.getfield 7, 3) := by decide +kernel
theorem dX9_stage_106 : decode cX9_stage 106 = .ok (.iload 7, 2) := by decide +kernel
theorem dX9_stage_108 : decode cX9_stage 108 = .ok (.iload_n 2, 1) := by decide +kernel
theorem dX9_stage_109 : decode cX9_stage 109 = .ok (.iastore, 1) := by decide +kernel
theorem dX9_stage_110 : decode cX9_stage 110 = .ok (.aload_n 0, 1) := by decide +kernel
theorem dX9_stage_111 : decode cX9_stage 111 = .ok (.getfield 7, 3) := by decide +kernel
theorem dX9_stage_114 : decode cX9_stage 114 = .ok (.iload 7, 2) := by decide +kernel
theorem dX9_stage_116 : decode cX9_stage 116 = .ok (.iconst 1, 1) := by decide +kernel
theorem dX9_stage_117 : decode cX9_stage 117 = .ok (.iadd, 1) := by decide +kernel
theorem dX9_stage_118 : decode cX9_stage 118 = .ok (.iload_n 3, 1) := by decide +kernel
theorem dX9_stage_119 : decode cX9_stage 119 = .ok (.iastore, 1) := by decide +kernel
theorem dX9_stage_120 : decode cX9_stage 120 = .ok (.aload_n 0, 1) := by decide +kernel
theorem dX9_stage_121 : decode cX9_stage 121 = .ok (.getfield 7, 3) := by decide +kernel
theorem dX9_stage_124 : decode cX9_stage 124 = .ok (.iload 7, 2) := by decide +kernel
theorem dX9_stage_126 : decode cX9_stage 126 = .ok (.iconst 2, 1) := by decide +kernel
theorem dX9_stage_127 : decode cX9_stage 127 = .ok (.iadd, 1) := by decide +kernel
theorem dX9_stage_128 : decode cX9_stage 128 = .ok (.iload 4, 2) := by decide +kernel
theorem dX9_stage_130 : decode cX9_stage 130 = .ok (.iastore, 1) := by decide +kernel
theorem dX9_stage_131 : decode cX9_stage 131 = .ok (.aload_n 0, 1) := by decide +kernel
theorem dX9_stage_132 : decode cX9_stage 132 = .ok (.getfield 7, 3) := by decide +kernel
theorem dX9_stage_135 : decode cX9_stage 135 = .ok (.iload 7, 2) := by decide +kernel
theorem dX9_stage_137 : decode cX9_stage 137 = .ok (.iconst 3, 1) := by decide +kernel
theorem dX9_stage_138 : decode cX9_stage 138 = .ok (.iadd, 1) := by decide +kernel
theorem dX9_stage_139 : decode cX9_stage 139 = .ok (.iload 5, 2) := by decide +kernel
theorem dX9_stage_141 : decode cX9_stage 141 = .ok (.iastore, 1) := by decide +kernel
theorem dX9_stage_142 : decode cX9_stage 142 = .ok (.aload_n 0, 1) := by decide +kernel
theorem dX9_stage_143 : decode cX9_stage 143 = .ok (.getfield 7, 3) := by decide +kernel
theorem dX9_stage_146 : decode cX9_stage 146 = .ok (.bipush 31, 2) := by decide +kernel
theorem dX9_stage_148 : decode cX9_stage 148 = .ok (.bipush 18, 2) := by decide +kernel
theorem dX9_stage_150 : decode cX9_stage 150 = .ok (.iload_n 1, 1) := by decide +kernel
theorem dX9_stage_151 : decode cX9_stage 151 = .ok (.imul, 1) := by decide +kernel
theorem dX9_stage_152 : decode cX9_stage 152 = .ok (.iadd, 1) := by decide +kernel
theorem dX9_stage_153 : decode cX9_stage 153 = .ok (.iconst 1, 1) := by decide +kernel
theorem dX9_stage_154 : decode cX9_stage 154 = .ok (.iadd, 1) := by decide +kernel
theorem dX9_stage_155 : decode cX9_stage 155 = .ok (.dup2, 1) := by decide +kernel
theorem dX9_stage_156 : decode cX9_stage 156 = .ok (.iaload, 1) := by decide +kernel
theorem dX9_stage_157 : decode cX9_stage 157 = .ok (.iconst 1, 1) := by decide +kernel
theorem dX9_stage_158 : decode cX9_stage 158 = .ok (.iadd, 1) := by decide +kernel
theorem dX9_stage_159 : decode cX9_stage 159 = .ok (.iastore, 1) := by decide +kernel
theorem dX9_stage_160 : decode cX9_stage 160 = .ok (.iload 6, 2) := by decide +kernel
theorem dX9_stage_162 : decode cX9_stage 162 = .ok (.ireturn, 1) := by decide +kernel
theorem dX9_vessel_0 : decode cX9_vessel 0 = .ok (.iload_n 1, 1) := by decide +kernel
theorem dX9_vessel_1 : decode cX9_vessel 1 = .ok (.iconst 0, 1) := by decide +kernel
theorem dX9_vessel_2 : decode cX9_vessel 2 = .ok (.iconst 2, 1) := by decide +kernel
theorem dX9_vessel_3 : decode cX9_vessel 3 = .ok (.invokestatic 33, 3) := by decide +kernel
theorem dX9_vessel_6 : decode cX9_vessel 6 = .ok (.ifCond .eq 14, 3) := by decide +kernel
theorem dX9_vessel_9 : decode cX9_vessel 9 = .ok (.iload_n 2, 1) := by decide +kernel
theorem dX9_vessel_10 : decode cX9_vessel 10 = .ok (.iconst 1, 1) := by decide +kernel
theorem dX9_vessel_11 : decode cX9_vessel 11 = .ok (.sipush 999, 3) := by decide +kernel
theorem dX9_vessel_14 : decode cX9_vessel 14 = .ok (.invokestatic 33, 3) := by decide +kernel
theorem dX9_vessel_17 : decode cX9_vessel 17 = .ok (.ifCond .ne 5, 3) := by decide +kernel
theorem dX9_vessel_20 : decode cX9_vessel 20 = .ok (.iconst (-1), 1) := by decide +kernel
theorem dX9_vessel_21 : decode cX9_vessel 21 = .ok (.ireturn, 1) := by decide +kernel
theorem dX9_vessel_22 : decode cX9_vessel 22 = .ok (.aload_n 0, 1) := by decide +kernel
theorem dX9_vessel_23 : decode cX9_vessel 23 = .ok (.getfield 7, 3) := by decide +kernel
theorem dX9_vessel_26 : decode cX9_vessel 26 = .ok (.iconst 3, 1) := by decide +kernel
theorem dX9_vessel_27 : decode cX9_vessel 27 = .ok (.iaload, 1) := by decide +kernel
theorem dX9_vessel_28 : decode cX9_vessel 28 = .ok (.istore_n 3, 1) := by decide +kernel
theorem dX9_vessel_29 : decode cX9_vessel 29 = .ok (.iload_n 3, 1) := by decide +kernel
theorem dX9_vessel_30 : decode cX9_vessel 30 = .ok (.bipush 6, 2) := by decide +kernel
theorem dX9_vessel_32 : decode cX9_vessel 32 = .ok (.if_icmp .ne 6, 3) := by decide +kernel
theorem dX9_vessel_35 : decode cX9_vessel 35 = .ok (.bipush (-3), 2) := by decide +kernel
theorem dX9_vessel_37 : decode cX9_vessel 37 = .ok (.ireturn, 1) := by decide +kernel
theorem dX9_vessel_38 : decode cX9_vessel 38 = .ok (.aload_n 0, 1) := by decide +kernel
theorem dX9_vessel_39 : decode cX9_vessel 39 = .ok (.invokevirtual 41, 3) := by decide +kernel
theorem dX9_vessel_42 : decode cX9_vessel 42 = .ok (.aload_n 0, 1) := by decide +kernel
theorem dX9_vessel_43 : decode cX9_vessel 43 = .ok (.iload_n 3, 1) := by decide +kernel
theorem dX9_vessel_44 : decode cX9_vessel 44 = .ok (.iconst 0, 1) := by decide +kernel
theorem dX9_vessel_45 : decode cX9_vessel 45 = .ok (.iload_n 1, 1) := by decide +kernel
theorem dX9_vessel_46 : decode cX9_vessel 46 = .ok (.invokevirtual 58, 3) := by decide +kernel
theorem dX9_vessel_49 : decode cX9_vessel 49 = .ok (.aload_n 0, 1) := by decide +kernel
theorem dX9_vessel_50 : decode cX9_vessel 50 = .ok (.iload_n 3, 1) := by decide +kernel
theorem dX9_vessel_51 : decode cX9_vessel 51 = .ok (.iconst 1, 1) := by decide +kernel
theorem dX9_vessel_52 : decode cX9_vessel 52 = .ok (.iload_n 2, 1) := by decide +kernel
theorem dX9_vessel_53 : decode cX9_vessel 53 = .ok (.invokevirtual 58, 3) := by decide +kernel
theorem dX9_vessel_56 : decode cX9_vessel 56 = .ok (.aload_n 0, 1) := by decide +kernel
theorem dX9_vessel_57 : decode cX9_vessel 57 = .ok (.iload_n 3, 1) := by decide +kernel
theorem dX9_vessel_58 : decode cX9_vessel 58 = .ok (.iconst 2, 1) := by decide +kernel
theorem dX9_vessel_59 : decode cX9_vessel 59 = .ok (.iconst (-1), 1) := by decide +kernel
theorem dX9_vessel_60 : decode cX9_vessel 60 = .ok (.invokevirtual 58, 3) := by decide +kernel
theorem dX9_vessel_63 : decode cX9_vessel 63 = .ok (.aload_n 0, 1) := by decide +kernel
theorem dX9_vessel_64 : decode cX9_vessel 64 = .ok (.iload_n 3, 1) := by decide +kernel
theorem dX9_vessel_65 : decode cX9_vessel 65 = .ok (.iconst 3, 1) := by decide +kernel
theorem dX9_vessel_66 : decode cX9_vessel 66 = .ok (.iconst (-1), 1) := by decide +kernel
theorem dX9_vessel_67 : decode cX9_vessel 67 = .ok (.invokevirtual 58, 3) := by decide +kernel
theorem dX9_vessel_70 : decode cX9_vessel 70 = .ok (.aload_n 0, 1) := by decide +kernel
theorem dX9_vessel_71 : decode cX9_vessel 71 = .ok (.iload_n 3, 1) := by decide +kernel
theorem dX9_vessel_72 : decode cX9_vessel 72 = .ok (.iconst 4, 1) := by decide +kernel
theorem dX9_vessel_73 : decode cX9_vessel 73 = .ok (.iconst 0, 1) := by decide +kernel
theorem dX9_vessel_74 : decode cX9_vessel 74 = .ok (.invokevirtual 58, 3) := by decide +kernel
theorem dX9_vessel_77 : decode cX9_vessel 77 = .ok (.aload_n 0, 1) := by decide +kernel
theorem dX9_vessel_78 : decode cX9_vessel 78 = .ok (.getfield 7, 3) := by decide +kernel
theorem dX9_vessel_81 : decode cX9_vessel 81 = .ok (.iconst 3, 1) := by decide +kernel
theorem dX9_vessel_82 : decode cX9_vessel 82 = .ok (.dup2, 1) := by decide +kernel
theorem dX9_vessel_83 : decode cX9_vessel 83 = .ok (.iaload, 1) := by decide +kernel
theorem dX9_vessel_84 : decode cX9_vessel 84 = .ok (.iconst 1, 1) := by decide +kernel
theorem dX9_vessel_85 : decode cX9_vessel 85 = .ok (.iadd, 1) := by decide +kernel
theorem dX9_vessel_86 : decode cX9_vessel 86 = .ok (.iastore, 1) := by decide +kernel
theorem dX9_vessel_87 : decode cX9_vessel 87 = .ok (.iload_n 3, 1) := by decide +kernel
theorem dX9_vessel_88 : decode cX9_vessel 88 = .ok (.ireturn, 1) := by decide +kernel
theorem dX9_bits_0 : decode cX9_bits 0 = .ok (.iconst 0, 1) := by decide +kernel
theorem dX9_bits_1 : decode cX9_bits 1 = .ok (.istore_n 1, 1) := by decide +kernel
theorem dX9_bits_2 : decode cX9_bits 2 = .ok (.iconst 0, 1) := by decide +kernel
theorem dX9_bits_3 : decode cX9_bits 3 = .ok (.istore_n 2, 1) := by decide +kernel
theorem dX9_bits_4 : decode cX9_bits 4 = .ok (.iload_n 2, 1) := by decide +kernel
theorem dX9_bits_5 : decode cX9_bits 5 = .ok (.bipush 6, 2) := by decide +kernel
theorem dX9_bits_7 : decode cX9_bits 7 = .ok (.if_icmp .ge 17, 3) := by decide +kernel
theorem dX9_bits_10 : decode cX9_bits 10 = .ok (.iload_n 1, 1) := by decide +kernel
theorem dX9_bits_11 : decode cX9_bits 11 = .ok (.iload_n 0, 1) := by decide +kernel
theorem dX9_bits_12 : decode cX9_bits 12 = .ok (.iload_n 2, 1) := by decide +kernel
theorem dX9_bits_13 : decode cX9_bits 13 = .ok (.ishr, 1) := by decide +kernel
theorem dX9_bits_14 : decode cX9_bits 14 = .ok (.iconst 1, 1) := by decide +kernel
theorem dX9_bits_15 : decode cX9_bits 15 = .ok (.iand, 1) := by decide +kernel
theorem dX9_bits_16 : decode cX9_bits 16 = .ok (.iadd, 1) := by decide +kernel
theorem dX9_bits_17 : decode cX9_bits 17 = .ok (.istore_n 1, 1) := by decide +kernel
theorem dX9_bits_18 : decode cX9_bits 18 = .ok (.iinc 2 1, 3) := by decide +kernel
theorem dX9_bits_21 : decode cX9_bits 21 = .ok (.goto (-17), 3) := by decide +kernel
theorem dX9_bits_24 : decode cX9_bits 24 = .ok (.iload_n 1, 1) := by decide +kernel
theorem dX9_bits_25 : decode cX9_bits 25 = .ok (.ireturn, 1) := by decide +kernel
theorem dX9_line_0 : decode cX9_line 0 = .ok (.iload_n 1, 1) := by decide +kernel
theorem dX9_line_1 : decode cX9_line 1 = .ok (.iconst 0, 1) := by decide +kernel
theorem dX9_line_2 : decode cX9_line 2 = .ok (.iconst 1, 1) := by decide +kernel
theorem dX9_line_3 : decode cX9_line 3 = .ok (.aload_n 0, 1) := by decide +kernel
theorem dX9_line_4 : decode cX9_line 4 = .ok (.getfield 7, 3) := by decide +kernel
theorem dX9_line_7 : decode cX9_line 7 = .ok (.iconst 3, 1) := by decide +kernel
theorem dX9_line_8 : decode cX9_line 8 = .ok (.iaload, 1) := by decide +kernel
theorem dX9_line_9 : decode cX9_line 9 = .ok (.ishl, 1) := by decide +kernel
theorem dX9_line_10 : decode cX9_line 10 = .ok (.iconst 1, 1) := by decide +kernel
theorem dX9_line_11 : decode cX9_line 11 = .ok (.isub, 1) := by decide +kernel
theorem dX9_line_12 : decode cX9_line 12 = .ok (.invokestatic 33, 3) := by decide +kernel
theorem dX9_line_15 : decode cX9_line 15 = .ok (.ifCond .eq 21, 3) := by decide +kernel
theorem dX9_line_18 : decode cX9_line 18 = .ok (.iload_n 1, 1) := by decide +kernel
theorem dX9_line_19 : decode cX9_line 19 = .ok (.invokestatic 62, 3) := by decide +kernel
theorem dX9_line_22 : decode cX9_line 22 = .ok (.iconst 2, 1) := by decide +kernel
theorem dX9_line_23 : decode cX9_line 23 = .ok (.if_icmp .lt 13, 3) := by decide +kernel
theorem dX9_line_26 : decode cX9_line 26 = .ok (.iload_n 2, 1) := by decide +kernel
theorem dX9_line_27 : decode cX9_line 27 = .ok (.iconst 1, 1) := by decide +kernel
theorem dX9_line_28 : decode cX9_line 28 = .ok (.bipush 99, 2) := by decide +kernel
theorem dX9_line_30 : decode cX9_line 30 = .ok (.invokestatic 33, 3) := by decide +kernel
theorem dX9_line_33 : decode cX9_line 33 = .ok (.ifCond .ne 5, 3) := by decide +kernel
theorem dX9_line_36 : decode cX9_line 36 = .ok (.iconst (-1), 1) := by decide +kernel
theorem dX9_line_37 : decode cX9_line 37 = .ok (.ireturn, 1) := by decide +kernel
theorem dX9_line_38 : decode cX9_line 38 = .ok (.aload_n 0, 1) := by decide +kernel
theorem dX9_line_39 : decode cX9_line 39 = .ok (.getfield 7, 3) := by decide +kernel
theorem dX9_line_42 : decode cX9_line 42 = .ok (.iconst 4, 1) := by decide +kernel
theorem dX9_line_43 : decode cX9_line 43 = .ok (.iaload, 1) := by decide +kernel
theorem dX9_line_44 : decode cX9_line 44 = .ok (.istore_n 3, 1) := by decide +kernel
theorem dX9_line_45 : decode cX9_line 45 = .ok (.iload_n 3, 1) := by decide +kernel
theorem dX9_line_46 : decode cX9_line 46 = .ok (.iconst 3, 1) := by decide +kernel
theorem dX9_line_47 : decode cX9_line 47 = .ok (.if_icmp .ne 6, 3) := by decide +kernel
theorem dX9_line_50 : decode cX9_line 50 = .ok (.bipush (-3), 2) := by decide +kernel
theorem dX9_line_52 : decode cX9_line 52 = .ok (.ireturn, 1) := by decide +kernel
theorem dX9_line_53 : decode cX9_line 53 = .ok (.aload_n 0, 1) := by decide +kernel
theorem dX9_line_54 : decode cX9_line 54 = .ok (.invokevirtual 41, 3) := by decide +kernel
theorem dX9_line_57 : decode cX9_line 57 = .ok (.aload_n 0, 1) := by decide +kernel
theorem dX9_line_58 : decode cX9_line 58 = .ok (.getfield 7, 3) := by decide +kernel
theorem dX9_line_61 : decode cX9_line 61 = .ok (.sipush 133, 3) := by decide +kernel
theorem dX9_line_64 : decode cX9_line 64 = .ok (.iconst 4, 1) := by decide +kernel
theorem dX9_line_65 : decode cX9_line 65 = .ok (.iload_n 3, 1) := by decide +kernel
theorem dX9_line_66 : decode cX9_line 66 = .ok (.imul, 1) := by decide +kernel
theorem dX9_line_67 : decode cX9_line 67 = .ok (.iadd, 1) := by decide +kernel
theorem dX9_line_68 : decode cX9_line 68 = .ok (.iconst 0, 1) := by decide +kernel
theorem dX9_line_69 : decode cX9_line 69 = .ok (.iadd, 1) := by decide +kernel
theorem dX9_line_70 : decode cX9_line 70 = .ok (.iload_n 1, 1) := by decide +kernel
theorem dX9_line_71 : decode cX9_line 71 = .ok (.iastore, 1) := by decide +kernel
theorem dX9_line_72 : decode cX9_line 72 = .ok (.aload_n 0, 1) := by decide +kernel
theorem dX9_line_73 : decode cX9_line 73 = .ok (.getfield 7, 3) := by decide +kernel
theorem dX9_line_76 : decode cX9_line 76 = .ok (.sipush 133, 3) := by decide +kernel
theorem dX9_line_79 : decode cX9_line 79 = .ok (.iconst 4, 1) := by decide +kernel
theorem dX9_line_80 : decode cX9_line 80 = .ok (.iload_n 3, 1) := by decide +kernel
theorem dX9_line_81 : decode cX9_line 81 = .ok (.imul, 1) := by decide +kernel
theorem dX9_line_82 : decode cX9_line 82 = .ok (.iadd, 1) := by decide +kernel
theorem dX9_line_83 : decode cX9_line 83 = .ok (.iconst 1, 1) := by decide +kernel
theorem dX9_line_84 : decode cX9_line 84 = .ok (.iadd, 1) := by decide +kernel
theorem dX9_line_85 : decode cX9_line 85 = .ok (.iload_n 2, 1) := by decide +kernel
theorem dX9_line_86 : decode cX9_line 86 = .ok (.iastore, 1) := by decide +kernel
theorem dX9_line_87 : decode cX9_line 87 = .ok (.aload_n 0, 1) := by decide +kernel
theorem dX9_line_88 : decode cX9_line 88 = .ok (.getfield 7, 3) := by decide +kernel
theorem dX9_line_91 : decode cX9_line 91 = .ok (.sipush 133, 3) := by decide +kernel
theorem dX9_line_94 : decode cX9_line 94 = .ok (.iconst 4, 1) := by decide +kernel
theorem dX9_line_95 : decode cX9_line 95 = .ok (.iload_n 3, 1) := by decide +kernel
theorem dX9_line_96 : decode cX9_line 96 = .ok (.imul, 1) := by decide +kernel
theorem dX9_line_97 : decode cX9_line 97 = .ok (.iadd, 1) := by decide +kernel
theorem dX9_line_98 : decode cX9_line 98 = .ok (.iconst 2, 1) := by decide +kernel
theorem dX9_line_99 : decode cX9_line 99 = .ok (.iadd, 1) := by decide +kernel
theorem dX9_line_100 : decode cX9_line 100 = .ok (.iconst 0, 1) := by decide +kernel
theorem dX9_line_101 : decode cX9_line 101 = .ok (.iastore, 1) := by decide +kernel
theorem dX9_line_102 : decode cX9_line 102 = .ok (.aload_n 0, 1) := by decide +kernel
theorem dX9_line_103 : decode cX9_line 103 = .ok (.getfield 7, 3) := by decide +kernel
theorem dX9_line_106 : decode cX9_line 106 = .ok (.sipush 133, 3) := by decide +kernel
theorem dX9_line_109 : decode cX9_line 109 = .ok (.iconst 4, 1) := by decide +kernel
theorem dX9_line_110 : decode cX9_line 110 = .ok (.iload_n 3, 1) := by decide +kernel
theorem dX9_line_111 : decode cX9_line 111 = .ok (.imul, 1) := by decide +kernel
theorem dX9_line_112 : decode cX9_line 112 = .ok (.iadd, 1) := by decide +kernel
theorem dX9_line_113 : decode cX9_line 113 = .ok (.iconst 3, 1) := by decide +kernel
theorem dX9_line_114 : decode cX9_line 114 = .ok (.iadd, 1) := by decide +kernel
theorem dX9_line_115 : decode cX9_line 115 = .ok (.iconst 0, 1) := by decide +kernel
theorem dX9_line_116 : decode cX9_line 116 = .ok (.iastore, 1) := by decide +kernel
theorem dX9_line_117 : decode cX9_line 117 = .ok (.aload_n 0, 1) := by decide +kernel
theorem dX9_line_118 : decode cX9_line 118 = .ok (.getfield 7, 3) := by decide +kernel
theorem dX9_line_121 : decode cX9_line 121 = .ok (.iconst 4, 1) := by decide +kernel
theorem dX9_line_122 : decode cX9_line 122 = .ok (.dup2, 1) := by decide +kernel
theorem dX9_line_123 : decode cX9_line 123 = .ok (.iaload, 1) := by decide +kernel
theorem dX9_line_124 : decode cX9_line 124 = .ok (.iconst 1, 1) := by decide +kernel
theorem dX9_line_125 : decode cX9_line 125 = .ok (.iadd, 1) := by decide +kernel
theorem dX9_line_126 : decode cX9_line 126 = .ok (.iastore, 1) := by decide +kernel
theorem dX9_line_127 : decode cX9_line 127 = .ok (.iload_n 3, 1) := by decide +kernel
theorem dX9_line_128 : decode cX9_line 128 = .ok (.ireturn, 1) := by decide +kernel
theorem dX9_cleaning_0 : decode cX9_cleaning 0 = .ok (.iload_n 1, 1) := by decide +kernel
theorem dX9_cleaning_1 : decode cX9_cleaning 1 = .ok (.iconst 0, 1) := by decide +kernel
theorem dX9_cleaning_2 : decode cX9_cleaning 2 = .ok (.iconst 3, 1) := by decide +kernel
theorem dX9_cleaning_3 : decode cX9_cleaning 3 = .ok (.invokestatic 33, 3) := by decide +kernel
theorem dX9_cleaning_6 : decode cX9_cleaning 6 = .ok (.ifCond .eq 22, 3) := by decide +kernel
theorem dX9_cleaning_9 : decode cX9_cleaning 9 = .ok (.iload_n 2, 1) := by decide +kernel
theorem dX9_cleaning_10 : decode cX9_cleaning 10 = .ok (.iconst 0, 1) := by decide +kernel
theorem dX9_cleaning_11 : decode cX9_cleaning 11 = .ok (.iconst 3, 1) := by decide +kernel
theorem dX9_cleaning_12 : decode cX9_cleaning 12 = .ok (.invokestatic 33, 3) := by decide +kernel
theorem dX9_cleaning_15 : decode cX9_cleaning 15 = .ok (.ifCond .eq 13, 3) := by decide +kernel
theorem dX9_cleaning_18 : decode cX9_cleaning 18 = .ok (.iload_n 3, 1) := by decide +kernel
theorem dX9_cleaning_19 : decode cX9_cleaning 19 = .ok (.iconst 0, 1) := by decide +kernel
theorem dX9_cleaning_20 : decode cX9_cleaning 20 = .ok (.bipush 99, 2) := by decide +kernel
theorem dX9_cleaning_22 : decode cX9_cleaning 22 = .ok (.invokestatic 33, 3) := by decide +kernel
theorem dX9_cleaning_25 : decode cX9_cleaning 25 = .ok (.ifCond .ne 5, 3) := by decide +kernel
theorem dX9_cleaning_28 : decode cX9_cleaning 28 = .ok (.iconst (-1), 1) := by decide +kernel
theorem dX9_cleaning_29 : decode cX9_cleaning 29 = .ok (.ireturn, 1) := by decide +kernel
theorem dX9_cleaning_30 : decode cX9_cleaning 30 = .ok (.aload_n 0, 1) := by decide +kernel
theorem dX9_cleaning_31 : decode cX9_cleaning 31 = .ok (.invokevirtual 41, 3) := by decide +kernel
theorem dX9_cleaning_34 : decode cX9_cleaning 34 = .ok (.aload_n 0, 1) := by decide +kernel
theorem dX9_cleaning_35 : decode cX9_cleaning 35 = .ok (.getfield 7, 3) := by decide +kernel
theorem dX9_cleaning_38 : decode cX9_cleaning 38 = .ok (.bipush 15, 2) := by decide +kernel
theorem dX9_cleaning_40 : decode cX9_cleaning 40 = .ok (.iconst 4, 1) := by decide +kernel
theorem dX9_cleaning_41 : decode cX9_cleaning 41 = .ok (.iload_n 1, 1) := by decide +kernel
theorem dX9_cleaning_42 : decode cX9_cleaning 42 = .ok (.imul, 1) := by decide +kernel
theorem dX9_cleaning_43 : decode cX9_cleaning 43 = .ok (.iadd, 1) := by decide +kernel
theorem dX9_cleaning_44 : decode cX9_cleaning 44 = .ok (.iload_n 2, 1) := by decide +kernel
theorem dX9_cleaning_45 : decode cX9_cleaning 45 = .ok (.iadd, 1) := by decide +kernel
theorem dX9_cleaning_46 : decode cX9_cleaning 46 = .ok (.iaload, 1) := by decide +kernel
theorem dX9_cleaning_47 : decode cX9_cleaning 47 = .ok (.istore 4, 2) := by decide +kernel
theorem dX9_cleaning_49 : decode cX9_cleaning 49 = .ok (.aload_n 0, 1) := by decide +kernel
theorem dX9_cleaning_50 : decode cX9_cleaning 50 = .ok (.getfield 7, 3) := by decide +kernel
theorem dX9_cleaning_53 : decode cX9_cleaning 53 = .ok (.bipush 15, 2) := by decide +kernel
theorem dX9_cleaning_55 : decode cX9_cleaning 55 = .ok (.iconst 4, 1) := by decide +kernel
theorem dX9_cleaning_56 : decode cX9_cleaning 56 = .ok (.iload_n 1, 1) := by decide +kernel
theorem dX9_cleaning_57 : decode cX9_cleaning 57 = .ok (.imul, 1) := by decide +kernel
theorem dX9_cleaning_58 : decode cX9_cleaning 58 = .ok (.iadd, 1) := by decide +kernel
theorem dX9_cleaning_59 : decode cX9_cleaning 59 = .ok (.iload_n 2, 1) := by decide +kernel
theorem dX9_cleaning_60 : decode cX9_cleaning 60 = .ok (.iadd, 1) := by decide +kernel
theorem dX9_cleaning_61 : decode cX9_cleaning 61 = .ok (.iload_n 3, 1) := by decide +kernel
theorem dX9_cleaning_62 : decode cX9_cleaning 62 = .ok (.iastore, 1) := by decide +kernel
theorem dX9_cleaning_63 : decode cX9_cleaning 63 = .ok (.iload 4, 2) := by decide +kernel
theorem dX9_cleaning_65 : decode cX9_cleaning 65 = .ok (.ireturn, 1) := by decide +kernel
theorem dX9_stageOf_0 : decode cX9_stageOf 0 = .ok (.aload_n 0, 1) := by decide +kernel
theorem dX9_stageOf_1 : decode cX9_stageOf 1 = .ok (.iload_n 1, 1) := by decide +kernel
theorem dX9_stageOf_2 : decode cX9_stageOf 2 = .ok (.invokevirtual 48, 3) := by decide +kernel
theorem dX9_stageOf_5 : decode cX9_stageOf 5 = .ok (.ifCond .eq 16, 3) := by decide +kernel
theorem dX9_stageOf_8 : decode cX9_stageOf 8 = .ok (.iload_n 2, 1) := by decide +kernel
theorem dX9_stageOf_9 : decode cX9_stageOf 9 = .ok (.ifCond .lt 12, 3) := by decide +kernel
theorem dX9_stageOf_12 : decode cX9_stageOf 12 = .ok (.iload_n 3, 1) := by decide +kernel
theorem dX9_stageOf_13 : decode cX9_stageOf 13 = .ok (.iconst 0, 1) := by decide +kernel
theorem dX9_stageOf_14 : decode cX9_stageOf 14 = .ok (.iconst 4, 1) := by decide +kernel
theorem dX9_stageOf_15 : decode cX9_stageOf 15 = .ok (.invokestatic 33, 3) := by decide +kernel
theorem dX9_stageOf_18 : decode cX9_stageOf 18 = .ok (.ifCond .ne 5, 3) := by decide +kernel
theorem dX9_stageOf_21 : decode cX9_stageOf 21 = .ok (.iconst (-1), 1) := by decide +kernel
theorem dX9_stageOf_22 : decode cX9_stageOf 22 = .ok (.ireturn, 1) := by decide +kernel
theorem dX9_stageOf_23 : decode cX9_stageOf 23 = .ok (.iload_n 2, 1) := by decide +kernel
theorem dX9_stageOf_24 : decode cX9_stageOf 24 = .ok (.aload_n 0, 1) := by decide +kernel
theorem dX9_stageOf_25 : decode cX9_stageOf 25 = .ok (.iload_n 1, 1) := by decide +kernel
theorem dX9_stageOf_26 : decode cX9_stageOf 26 = .ok (.invokevirtual 54, 3) := by decide +kernel
theorem dX9_stageOf_29 : decode cX9_stageOf 29 = .ok (.if_icmp .lt 8, 3) := by decide +kernel
theorem dX9_stageOf_32 : decode cX9_stageOf 32 = .ok (.bipush (-4), 2) := by decide +kernel
theorem dX9_stageOf_34 : decode cX9_stageOf 34 = .ok (.goto 23, 3) := by decide +kernel
theorem dX9_stageOf_37 : decode cX9_stageOf 37 = .ok (.iload_n 3, 1) := by decide +kernel
theorem dX9_stageOf_38 : decode cX9_stageOf 38 = .ok (.iconst 4, 1) := by decide +kernel
theorem dX9_stageOf_39 : decode cX9_stageOf 39 = .ok (.if_icmp .ne 11, 3) := by decide +kernel
theorem dX9_stageOf_42 : decode cX9_stageOf 42 = .ok (.aload_n 0, 1) := by decide +kernel
theorem dX9_stageOf_43 : decode cX9_stageOf 43 = .ok (.iload_n 1, 1) := by decide +kernel
theorem dX9_stageOf_44 : decode cX9_stageOf 44 = .ok (.invokevirtual 65, 3) := by decide +kernel
theorem dX9_stageOf_47 : decode cX9_stageOf 47 = .ok (.goto 10, 3) := by decide +kernel
theorem dX9_stageOf_50 : decode cX9_stageOf 50 = .ok (.aload_n 0, 1) := by decide +kernel
theorem dX9_stageOf_51 : decode cX9_stageOf 51 = .ok (.iload_n 1, 1) := by decide +kernel
theorem dX9_stageOf_52 : decode cX9_stageOf 52 = .ok (.iload_n 2, 1) := by decide +kernel
theorem dX9_stageOf_53 : decode cX9_stageOf 53 = .ok (.iload_n 3, 1) := by decide +kernel
theorem dX9_stageOf_54 : decode cX9_stageOf 54 = .ok (.invokevirtual 68, 3) := by decide +kernel
theorem dX9_stageOf_57 : decode cX9_stageOf 57 = .ok (.ireturn, 1) := by decide +kernel
theorem dX9_over_0 : decode cX9_over 0 = .ok (.aload_n 0, 1) := by decide +kernel
theorem dX9_over_1 : decode cX9_over 1 = .ok (.iload_n 1, 1) := by decide +kernel
theorem dX9_over_2 : decode cX9_over 2 = .ok (.iconst 5, 1) := by decide +kernel
theorem dX9_over_3 : decode cX9_over 3 = .ok (.invokevirtual 37, 3) := by decide +kernel
theorem dX9_over_6 : decode cX9_over 6 = .ok (.aload_n 0, 1) := by decide +kernel
theorem dX9_over_7 : decode cX9_over 7 = .ok (.aload_n 0, 1) := by decide +kernel
theorem dX9_over_8 : decode cX9_over 8 = .ok (.iload_n 1, 1) := by decide +kernel
theorem dX9_over_9 : decode cX9_over 9 = .ok (.iconst 1, 1) := by decide +kernel
theorem dX9_over_10 : decode cX9_over 10 = .ok (.invokevirtual 37, 3) := by decide +kernel
theorem dX9_over_13 : decode cX9_over 13 = .ok (.aload_n 0, 1) := by decide +kernel
theorem dX9_over_14 : decode cX9_over 14 = .ok (.iload_n 1, 1) := by decide +kernel
theorem dX9_over_15 : decode cX9_over 15 = .ok (.iconst 3, 1) := by decide +kernel
theorem dX9_over_16 : decode cX9_over 16 = .ok (.invokevirtual 37, 3) := by decide +kernel
theorem dX9_over_19 : decode cX9_over 19 = .ok (.iconst 1, 1) := by decide +kernel
theorem dX9_over_20 : decode cX9_over 20 = .ok (.invokevirtual 68, 3) := by decide +kernel
theorem dX9_over_23 : decode cX9_over 23 = .ok (.iadd, 1) := by decide +kernel
theorem dX9_over_24 : decode cX9_over 24 = .ok (.ireturn, 1) := by decide +kernel
theorem dX9_ripeAt_0 : decode cX9_ripeAt 0 = .ok (.aload_n 0, 1) := by decide +kernel
theorem dX9_ripeAt_1 : decode cX9_ripeAt 1 = .ok (.iload_n 1, 1) := by decide +kernel
theorem dX9_ripeAt_2 : decode cX9_ripeAt 2 = .ok (.invokevirtual 72, 3) := by decide +kernel
theorem dX9_ripeAt_5 : decode cX9_ripeAt 5 = .ok (.aload_n 0, 1) := by decide +kernel
theorem dX9_ripeAt_6 : decode cX9_ripeAt 6 = .ok (.aload_n 0, 1) := by decide +kernel
theorem dX9_ripeAt_7 : decode cX9_ripeAt 7 = .ok (.iload_n 1, 1) := by decide +kernel
theorem dX9_ripeAt_8 : decode cX9_ripeAt 8 = .ok (.iconst 1, 1) := by decide +kernel
theorem dX9_ripeAt_9 : decode cX9_ripeAt 9 = .ok (.invokevirtual 37, 3) := by decide +kernel
theorem dX9_ripeAt_12 : decode cX9_ripeAt 12 = .ok (.aload_n 0, 1) := by decide +kernel
theorem dX9_ripeAt_13 : decode cX9_ripeAt 13 = .ok (.iload_n 1, 1) := by decide +kernel
theorem dX9_ripeAt_14 : decode cX9_ripeAt 14 = .ok (.iconst 3, 1) := by decide +kernel
theorem dX9_ripeAt_15 : decode cX9_ripeAt 15 = .ok (.invokevirtual 37, 3) := by decide +kernel
theorem dX9_ripeAt_18 : decode cX9_ripeAt 18 = .ok (.iconst 2, 1) := by decide +kernel
theorem dX9_ripeAt_19 : decode cX9_ripeAt 19 = .ok (.invokevirtual 68, 3) := by decide +kernel
theorem dX9_ripeAt_22 : decode cX9_ripeAt 22 = .ok (.iadd, 1) := by decide +kernel
theorem dX9_ripeAt_23 : decode cX9_ripeAt 23 = .ok (.ireturn, 1) := by decide +kernel
theorem dX9_goodTill_0 : decode cX9_goodTill 0 = .ok (.aload_n 0, 1) := by decide +kernel
theorem dX9_goodTill_1 : decode cX9_goodTill 1 = .ok (.iload_n 1, 1) := by decide +kernel
theorem dX9_goodTill_2 : decode cX9_goodTill 2 = .ok (.invokevirtual 72, 3) := by decide +kernel
theorem dX9_goodTill_5 : decode cX9_goodTill 5 = .ok (.aload_n 0, 1) := by decide +kernel
theorem dX9_goodTill_6 : decode cX9_goodTill 6 = .ok (.aload_n 0, 1) := by decide +kernel
theorem dX9_goodTill_7 : decode cX9_goodTill 7 = .ok (.iload_n 1, 1) := by decide +kernel
theorem dX9_goodTill_8 : decode cX9_goodTill 8 = .ok (.iconst 1, 1) := by decide +kernel
theorem dX9_goodTill_9 : decode cX9_goodTill 9 = .ok (.invokevirtual 37, 3) := by decide +kernel
theorem dX9_goodTill_12 : decode cX9_goodTill 12 = .ok (.aload_n 0, 1) := by decide +kernel
theorem dX9_goodTill_13 : decode cX9_goodTill 13 = .ok (.iload_n 1, 1) := by decide +kernel
theorem dX9_goodTill_14 : decode cX9_goodTill 14 = .ok (.iconst 3, 1) := by decide +kernel
theorem dX9_goodTill_15 : decode cX9_goodTill 15 = .ok (.invokevirtual 37, 3) := by decide +kernel
theorem dX9_goodTill_18 : decode cX9_goodTill 18 = .ok (.iconst 3, 1) := by decide +kernel
theorem dX9_goodTill_19 : decode cX9_goodTill 19 = .ok (.invokevirtual 68, 3) := by decide +kernel
theorem dX9_goodTill_22 : decode cX9_goodTill 22 = .ok (.iadd, 1) := by decide +kernel
theorem dX9_goodTill_23 : decode cX9_goodTill 23 = .ok (.ireturn, 1) := by decide +kernel
theorem dX9_isRipe_0 : decode cX9_isRipe 0 = .ok (.aload_n 0, 1) := by decide +kernel
theorem dX9_isRipe_1 : decode cX9_isRipe 1 = .ok (.getfield 7, 3) := by decide +kernel
theorem dX9_isRipe_4 : decode cX9_isRipe 4 = .ok (.iconst 5, 1) := by decide +kernel
theorem dX9_isRipe_5 : decode cX9_isRipe 5 = .ok (.iaload, 1) := by decide +kernel
theorem dX9_isRipe_6 : decode cX9_isRipe 6 = .ok (.aload_n 0, 1) := by decide +kernel
theorem dX9_isRipe_7 : decode cX9_isRipe 7 = .ok (.iload_n 1, 1) := by decide +kernel
theorem dX9_isRipe_8 : decode cX9_isRipe 8 = .ok (.invokevirtual 75, 3) := by decide +kernel
theorem dX9_isRipe_11 : decode cX9_isRipe 11 = .ok (.if_icmp .lt 7, 3) := by decide +kernel
theorem dX9_isRipe_14 : decode cX9_isRipe 14 = .ok (.iconst 1, 1) := by decide +kernel
theorem dX9_isRipe_15 : decode cX9_isRipe 15 = .ok (.goto 4, 3) := by decide +kernel
theorem dX9_isRipe_18 : decode cX9_isRipe 18 = .ok (.iconst 0, 1) := by decide +kernel
theorem dX9_isRipe_19 : decode cX9_isRipe 19 = .ok (.ireturn, 1) := by decide +kernel
theorem dX9_cleans_0 : decode cX9_cleans 0 = .ok (.aload_n 0, 1) := by decide +kernel
theorem dX9_cleans_1 : decode cX9_cleans 1 = .ok (.iload_n 1, 1) := by decide +kernel
theorem dX9_cleans_2 : decode cX9_cleans 2 = .ok (.iconst 3, 1) := by decide +kernel
theorem dX9_cleans_3 : decode cX9_cleans 3 = .ok (.invokevirtual 78, 3) := by decide +kernel
theorem dX9_cleans_6 : decode cX9_cleans 6 = .ok (.ifCond .ge 7, 3) := by decide +kernel
theorem dX9_cleans_9 : decode cX9_cleans 9 = .ok (.iconst 0, 1) := by decide +kernel
theorem dX9_cleans_10 : decode cX9_cleans 10 = .ok (.goto 21, 3) := by decide +kernel
theorem dX9_cleans_13 : decode cX9_cleans 13 = .ok (.aload_n 0, 1) := by decide +kernel
theorem dX9_cleans_14 : decode cX9_cleans 14 = .ok (.getfield 7, 3) := by decide +kernel
theorem dX9_cleans_17 : decode cX9_cleans 17 = .ok (.bipush 15, 2) := by decide +kernel
theorem dX9_cleans_19 : decode cX9_cleans 19 = .ok (.iconst 4, 1) := by decide +kernel
theorem dX9_cleans_20 : decode cX9_cleans 20 = .ok (.aload_n 0, 1) := by decide +kernel
theorem dX9_cleans_21 : decode cX9_cleans 21 = .ok (.iload_n 1, 1) := by decide +kernel
theorem dX9_cleans_22 : decode cX9_cleans 22 = .ok (.iconst 3, 1) := by decide +kernel
theorem dX9_cleans_23 : decode cX9_cleans 23 = .ok (.invokevirtual 78, 3) := by decide +kernel
theorem dX9_cleans_26 : decode cX9_cleans 26 = .ok (.imul, 1) := by decide +kernel
theorem dX9_cleans_27 : decode cX9_cleans 27 = .ok (.iadd, 1) := by decide +kernel
theorem dX9_cleans_28 : decode cX9_cleans 28 = .ok (.iload_n 2, 1) := by decide +kernel
theorem dX9_cleans_29 : decode cX9_cleans 29 = .ok (.iadd, 1) := by decide +kernel
theorem dX9_cleans_30 : decode cX9_cleans 30 = .ok (.iaload, 1) := by decide +kernel
theorem dX9_cleans_31 : decode cX9_cleans 31 = .ok (.ireturn, 1) := by decide +kernel
theorem dX9_takes_0 : decode cX9_takes 0 = .ok (.aload_n 0, 1) := by decide +kernel
theorem dX9_takes_1 : decode cX9_takes 1 = .ok (.iload_n 1, 1) := by decide +kernel
theorem dX9_takes_2 : decode cX9_takes 2 = .ok (.iconst 2, 1) := by decide +kernel
theorem dX9_takes_3 : decode cX9_takes 3 = .ok (.invokevirtual 78, 3) := by decide +kernel
theorem dX9_takes_6 : decode cX9_takes 6 = .ok (.ifCond .ge 27, 3) := by decide +kernel
theorem dX9_takes_9 : decode cX9_takes 9 = .ok (.aload_n 0, 1) := by decide +kernel
theorem dX9_takes_10 : decode cX9_takes 10 = .ok (.iload_n 1, 1) := by decide +kernel
theorem dX9_takes_11 : decode cX9_takes 11 = .ok (.iconst 0, 1) := by decide +kernel
theorem dX9_takes_12 : decode cX9_takes 12 = .ok (.invokevirtual 78, 3) := by decide +kernel
theorem dX9_takes_15 : decode cX9_takes 15 = .ok (.iload_n 2, 1) := by decide +kernel
theorem dX9_takes_16 : decode cX9_takes 16 = .ok (.if_icmp .ne 17, 3) := by decide +kernel
theorem dX9_takes_19 : decode cX9_takes 19 = .ok (.aload_n 0, 1) := by decide +kernel
theorem dX9_takes_20 : decode cX9_takes 20 = .ok (.iload_n 1, 1) := by decide +kernel
theorem dX9_takes_21 : decode cX9_takes 21 = .ok (.iconst 1, 1) := by decide +kernel
theorem dX9_takes_22 : decode cX9_takes 22 = .ok (.invokevirtual 78, 3) := by decide +kernel
theorem dX9_takes_25 : decode cX9_takes 25 = .ok (.iload_n 3, 1) := by decide +kernel
theorem dX9_takes_26 : decode cX9_takes 26 = .ok (.if_icmp .lt 7, 3) := by decide +kernel
theorem dX9_takes_29 : decode cX9_takes 29 = .ok (.iconst 1, 1) := by decide +kernel
theorem dX9_takes_30 : decode cX9_takes 30 = .ok (.goto 4, 3) := by decide +kernel
theorem dX9_takes_33 : decode cX9_takes 33 = .ok (.iconst 0, 1) := by decide +kernel
theorem dX9_takes_34 : decode cX9_takes 34 = .ok (.ireturn, 1) := by decide +kernel
theorem dX9_comes_0 : decode cX9_comes 0 = .ok (.aload_n 0, 1) := by decide +kernel
theorem dX9_comes_1 : decode cX9_comes 1 = .ok (.aload_n 0, 1) := by decide +kernel
theorem dX9_comes_2 : decode cX9_comes 2 = .ok (.iload_n 1, 1) := by decide +kernel
theorem dX9_comes_3 : decode cX9_comes 3 = .ok (.iconst 1, 1) := by decide +kernel
theorem dX9_comes_4 : decode cX9_comes 4 = .ok (.invokevirtual 37, 3) := by decide +kernel
theorem dX9_comes_7 : decode cX9_comes 7 = .ok (.invokevirtual 65, 3) := by decide +kernel
theorem dX9_comes_10 : decode cX9_comes 10 = .ok (.istore_n 3, 1) := by decide +kernel
theorem dX9_comes_11 : decode cX9_comes 11 = .ok (.aload_n 0, 1) := by decide +kernel
theorem dX9_comes_12 : decode cX9_comes 12 = .ok (.iload_n 2, 1) := by decide +kernel
theorem dX9_comes_13 : decode cX9_comes 13 = .ok (.iload_n 3, 1) := by decide +kernel
theorem dX9_comes_14 : decode cX9_comes 14 = .ok (.invokevirtual 81, 3) := by decide +kernel
theorem dX9_comes_17 : decode cX9_comes 17 = .ok (.istore 4, 2) := by decide +kernel
theorem dX9_comes_19 : decode cX9_comes 19 = .ok (.aload_n 0, 1) := by decide +kernel
theorem dX9_comes_20 : decode cX9_comes 20 = .ok (.iload_n 2, 1) := by decide +kernel
theorem dX9_comes_21 : decode cX9_comes 21 = .ok (.iconst 4, 1) := by decide +kernel
theorem dX9_comes_22 : decode cX9_comes 22 = .ok (.aload_n 0, 1) := by decide +kernel
theorem dX9_comes_23 : decode cX9_comes 23 = .ok (.iload_n 2, 1) := by decide +kernel
theorem dX9_comes_24 : decode cX9_comes 24 = .ok (.iconst 4, 1) := by decide +kernel
theorem dX9_comes_25 : decode cX9_comes 25 = .ok (.invokevirtual 78, 3) := by decide +kernel
theorem dX9_comes_28 : decode cX9_comes 28 = .ok (.iload 4, 2) := by decide +kernel
theorem dX9_comes_30 : decode cX9_comes 30 = .ok (.iadd, 1) := by decide +kernel
theorem dX9_comes_31 : decode cX9_comes 31 = .ok (.invokevirtual 58, 3) := by decide +kernel
theorem dX9_comes_34 : decode cX9_comes 34 = .ok (.aload_n 0, 1) := by decide +kernel
theorem dX9_comes_35 : decode cX9_comes 35 = .ok (.iload_n 2, 1) := by decide +kernel
theorem dX9_comes_36 : decode cX9_comes 36 = .ok (.iconst 3, 1) := by decide +kernel
theorem dX9_comes_37 : decode cX9_comes 37 = .ok (.iload_n 3, 1) := by decide +kernel
theorem dX9_comes_38 : decode cX9_comes 38 = .ok (.invokevirtual 58, 3) := by decide +kernel
theorem dX9_comes_41 : decode cX9_comes 41 = .ok (.aload_n 0, 1) := by decide +kernel
theorem dX9_comes_42 : decode cX9_comes 42 = .ok (.iload_n 2, 1) := by decide +kernel
theorem dX9_comes_43 : decode cX9_comes 43 = .ok (.iconst 2, 1) := by decide +kernel
theorem dX9_comes_44 : decode cX9_comes 44 = .ok (.iload_n 1, 1) := by decide +kernel
theorem dX9_comes_45 : decode cX9_comes 45 = .ok (.invokevirtual 58, 3) := by decide +kernel
theorem dX9_comes_48 : decode cX9_comes 48 = .ok (.aload_n 0, 1) := by decide +kernel
theorem dX9_comes_49 : decode cX9_comes 49 = .ok (.iload_n 1, 1) := by decide +kernel
theorem dX9_comes_50 : decode cX9_comes 50 = .ok (.iconst 4, 1) := by decide +kernel
theorem dX9_comes_51 : decode cX9_comes 51 = .ok (.iload_n 2, 1) := by decide +kernel
theorem dX9_comes_52 : decode cX9_comes 52 = .ok (.invokevirtual 84, 3) := by decide +kernel
theorem dX9_comes_55 : decode cX9_comes 55 = .ok (.iload 4, 2) := by decide +kernel
theorem dX9_comes_57 : decode cX9_comes 57 = .ok (.ireturn, 1) := by decide +kernel
theorem dX9_begin_0 : decode cX9_begin 0 = .ok (.aload_n 0, 1) := by decide +kernel
theorem dX9_begin_1 : decode cX9_begin 1 = .ok (.iload_n 1, 1) := by decide +kernel
theorem dX9_begin_2 : decode cX9_begin 2 = .ok (.invokevirtual 48, 3) := by decide +kernel
theorem dX9_begin_5 : decode cX9_begin 5 = .ok (.ifCond .eq 22, 3) := by decide +kernel
theorem dX9_begin_8 : decode cX9_begin 8 = .ok (.iload_n 2, 1) := by decide +kernel
theorem dX9_begin_9 : decode cX9_begin 9 = .ok (.iconst 1, 1) := by decide +kernel
theorem dX9_begin_10 : decode cX9_begin 10 = .ok (.sipush 999, 3) := by decide +kernel
theorem dX9_begin_13 : decode cX9_begin 13 = .ok (.invokestatic 33, 3) := by decide +kernel
theorem dX9_begin_16 : decode cX9_begin 16 = .ok (.ifCond .eq 11, 3) := by decide +kernel
theorem dX9_begin_19 : decode cX9_begin 19 = .ok (.aload_n 0, 1) := by decide +kernel
theorem dX9_begin_20 : decode cX9_begin 20 = .ok (.iload_n 3, 1) := by decide +kernel
theorem dX9_begin_21 : decode cX9_begin 21 = .ok (.invokevirtual 87, 3) := by decide +kernel
theorem dX9_begin_24 : decode cX9_begin 24 = .ok (.ifCond .ne 5, 3) := by decide +kernel
theorem dX9_begin_27 : decode cX9_begin 27 = .ok (.iconst (-1), 1) := by decide +kernel
theorem dX9_begin_28 : decode cX9_begin 28 = .ok (.ireturn, 1) := by decide +kernel
theorem dX9_begin_29 : decode cX9_begin 29 = .ok (.aload_n 0, 1) := by decide +kernel
theorem dX9_begin_30 : decode cX9_begin 30 = .ok (.iload_n 1, 1) := by decide +kernel
theorem dX9_begin_31 : decode cX9_begin 31 = .ok (.invokevirtual 54, 3) := by decide +kernel
theorem dX9_begin_34 : decode cX9_begin 34 = .ok (.ifCond .eq 19, 3) := by decide +kernel
theorem dX9_begin_37 : decode cX9_begin 37 = .ok (.aload_n 0, 1) := by decide +kernel
theorem dX9_begin_38 : decode cX9_begin 38 = .ok (.iload_n 3, 1) := by decide +kernel
theorem dX9_begin_39 : decode cX9_begin 39 = .ok (.aload_n 0, 1) := by decide +kernel
theorem dX9_begin_40 : decode cX9_begin 40 = .ok (.iload_n 1, 1) := by decide +kernel
theorem dX9_begin_41 : decode cX9_begin 41 = .ok (.iconst 0, 1) := by decide +kernel
theorem dX9_begin_42 : decode cX9_begin 42 = .ok (.iconst 0, 1) := by decide +kernel
theorem dX9_begin_43 : decode cX9_begin 43 = .ok (.invokevirtual 68, 3) := by decide +kernel
theorem dX9_begin_46 : decode cX9_begin 46 = .ok (.iload_n 2, 1) := by decide +kernel
theorem dX9_begin_47 : decode cX9_begin 47 = .ok (.invokevirtual 90, 3) := by decide +kernel
theorem dX9_begin_50 : decode cX9_begin 50 = .ok (.ifCond .ne 6, 3) := by decide +kernel
theorem dX9_begin_53 : decode cX9_begin 53 = .ok (.bipush (-2), 2) := by decide +kernel
theorem dX9_begin_55 : decode cX9_begin 55 = .ok (.ireturn, 1) := by decide +kernel
theorem dX9_begin_56 : decode cX9_begin 56 = .ok (.aload_n 0, 1) := by decide +kernel
theorem dX9_begin_57 : decode cX9_begin 57 = .ok (.invokevirtual 41, 3) := by decide +kernel
theorem dX9_begin_60 : decode cX9_begin 60 = .ok (.iconst 0, 1) := by decide +kernel
theorem dX9_begin_61 : decode cX9_begin 61 = .ok (.istore 4, 2) := by decide +kernel
theorem dX9_begin_63 : decode cX9_begin 63 = .ok (.aload_n 0, 1) := by decide +kernel
theorem dX9_begin_64 : decode cX9_begin 64 = .ok (.iload 4, 2) := by decide +kernel
theorem dX9_begin_66 : decode cX9_begin 66 = .ok (.invokevirtual 44, 3) := by decide +kernel
theorem dX9_begin_69 : decode cX9_begin 69 = .ok (.ifCond .eq 9, 3) := by decide +kernel
theorem dX9_begin_72 : decode cX9_begin 72 = .ok (.iinc 4 1, 3) := by decide +kernel
theorem dX9_begin_75 : decode cX9_begin 75 = .ok (.goto (-12), 3) := by decide +kernel
theorem dX9_begin_78 : decode cX9_begin 78 = .ok (.aload_n 0, 1) := by decide +kernel
theorem dX9_begin_79 : decode cX9_begin 79 = .ok (.iload 4, 2) := by decide +kernel
theorem dX9_begin_81 : decode cX9_begin 81 = .ok (.iconst 0, 1) := by decide +kernel
theorem dX9_begin_82 : decode cX9_begin 82 = .ok (.iconst 1, 1) := by decide +kernel
theorem dX9_begin_83 : decode cX9_begin 83 = .ok (.invokevirtual 84, 3) := by decide +kernel
theorem dX9_begin_86 : decode cX9_begin 86 = .ok (.aload_n 0, 1) := by decide +kernel
theorem dX9_begin_87 : decode cX9_begin 87 = .ok (.iload 4, 2) := by decide +kernel
theorem dX9_begin_89 : decode cX9_begin 89 = .ok (.iconst 1, 1) := by decide +kernel
theorem dX9_begin_90 : decode cX9_begin 90 = .ok (.iload_n 1, 1) := by decide +kernel
theorem dX9_begin_91 : decode cX9_begin 91 = .ok (.invokevirtual 84, 3) := by decide +kernel
theorem dX9_begin_94 : decode cX9_begin 94 = .ok (.aload_n 0, 1) := by decide +kernel
theorem dX9_begin_95 : decode cX9_begin 95 = .ok (.iload 4, 2) := by decide +kernel
theorem dX9_begin_97 : decode cX9_begin 97 = .ok (.iconst 2, 1) := by decide +kernel
theorem dX9_begin_98 : decode cX9_begin 98 = .ok (.iload_n 2, 1) := by decide +kernel
theorem dX9_begin_99 : decode cX9_begin 99 = .ok (.invokevirtual 84, 3) := by decide +kernel
theorem dX9_begin_102 : decode cX9_begin 102 = .ok (.aload_n 0, 1) := by decide +kernel
theorem dX9_begin_103 : decode cX9_begin 103 = .ok (.iload 4, 2) := by decide +kernel
theorem dX9_begin_105 : decode cX9_begin 105 = .ok (.iconst 3, 1) := by decide +kernel
theorem dX9_begin_106 : decode cX9_begin 106 = .ok (.iconst 0, 1) := by decide +kernel
theorem dX9_begin_107 : decode cX9_begin 107 = .ok (.invokevirtual 84, 3) := by decide +kernel
theorem dX9_begin_110 : decode cX9_begin 110 = .ok (.aload_n 0, 1) := by decide +kernel
theorem dX9_begin_111 : decode cX9_begin 111 = .ok (.iload 4, 2) := by decide +kernel
theorem dX9_begin_113 : decode cX9_begin 113 = .ok (.bipush 6, 2) := by decide +kernel
theorem dX9_begin_115 : decode cX9_begin 115 = .ok (.iconst 0, 1) := by decide +kernel
theorem dX9_begin_116 : decode cX9_begin 116 = .ok (.invokevirtual 84, 3) := by decide +kernel
theorem dX9_begin_119 : decode cX9_begin 119 = .ok (.aload_n 0, 1) := by decide +kernel
theorem dX9_begin_120 : decode cX9_begin 120 = .ok (.iload 4, 2) := by decide +kernel
theorem dX9_begin_122 : decode cX9_begin 122 = .ok (.bipush 7, 2) := by decide +kernel
theorem dX9_begin_124 : decode cX9_begin 124 = .ok (.iconst 0, 1) := by decide +kernel
theorem dX9_begin_125 : decode cX9_begin 125 = .ok (.invokevirtual 84, 3) := by decide +kernel
theorem dX9_begin_128 : decode cX9_begin 128 = .ok (.aload_n 0, 1) := by decide +kernel
theorem dX9_begin_129 : decode cX9_begin 129 = .ok (.iload 4, 2) := by decide +kernel
theorem dX9_begin_131 : decode cX9_begin 131 = .ok (.bipush 8, 2) := by decide +kernel
theorem dX9_begin_133 : decode cX9_begin 133 = .ok (.iload_n 2, 1) := by decide +kernel
theorem dX9_begin_134 : decode cX9_begin 134 = .ok (.invokevirtual 84, 3) := by decide +kernel
theorem dX9_begin_137 : decode cX9_begin 137 = .ok (.aload_n 0, 1) := by decide +kernel
theorem dX9_begin_138 : decode cX9_begin 138 = .ok (.iload 4, 2) := by decide +kernel
theorem dX9_begin_140 : decode cX9_begin 140 = .ok (.iconst 5, 1) := by decide +kernel
theorem dX9_begin_141 : decode cX9_begin 141 = .ok (.aload_n 0, 1) := by decide +kernel
theorem dX9_begin_142 : decode cX9_begin 142 = .ok (.getfield 7, 3) := by decide +kernel
theorem dX9_begin_145 : decode cX9_begin 145 = .ok (.iconst 5, 1) := by decide +kernel
theorem dX9_begin_146 : decode cX9_begin 146 = .ok (.iaload, 1) := by decide +kernel
theorem dX9_begin_147 : decode cX9_begin 147 = .ok (.aload_n 0, 1) := by decide +kernel
theorem dX9_begin_148 : decode cX9_begin 148 = .ok (.iload 4, 2) := by decide +kernel
theorem dX9_begin_150 : decode cX9_begin 150 = .ok (.iload_n 3, 1) := by decide +kernel
theorem dX9_begin_151 : decode cX9_begin 151 = .ok (.invokevirtual 93, 3) := by decide +kernel
theorem dX9_begin_154 : decode cX9_begin 154 = .ok (.iadd, 1) := by decide +kernel
theorem dX9_begin_155 : decode cX9_begin 155 = .ok (.invokevirtual 84, 3) := by decide +kernel
theorem dX9_begin_158 : decode cX9_begin 158 = .ok (.aload_n 0, 1) := by decide +kernel
theorem dX9_begin_159 : decode cX9_begin 159 = .ok (.getfield 7, 3) := by decide +kernel
theorem dX9_begin_162 : decode cX9_begin 162 = .ok (.bipush 6, 2) := by decide +kernel
theorem dX9_begin_164 : decode cX9_begin 164 = .ok (.dup2, 1) := by decide +kernel
theorem dX9_begin_165 : decode cX9_begin 165 = .ok (.iaload, 1) := by decide +kernel
theorem dX9_begin_166 : decode cX9_begin 166 = .ok (.iload_n 2, 1) := by decide +kernel
theorem dX9_begin_167 : decode cX9_begin 167 = .ok (.iadd, 1) := by decide +kernel
theorem dX9_begin_168 : decode cX9_begin 168 = .ok (.iastore, 1) := by decide +kernel
theorem dX9_begin_169 : decode cX9_begin 169 = .ok (.iload 4, 2) := by decide +kernel
theorem dX9_begin_171 : decode cX9_begin 171 = .ok (.ireturn, 1) := by decide +kernel
theorem dX9_lineTo_0 : decode cX9_lineTo 0 = .ok (.aload_n 0, 1) := by decide +kernel
theorem dX9_lineTo_1 : decode cX9_lineTo 1 = .ok (.iload_n 1, 1) := by decide +kernel
theorem dX9_lineTo_2 : decode cX9_lineTo 2 = .ok (.iconst 3, 1) := by decide +kernel
theorem dX9_lineTo_3 : decode cX9_lineTo 3 = .ok (.invokevirtual 37, 3) := by decide +kernel
theorem dX9_lineTo_6 : decode cX9_lineTo 6 = .ok (.iconst 1, 1) := by decide +kernel
theorem dX9_lineTo_7 : decode cX9_lineTo 7 = .ok (.iadd, 1) := by decide +kernel
theorem dX9_lineTo_8 : decode cX9_lineTo 8 = .ok (.istore_n 3, 1) := by decide +kernel
theorem dX9_lineTo_9 : decode cX9_lineTo 9 = .ok (.aload_n 0, 1) := by decide +kernel
theorem dX9_lineTo_10 : decode cX9_lineTo 10 = .ok (.iload_n 1, 1) := by decide +kernel
theorem dX9_lineTo_11 : decode cX9_lineTo 11 = .ok (.iconst 1, 1) := by decide +kernel
theorem dX9_lineTo_12 : decode cX9_lineTo 12 = .ok (.invokevirtual 37, 3) := by decide +kernel
theorem dX9_lineTo_15 : decode cX9_lineTo 15 = .ok (.istore 4, 2) := by decide +kernel
theorem dX9_lineTo_17 : decode cX9_lineTo 17 = .ok (.aload_n 0, 1) := by decide +kernel
theorem dX9_lineTo_18 : decode cX9_lineTo 18 = .ok (.iload_n 1, 1) := by decide +kernel
theorem dX9_lineTo_19 : decode cX9_lineTo 19 = .ok (.invokevirtual 96, 3) := by decide +kernel
theorem dX9_lineTo_22 : decode cX9_lineTo 22 = .ok (.ifCond .eq 35, 3) := by decide +kernel
theorem dX9_lineTo_25 : decode cX9_lineTo 25 = .ok (.iload_n 3, 1) := by decide +kernel
theorem dX9_lineTo_26 : decode cX9_lineTo 26 = .ok (.aload_n 0, 1) := by decide +kernel
theorem dX9_lineTo_27 : decode cX9_lineTo 27 = .ok (.iload 4, 2) := by decide +kernel
theorem dX9_lineTo_29 : decode cX9_lineTo 29 = .ok (.invokevirtual 54, 3) := by decide +kernel
theorem dX9_lineTo_32 : decode cX9_lineTo 32 = .ok (.if_icmp .ge 25, 3) := by decide +kernel
theorem dX9_lineTo_35 : decode cX9_lineTo 35 = .ok (.aload_n 0, 1) := by decide +kernel
theorem dX9_lineTo_36 : decode cX9_lineTo 36 = .ok (.iload_n 2, 1) := by decide +kernel
theorem dX9_lineTo_37 : decode cX9_lineTo 37 = .ok (.aload_n 0, 1) := by decide +kernel
theorem dX9_lineTo_38 : decode cX9_lineTo 38 = .ok (.iload 4, 2) := by decide +kernel
theorem dX9_lineTo_40 : decode cX9_lineTo 40 = .ok (.iload_n 3, 1) := by decide +kernel
theorem dX9_lineTo_41 : decode cX9_lineTo 41 = .ok (.iconst 0, 1) := by decide +kernel
theorem dX9_lineTo_42 : decode cX9_lineTo 42 = .ok (.invokevirtual 68, 3) := by decide +kernel
theorem dX9_lineTo_45 : decode cX9_lineTo 45 = .ok (.aload_n 0, 1) := by decide +kernel
theorem dX9_lineTo_46 : decode cX9_lineTo 46 = .ok (.iload_n 1, 1) := by decide +kernel
theorem dX9_lineTo_47 : decode cX9_lineTo 47 = .ok (.iconst 2, 1) := by decide +kernel
theorem dX9_lineTo_48 : decode cX9_lineTo 48 = .ok (.invokevirtual 37, 3) := by decide +kernel
theorem dX9_lineTo_51 : decode cX9_lineTo 51 = .ok (.invokevirtual 90, 3) := by decide +kernel
theorem dX9_lineTo_54 : decode cX9_lineTo 54 = .ok (.ifCond .ne 6, 3) := by decide +kernel
theorem dX9_lineTo_57 : decode cX9_lineTo 57 = .ok (.bipush (-4), 2) := by decide +kernel
theorem dX9_lineTo_59 : decode cX9_lineTo 59 = .ok (.ireturn, 1) := by decide +kernel
theorem dX9_lineTo_60 : decode cX9_lineTo 60 = .ok (.iconst 1, 1) := by decide +kernel
theorem dX9_lineTo_61 : decode cX9_lineTo 61 = .ok (.iload_n 2, 1) := by decide +kernel
theorem dX9_lineTo_62 : decode cX9_lineTo 62 = .ok (.ishl, 1) := by decide +kernel
theorem dX9_lineTo_63 : decode cX9_lineTo 63 = .ok (.iconst 1, 1) := by decide +kernel
theorem dX9_lineTo_64 : decode cX9_lineTo 64 = .ok (.aload_n 0, 1) := by decide +kernel
theorem dX9_lineTo_65 : decode cX9_lineTo 65 = .ok (.iload_n 1, 1) := by decide +kernel
theorem dX9_lineTo_66 : decode cX9_lineTo 66 = .ok (.iconst 4, 1) := by decide +kernel
theorem dX9_lineTo_67 : decode cX9_lineTo 67 = .ok (.invokevirtual 37, 3) := by decide +kernel
theorem dX9_lineTo_70 : decode cX9_lineTo 70 = .ok (.ishl, 1) := by decide +kernel
theorem dX9_lineTo_71 : decode cX9_lineTo 71 = .ok (.ior, 1) := by decide +kernel
theorem dX9_lineTo_72 : decode cX9_lineTo 72 = .ok (.istore 5, 2) := by decide +kernel
theorem dX9_lineTo_74 : decode cX9_lineTo 74 = .ok (.bipush (-4), 2) := by decide +kernel
theorem dX9_lineTo_76 : decode cX9_lineTo 76 = .ok (.istore 6, 2) := by decide +kernel
theorem dX9_lineTo_78 : decode cX9_lineTo 78 = .ok (.aload_n 0, 1) := by decide +kernel
theorem dX9_lineTo_79 : decode cX9_lineTo 79 = .ok (.getfield 7, 3) := by decide +kernel
theorem dX9_lineTo_82 : decode cX9_lineTo 82 = .ok (.iconst 4, 1) := by decide +kernel
theorem dX9_lineTo_83 : decode cX9_lineTo 83 = .ok (.iaload, 1) := by decide +kernel
theorem dX9_lineTo_84 : decode cX9_lineTo 84 = .ok (.iconst 1, 1) := by decide +kernel
theorem dX9_lineTo_85 : decode cX9_lineTo 85 = .ok (.isub, 1) := by decide +kernel
theorem dX9_lineTo_86 : decode cX9_lineTo 86 = .ok (.istore 7, 2) := by decide +kernel
theorem dX9_lineTo_88 : decode cX9_lineTo 88 = .ok (.iload 7, 2) := by decide +kernel
theorem dX9_lineTo_90 : decode cX9_lineTo 90 = .ok (.ifCond .lt 49, 3) := by decide +kernel
theorem dX9_lineTo_93 : decode cX9_lineTo 93 = .ok (.aload_n 0, 1) := by decide +kernel
theorem dX9_lineTo_94 : decode cX9_lineTo 94 = .ok (.iload 7, 2) := by decide +kernel
theorem dX9_lineTo_96 : decode cX9_lineTo 96 = .ok (.iconst 0, 1) := by decide +kernel
theorem dX9_lineTo_97 : decode cX9_lineTo 97 = .ok (.invokevirtual 99, 3) := by decide +kernel
theorem dX9_lineTo_100 : decode cX9_lineTo 100 = .ok (.iload 5, 2) := by decide +kernel
theorem dX9_lineTo_102 : decode cX9_lineTo 102 = .ok (.iand, 1) := by decide +kernel
theorem dX9_lineTo_103 : decode cX9_lineTo 103 = .ok (.iload 5, 2) := by decide +kernel
theorem dX9_lineTo_105 : decode cX9_lineTo 105 = .ok (.if_icmp .ne 24, 3) := by decide +kernel
theorem dX9_lineTo_108 : decode cX9_lineTo 108 = .ok (.aload_n 0, 1) := by decide +kernel
theorem dX9_lineTo_109 : decode cX9_lineTo 109 = .ok (.iload 7, 2) := by decide +kernel
theorem dX9_lineTo_111 : decode cX9_lineTo 111 = .ok (.iconst 2, 1) := by decide +kernel
theorem dX9_lineTo_112 : decode cX9_lineTo 112 = .ok (.invokevirtual 99, 3) := by decide +kernel
theorem dX9_lineTo_115 : decode cX9_lineTo 115 = .ok (.aload_n 0, 1) := by decide +kernel
theorem dX9_lineTo_116 : decode cX9_lineTo 116 = .ok (.getfield 7, 3) := by decide +kernel
theorem dX9_lineTo_119 : decode cX9_lineTo 119 = .ok (.iconst 5, 1) := by decide +kernel
theorem dX9_lineTo_120 : decode cX9_lineTo 120 = .ok (.iaload, 1) := by decide +kernel
theorem dX9_lineTo_121 : decode cX9_lineTo 121 = .ok (.if_icmp .gt 8, 3) := by decide +kernel
theorem dX9_lineTo_124 : decode cX9_lineTo 124 = .ok (.iload 7, 2) := by decide +kernel
theorem dX9_lineTo_126 : decode cX9_lineTo 126 = .ok (.goto 5, 3) := by decide +kernel
theorem dX9_lineTo_129 : decode cX9_lineTo 129 = .ok (.iload 6, 2) := by decide +kernel
theorem dX9_lineTo_131 : decode cX9_lineTo 131 = .ok (.istore 6, 2) := by decide +kernel
theorem dX9_lineTo_133 : decode cX9_lineTo 133 = .ok (.iinc 7 (-1), 3) := by decide +kernel
theorem dX9_lineTo_136 : decode cX9_lineTo 136 = .ok (.goto (-48), 3) := by decide +kernel
theorem dX9_lineTo_139 : decode cX9_lineTo 139 = .ok (.iload 6, 2) := by decide +kernel
theorem dX9_lineTo_141 : decode cX9_lineTo 141 = .ok (.ireturn, 1) := by decide +kernel
theorem dX9_minutesTo_0 : decode cX9_minutesTo 0 = .ok (.aload_n 0, 1) := by decide +kernel
theorem dX9_minutesTo_1 : decode cX9_minutesTo 1 = .ok (.iload_n 3, 1) := by decide +kernel
theorem dX9_minutesTo_2 : decode cX9_minutesTo 2 = .ok (.iconst 1, 1) := by decide +kernel
theorem dX9_minutesTo_3 : decode cX9_minutesTo 3 = .ok (.invokevirtual 99, 3) := by decide +kernel
theorem dX9_minutesTo_6 : decode cX9_minutesTo 6 = .ok (.istore 4, 2) := by decide +kernel
theorem dX9_minutesTo_8 : decode cX9_minutesTo 8 = .ok (.aload_n 0, 1) := by decide +kernel
theorem dX9_minutesTo_9 : decode cX9_minutesTo 9 = .ok (.iload_n 2, 1) := by decide +kernel
theorem dX9_minutesTo_10 : decode cX9_minutesTo 10 = .ok (.aload_n 0, 1) := by decide +kernel
theorem dX9_minutesTo_11 : decode cX9_minutesTo 11 = .ok (.aload_n 0, 1) := by decide +kernel
theorem dX9_minutesTo_12 : decode cX9_minutesTo 12 = .ok (.iload_n 1, 1) := by decide +kernel
theorem dX9_minutesTo_13 : decode cX9_minutesTo 13 = .ok (.iconst 1, 1) := by decide +kernel
theorem dX9_minutesTo_14 : decode cX9_minutesTo 14 = .ok (.invokevirtual 37, 3) := by decide +kernel
theorem dX9_minutesTo_17 : decode cX9_minutesTo 17 = .ok (.invokevirtual 65, 3) := by decide +kernel
theorem dX9_minutesTo_20 : decode cX9_minutesTo 20 = .ok (.invokevirtual 81, 3) := by decide +kernel
theorem dX9_minutesTo_23 : decode cX9_minutesTo 23 = .ok (.aload_n 0, 1) := by decide +kernel
theorem dX9_minutesTo_24 : decode cX9_minutesTo 24 = .ok (.iload_n 1, 1) := by decide +kernel
theorem dX9_minutesTo_25 : decode cX9_minutesTo 25 = .ok (.iconst 2, 1) := by decide +kernel
theorem dX9_minutesTo_26 : decode cX9_minutesTo 26 = .ok (.invokevirtual 37, 3) := by decide +kernel
theorem dX9_minutesTo_29 : decode cX9_minutesTo 29 = .ok (.iload 4, 2) := by decide +kernel
theorem dX9_minutesTo_31 : decode cX9_minutesTo 31 = .ok (.iadd, 1) := by decide +kernel
theorem dX9_minutesTo_32 : decode cX9_minutesTo 32 = .ok (.iconst 1, 1) := by decide +kernel
theorem dX9_minutesTo_33 : decode cX9_minutesTo 33 = .ok (.isub, 1) := by decide +kernel
theorem dX9_minutesTo_34 : decode cX9_minutesTo 34 = .ok (.iload 4, 2) := by decide +kernel
theorem dX9_minutesTo_36 : decode cX9_minutesTo 36 = .ok (.idiv, 1) := by decide +kernel
theorem dX9_minutesTo_37 : decode cX9_minutesTo 37 = .ok (.iadd, 1) := by decide +kernel
theorem dX9_minutesTo_38 : decode cX9_minutesTo 38 = .ok (.ireturn, 1) := by decide +kernel
theorem dX9_move_0 : decode cX9_move 0 = .ok (.aload_n 0, 1) := by decide +kernel
theorem dX9_move_1 : decode cX9_move 1 = .ok (.iload_n 1, 1) := by decide +kernel
theorem dX9_move_2 : decode cX9_move 2 = .ok (.invokevirtual 44, 3) := by decide +kernel
theorem dX9_move_5 : decode cX9_move 5 = .ok (.ifCond .eq 11, 3) := by decide +kernel
theorem dX9_move_8 : decode cX9_move 8 = .ok (.aload_n 0, 1) := by decide +kernel
theorem dX9_move_9 : decode cX9_move 9 = .ok (.iload_n 2, 1) := by decide +kernel
theorem dX9_move_10 : decode cX9_move 10 = .ok (.invokevirtual 87, 3) := by decide +kernel
theorem dX9_move_13 : decode cX9_move 13 = .ok (.ifCond .ne 5, 3) := by decide +kernel
theorem dX9_move_16 : decode cX9_move 16 = .ok (.iconst (-1), 1) := by decide +kernel
theorem dX9_move_17 : decode cX9_move 17 = .ok (.ireturn, 1) := by decide +kernel
theorem dX9_move_18 : decode cX9_move 18 = .ok (.aload_n 0, 1) := by decide +kernel
theorem dX9_move_19 : decode cX9_move 19 = .ok (.iload_n 1, 1) := by decide +kernel
theorem dX9_move_20 : decode cX9_move 20 = .ok (.iload_n 2, 1) := by decide +kernel
theorem dX9_move_21 : decode cX9_move 21 = .ok (.invokevirtual 102, 3) := by decide +kernel
theorem dX9_move_24 : decode cX9_move 24 = .ok (.istore_n 3, 1) := by decide +kernel
theorem dX9_move_25 : decode cX9_move 25 = .ok (.iload_n 3, 1) := by decide +kernel
theorem dX9_move_26 : decode cX9_move 26 = .ok (.ifCond .ge 6, 3) := by decide +kernel
theorem dX9_move_29 : decode cX9_move 29 = .ok (.bipush (-2), 2) := by decide +kernel
theorem dX9_move_31 : decode cX9_move 31 = .ok (.ireturn, 1) := by decide +kernel
theorem dX9_move_32 : decode cX9_move 32 = .ok (.aload_n 0, 1) := by decide +kernel
theorem dX9_move_33 : decode cX9_move 33 = .ok (.invokevirtual 41, 3) := by decide +kernel
theorem dX9_move_36 : decode cX9_move 36 = .ok (.aload_n 0, 1) := by decide +kernel
theorem dX9_move_37 : decode cX9_move 37 = .ok (.getfield 7, 3) := by decide +kernel
theorem dX9_move_40 : decode cX9_move 40 = .ok (.iconst 5, 1) := by decide +kernel
theorem dX9_move_41 : decode cX9_move 41 = .ok (.iaload, 1) := by decide +kernel
theorem dX9_move_42 : decode cX9_move 42 = .ok (.aload_n 0, 1) := by decide +kernel
theorem dX9_move_43 : decode cX9_move 43 = .ok (.iload_n 1, 1) := by decide +kernel
theorem dX9_move_44 : decode cX9_move 44 = .ok (.iload_n 2, 1) := by decide +kernel
theorem dX9_move_45 : decode cX9_move 45 = .ok (.iload_n 3, 1) := by decide +kernel
theorem dX9_move_46 : decode cX9_move 46 = .ok (.invokevirtual 105, 3) := by decide +kernel
theorem dX9_move_49 : decode cX9_move 49 = .ok (.iadd, 1) := by decide +kernel
theorem dX9_move_50 : decode cX9_move 50 = .ok (.istore 4, 2) := by decide +kernel
theorem dX9_move_52 : decode cX9_move 52 = .ok (.aload_n 0, 1) := by decide +kernel
theorem dX9_move_53 : decode cX9_move 53 = .ok (.getfield 7, 3) := by decide +kernel
theorem dX9_move_56 : decode cX9_move 56 = .ok (.sipush 133, 3) := by decide +kernel
theorem dX9_move_59 : decode cX9_move 59 = .ok (.iconst 4, 1) := by decide +kernel
theorem dX9_move_60 : decode cX9_move 60 = .ok (.iload_n 3, 1) := by decide +kernel
theorem dX9_move_61 : decode cX9_move 61 = .ok (.imul, 1) := by decide +kernel
theorem dX9_move_62 : decode cX9_move 62 = .ok (.iadd, 1) := by decide +kernel
theorem dX9_move_63 : decode cX9_move 63 = .ok (.iconst 2, 1) := by decide +kernel
theorem dX9_move_64 : decode cX9_move 64 = .ok (.iadd, 1) := by decide +kernel
theorem dX9_move_65 : decode cX9_move 65 = .ok (.iload 4, 2) := by decide +kernel
theorem dX9_move_67 : decode cX9_move 67 = .ok (.iastore, 1) := by decide +kernel
theorem dX9_move_68 : decode cX9_move 68 = .ok (.aload_n 0, 1) := by decide +kernel
theorem dX9_move_69 : decode cX9_move 69 = .ok (.getfield 7, 3) := by decide +kernel
theorem dX9_move_72 : decode cX9_move 72 = .ok (.sipush 133, 3) := by decide +kernel
theorem dX9_move_75 : decode cX9_move 75 = .ok (.iconst 4, 1) := by decide +kernel
theorem dX9_move_76 : decode cX9_move 76 = .ok (.iload_n 3, 1) := by decide +kernel
theorem dX9_move_77 : decode cX9_move 77 = .ok (.imul, 1) := by decide +kernel
theorem dX9_move_78 : decode cX9_move 78 = .ok (.iadd, 1) := by decide +kernel
theorem dX9_move_79 : decode cX9_move 79 = .ok (.iconst 3, 1) := by decide +kernel
theorem dX9_move_80 : decode cX9_move 80 = .ok (.iadd, 1) := by decide +kernel
theorem dX9_move_81 : decode cX9_move 81 = .ok (.dup2, 1) := by decide +kernel
theorem dX9_move_82 : decode cX9_move 82 = .ok (.iaload, 1) := by decide +kernel
theorem dX9_move_83 : decode cX9_move 83 = .ok (.aload_n 0, 1) := by decide +kernel
theorem dX9_move_84 : decode cX9_move 84 = .ok (.iload_n 1, 1) := by decide +kernel
theorem dX9_move_85 : decode cX9_move 85 = .ok (.iconst 2, 1) := by decide +kernel
theorem dX9_move_86 : decode cX9_move 86 = .ok (.invokevirtual 37, 3) := by decide +kernel
theorem dX9_move_89 : decode cX9_move 89 = .ok (.iadd, 1) := by decide +kernel
theorem dX9_move_90 : decode cX9_move 90 = .ok (.iastore, 1) := by decide +kernel
theorem dX9_move_91 : decode cX9_move 91 = .ok (.aload_n 0, 1) := by decide +kernel
theorem dX9_move_92 : decode cX9_move 92 = .ok (.aload_n 0, 1) := by decide +kernel
theorem dX9_move_93 : decode cX9_move 93 = .ok (.iload_n 1, 1) := by decide +kernel
theorem dX9_move_94 : decode cX9_move 94 = .ok (.iconst 4, 1) := by decide +kernel
theorem dX9_move_95 : decode cX9_move 95 = .ok (.invokevirtual 37, 3) := by decide +kernel
theorem dX9_move_98 : decode cX9_move 98 = .ok (.iconst 2, 1) := by decide +kernel
theorem dX9_move_99 : decode cX9_move 99 = .ok (.iconst (-1), 1) := by decide +kernel
theorem dX9_move_100 : decode cX9_move 100 = .ok (.invokevirtual 58, 3) := by decide +kernel
theorem dX9_move_103 : decode cX9_move 103 = .ok (.aload_n 0, 1) := by decide +kernel
theorem dX9_move_104 : decode cX9_move 104 = .ok (.iload_n 1, 1) := by decide +kernel
theorem dX9_move_105 : decode cX9_move 105 = .ok (.iload_n 2, 1) := by decide +kernel
theorem dX9_move_106 : decode cX9_move 106 = .ok (.invokevirtual 93, 3) := by decide +kernel
theorem dX9_move_109 : decode cX9_move 109 = .ok (.pop, 1) := by decide +kernel
theorem dX9_move_110 : decode cX9_move 110 = .ok (.aload_n 0, 1) := by decide +kernel
theorem dX9_move_111 : decode cX9_move 111 = .ok (.iload_n 1, 1) := by decide +kernel
theorem dX9_move_112 : decode cX9_move 112 = .ok (.iconst 5, 1) := by decide +kernel
theorem dX9_move_113 : decode cX9_move 113 = .ok (.iload 4, 2) := by decide +kernel
theorem dX9_move_115 : decode cX9_move 115 = .ok (.invokevirtual 84, 3) := by decide +kernel
theorem dX9_move_118 : decode cX9_move 118 = .ok (.aload_n 0, 1) := by decide +kernel
theorem dX9_move_119 : decode cX9_move 119 = .ok (.iload_n 1, 1) := by decide +kernel
theorem dX9_move_120 : decode cX9_move 120 = .ok (.iconst 3, 1) := by decide +kernel
theorem dX9_move_121 : decode cX9_move 121 = .ok (.aload_n 0, 1) := by decide +kernel
theorem dX9_move_122 : decode cX9_move 122 = .ok (.iload_n 1, 1) := by decide +kernel
theorem dX9_move_123 : decode cX9_move 123 = .ok (.iconst 3, 1) := by decide +kernel
theorem dX9_move_124 : decode cX9_move 124 = .ok (.invokevirtual 37, 3) := by decide +kernel
theorem dX9_move_127 : decode cX9_move 127 = .ok (.iconst 1, 1) := by decide +kernel
theorem dX9_move_128 : decode cX9_move 128 = .ok (.iadd, 1) := by decide +kernel
theorem dX9_move_129 : decode cX9_move 129 = .ok (.invokevirtual 84, 3) := by decide +kernel
theorem dX9_move_132 : decode cX9_move 132 = .ok (.aload_n 0, 1) := by decide +kernel
theorem dX9_move_133 : decode cX9_move 133 = .ok (.iload_n 1, 1) := by decide +kernel
theorem dX9_move_134 : decode cX9_move 134 = .ok (.iconst 2, 1) := by decide +kernel
theorem dX9_move_135 : decode cX9_move 135 = .ok (.invokevirtual 37, 3) := by decide +kernel
theorem dX9_move_138 : decode cX9_move 138 = .ok (.aload_n 0, 1) := by decide +kernel
theorem dX9_move_139 : decode cX9_move 139 = .ok (.getfield 7, 3) := by decide +kernel
theorem dX9_move_142 : decode cX9_move 142 = .ok (.iconst 0, 1) := by decide +kernel
theorem dX9_move_143 : decode cX9_move 143 = .ok (.iaload, 1) := by decide +kernel
theorem dX9_move_144 : decode cX9_move 144 = .ok (.imul, 1) := by decide +kernel
theorem dX9_move_145 : decode cX9_move 145 = .ok (.sipush 1000, 3) := by decide +kernel
theorem dX9_move_148 : decode cX9_move 148 = .ok (.idiv, 1) := by decide +kernel
theorem dX9_move_149 : decode cX9_move 149 = .ok (.istore 5, 2) := by decide +kernel
theorem dX9_move_151 : decode cX9_move 151 = .ok (.aload_n 0, 1) := by decide +kernel
theorem dX9_move_152 : decode cX9_move 152 = .ok (.getfield 7, 3) := by decide +kernel
theorem dX9_move_155 : decode cX9_move 155 = .ok (.bipush 8, 2) := by decide +kernel
theorem dX9_move_157 : decode cX9_move 157 = .ok (.dup2, 1) := by decide +kernel
theorem dX9_move_158 : decode cX9_move 158 = .ok (.iaload, 1) := by decide +kernel
theorem dX9_move_159 : decode cX9_move 159 = .ok (.iload 5, 2) := by decide +kernel
theorem dX9_move_161 : decode cX9_move 161 = .ok (.iadd, 1) := by decide +kernel
theorem dX9_move_162 : decode cX9_move 162 = .ok (.iastore, 1) := by decide +kernel
theorem dX9_move_163 : decode cX9_move 163 = .ok (.aload_n 0, 1) := by decide +kernel
theorem dX9_move_164 : decode cX9_move 164 = .ok (.iload_n 1, 1) := by decide +kernel
theorem dX9_move_165 : decode cX9_move 165 = .ok (.iconst 2, 1) := by decide +kernel
theorem dX9_move_166 : decode cX9_move 166 = .ok (.aload_n 0, 1) := by decide +kernel
theorem dX9_move_167 : decode cX9_move 167 = .ok (.iload_n 1, 1) := by decide +kernel
theorem dX9_move_168 : decode cX9_move 168 = .ok (.iconst 2, 1) := by decide +kernel
theorem dX9_move_169 : decode cX9_move 169 = .ok (.invokevirtual 37, 3) := by decide +kernel
theorem dX9_move_172 : decode cX9_move 172 = .ok (.iload 5, 2) := by decide +kernel
theorem dX9_move_174 : decode cX9_move 174 = .ok (.isub, 1) := by decide +kernel
theorem dX9_move_175 : decode cX9_move 175 = .ok (.invokevirtual 84, 3) := by decide +kernel
theorem dX9_move_178 : decode cX9_move 178 = .ok (.iload_n 3, 1) := by decide +kernel
theorem dX9_move_179 : decode cX9_move 179 = .ok (.ireturn, 1) := by decide +kernel
theorem dX9_goes_0 : decode cX9_goes 0 = .ok (.aload_n 0, 1) := by decide +kernel
theorem dX9_goes_1 : decode cX9_goes 1 = .ok (.aload_n 0, 1) := by decide +kernel
theorem dX9_goes_2 : decode cX9_goes 2 = .ok (.iload_n 1, 1) := by decide +kernel
theorem dX9_goes_3 : decode cX9_goes 3 = .ok (.iconst 4, 1) := by decide +kernel
theorem dX9_goes_4 : decode cX9_goes 4 = .ok (.invokevirtual 37, 3) := by decide +kernel
theorem dX9_goes_7 : decode cX9_goes 7 = .ok (.iconst 2, 1) := by decide +kernel
theorem dX9_goes_8 : decode cX9_goes 8 = .ok (.iconst (-1), 1) := by decide +kernel
theorem dX9_goes_9 : decode cX9_goes 9 = .ok (.invokevirtual 58, 3) := by decide +kernel
theorem dX9_goes_12 : decode cX9_goes 12 = .ok (.aload_n 0, 1) := by decide +kernel
theorem dX9_goes_13 : decode cX9_goes 13 = .ok (.iload_n 1, 1) := by decide +kernel
theorem dX9_goes_14 : decode cX9_goes 14 = .ok (.iconst 0, 1) := by decide +kernel
theorem dX9_goes_15 : decode cX9_goes 15 = .ok (.iconst 0, 1) := by decide +kernel
theorem dX9_goes_16 : decode cX9_goes 16 = .ok (.invokevirtual 84, 3) := by decide +kernel
theorem dX9_goes_19 : decode cX9_goes 19 = .ok (.aload_n 0, 1) := by decide +kernel
theorem dX9_goes_20 : decode cX9_goes 20 = .ok (.iload_n 1, 1) := by decide +kernel
theorem dX9_goes_21 : decode cX9_goes 21 = .ok (.iconst 2, 1) := by decide +kernel
theorem dX9_goes_22 : decode cX9_goes 22 = .ok (.invokevirtual 37, 3) := by decide +kernel
theorem dX9_goes_25 : decode cX9_goes 25 = .ok (.ireturn, 1) := by decide +kernel
theorem dX9_end_0 : decode cX9_end 0 = .ok (.aload_n 0, 1) := by decide +kernel
theorem dX9_end_1 : decode cX9_end 1 = .ok (.iload_n 1, 1) := by decide +kernel
theorem dX9_end_2 : decode cX9_end 2 = .ok (.invokevirtual 44, 3) := by decide +kernel
theorem dX9_end_5 : decode cX9_end 5 = .ok (.ifCond .ne 5, 3) := by decide +kernel
theorem dX9_end_8 : decode cX9_end 8 = .ok (.iconst (-1), 1) := by decide +kernel
theorem dX9_end_9 : decode cX9_end 9 = .ok (.ireturn, 1) := by decide +kernel
theorem dX9_end_10 : decode cX9_end 10 = .ok (.aload_n 0, 1) := by decide +kernel
theorem dX9_end_11 : decode cX9_end 11 = .ok (.iload_n 1, 1) := by decide +kernel
theorem dX9_end_12 : decode cX9_end 12 = .ok (.invokevirtual 96, 3) := by decide +kernel
theorem dX9_end_15 : decode cX9_end 15 = .ok (.ifCond .eq 24, 3) := by decide +kernel
theorem dX9_end_18 : decode cX9_end 18 = .ok (.aload_n 0, 1) := by decide +kernel
theorem dX9_end_19 : decode cX9_end 19 = .ok (.iload_n 1, 1) := by decide +kernel
theorem dX9_end_20 : decode cX9_end 20 = .ok (.iconst 3, 1) := by decide +kernel
theorem dX9_end_21 : decode cX9_end 21 = .ok (.invokevirtual 37, 3) := by decide +kernel
theorem dX9_end_24 : decode cX9_end 24 = .ok (.aload_n 0, 1) := by decide +kernel
theorem dX9_end_25 : decode cX9_end 25 = .ok (.aload_n 0, 1) := by decide +kernel
theorem dX9_end_26 : decode cX9_end 26 = .ok (.iload_n 1, 1) := by decide +kernel
theorem dX9_end_27 : decode cX9_end 27 = .ok (.iconst 1, 1) := by decide +kernel
theorem dX9_end_28 : decode cX9_end 28 = .ok (.invokevirtual 37, 3) := by decide +kernel
theorem dX9_end_31 : decode cX9_end 31 = .ok (.invokevirtual 54, 3) := by decide +kernel
theorem dX9_end_34 : decode cX9_end 34 = .ok (.iconst 1, 1) := by decide +kernel
theorem dX9_end_35 : decode cX9_end 35 = .ok (.isub, 1) := by decide +kernel
theorem dX9_end_36 : decode cX9_end 36 = .ok (.if_icmp .ge 6, 3) := by decide +kernel
theorem dX9_end_39 : decode cX9_end 39 = .ok (.bipush (-2), 2) := by decide +kernel
theorem dX9_end_41 : decode cX9_end 41 = .ok (.ireturn, 1) := by decide +kernel
theorem dX9_end_42 : decode cX9_end 42 = .ok (.aload_n 0, 1) := by decide +kernel
theorem dX9_end_43 : decode cX9_end 43 = .ok (.invokevirtual 41, 3) := by decide +kernel
theorem dX9_end_46 : decode cX9_end 46 = .ok (.aload_n 0, 1) := by decide +kernel
theorem dX9_end_47 : decode cX9_end 47 = .ok (.iload_n 1, 1) := by decide +kernel
theorem dX9_end_48 : decode cX9_end 48 = .ok (.invokevirtual 108, 3) := by decide +kernel
theorem dX9_end_51 : decode cX9_end 51 = .ok (.istore_n 2, 1) := by decide +kernel
theorem dX9_end_52 : decode cX9_end 52 = .ok (.aload_n 0, 1) := by decide +kernel
theorem dX9_end_53 : decode cX9_end 53 = .ok (.iload_n 1, 1) := by decide +kernel
theorem dX9_end_54 : decode cX9_end 54 = .ok (.bipush 6, 2) := by decide +kernel
theorem dX9_end_56 : decode cX9_end 56 = .ok (.invokevirtual 37, 3) := by decide +kernel
theorem dX9_end_59 : decode cX9_end 59 = .ok (.iconst 1, 1) := by decide +kernel
theorem dX9_end_60 : decode cX9_end 60 = .ok (.if_icmp .ne 28, 3) := by decide +kernel
theorem dX9_end_63 : decode cX9_end 63 = .ok (.aload_n 0, 1) := by decide +kernel
theorem dX9_end_64 : decode cX9_end 64 = .ok (.getfield 7, 3) := by decide +kernel
theorem dX9_end_67 : decode cX9_end 67 = .ok (.bipush 11, 2) := by decide +kernel
theorem dX9_end_69 : decode cX9_end 69 = .ok (.aload_n 0, 1) := by decide +kernel
theorem dX9_end_70 : decode cX9_end 70 = .ok (.aload_n 0, 1) := by decide +kernel
theorem dX9_end_71 : decode cX9_end 71 = .ok (.iload_n 1, 1) := by decide +kernel
theorem dX9_end_72 : decode cX9_end 72 = .ok (.iconst 1, 1) := by decide +kernel
theorem dX9_end_73 : decode cX9_end 73 = .ok (.invokevirtual 37, 3) := by decide +kernel
theorem dX9_end_76 : decode cX9_end 76 = .ok (.invokevirtual 65, 3) := by decide +kernel
theorem dX9_end_79 : decode cX9_end 79 = .ok (.iadd, 1) := by decide +kernel
theorem dX9_end_80 : decode cX9_end 80 = .ok (.dup2, 1) := by decide +kernel
theorem dX9_end_81 : decode cX9_end 81 = .ok (.iaload, 1) := by decide +kernel
theorem dX9_end_82 : decode cX9_end 82 = .ok (.iload_n 2, 1) := by decide +kernel
theorem dX9_end_83 : decode cX9_end 83 = .ok (.iadd, 1) := by decide +kernel
theorem dX9_end_84 : decode cX9_end 84 = .ok (.iastore, 1) := by decide +kernel
theorem dX9_end_85 : decode cX9_end 85 = .ok (.goto 25, 3) := by decide +kernel
theorem dX9_end_88 : decode cX9_end 88 = .ok (.aload_n 0, 1) := by decide +kernel
theorem dX9_end_89 : decode cX9_end 89 = .ok (.getfield 7, 3) := by decide +kernel
theorem dX9_end_92 : decode cX9_end 92 = .ok (.bipush 7, 2) := by decide +kernel
theorem dX9_end_94 : decode cX9_end 94 = .ok (.dup2, 1) := by decide +kernel
theorem dX9_end_95 : decode cX9_end 95 = .ok (.iaload, 1) := by decide +kernel
theorem dX9_end_96 : decode cX9_end 96 = .ok (.iload_n 2, 1) := by decide +kernel
theorem dX9_end_97 : decode cX9_end 97 = .ok (.iadd, 1) := by decide +kernel
theorem dX9_end_98 : decode cX9_end 98 = .ok (.iastore, 1) := by decide +kernel
theorem dX9_end_99 : decode cX9_end 99 = .ok (.aload_n 0, 1) := by decide +kernel
theorem dX9_end_100 : decode cX9_end 100 = .ok (.getfield 7, 3) := by decide +kernel
theorem dX9_end_103 : decode cX9_end 103 = .ok (.bipush 9, 2) := by decide +kernel
theorem dX9_end_105 : decode cX9_end 105 = .ok (.dup2, 1) := by decide +kernel
theorem dX9_end_106 : decode cX9_end 106 = .ok (.iaload, 1) := by decide +kernel
theorem dX9_end_107 : decode cX9_end 107 = .ok (.iconst 1, 1) := by decide +kernel
theorem dX9_end_108 : decode cX9_end 108 = .ok (.iadd, 1) := by decide +kernel
theorem dX9_end_109 : decode cX9_end 109 = .ok (.iastore, 1) := by decide +kernel
theorem dX9_end_110 : decode cX9_end 110 = .ok (.iload_n 2, 1) := by decide +kernel
theorem dX9_end_111 : decode cX9_end 111 = .ok (.ireturn, 1) := by decide +kernel
theorem dX9_discard_0 : decode cX9_discard 0 = .ok (.aload_n 0, 1) := by decide +kernel
theorem dX9_discard_1 : decode cX9_discard 1 = .ok (.iload_n 1, 1) := by decide +kernel
theorem dX9_discard_2 : decode cX9_discard 2 = .ok (.invokevirtual 44, 3) := by decide +kernel
theorem dX9_discard_5 : decode cX9_discard 5 = .ok (.ifCond .ne 5, 3) := by decide +kernel
theorem dX9_discard_8 : decode cX9_discard 8 = .ok (.iconst (-1), 1) := by decide +kernel
theorem dX9_discard_9 : decode cX9_discard 9 = .ok (.ireturn, 1) := by decide +kernel
theorem dX9_discard_10 : decode cX9_discard 10 = .ok (.aload_n 0, 1) := by decide +kernel
theorem dX9_discard_11 : decode cX9_discard 11 = .ok (.invokevirtual 41, 3) := by decide +kernel
theorem dX9_discard_14 : decode cX9_discard 14 = .ok (.aload_n 0, 1) := by decide +kernel
theorem dX9_discard_15 : decode cX9_discard 15 = .ok (.iload_n 1, 1) := by decide +kernel
theorem dX9_discard_16 : decode cX9_discard 16 = .ok (.invokevirtual 108, 3) := by decide +kernel
theorem dX9_discard_19 : decode cX9_discard 19 = .ok (.istore_n 2, 1) := by decide +kernel
theorem dX9_discard_20 : decode cX9_discard 20 = .ok (.aload_n 0, 1) := by decide +kernel
theorem dX9_discard_21 : decode cX9_discard 21 = .ok (.getfield 7, 3) := by decide +kernel
theorem dX9_discard_24 : decode cX9_discard 24 = .ok (.bipush 8, 2) := by decide +kernel
theorem dX9_discard_26 : decode cX9_discard 26 = .ok (.dup2, 1) := by decide +kernel
theorem dX9_discard_27 : decode cX9_discard 27 = .ok (.iaload, 1) := by decide +kernel
theorem dX9_discard_28 : decode cX9_discard 28 = .ok (.iload_n 2, 1) := by decide +kernel
theorem dX9_discard_29 : decode cX9_discard 29 = .ok (.iadd, 1) := by decide +kernel
theorem dX9_discard_30 : decode cX9_discard 30 = .ok (.iastore, 1) := by decide +kernel
theorem dX9_discard_31 : decode cX9_discard 31 = .ok (.iload_n 2, 1) := by decide +kernel
theorem dX9_discard_32 : decode cX9_discard 32 = .ok (.ireturn, 1) := by decide +kernel
theorem dX9_canBlend_0 : decode cX9_canBlend 0 = .ok (.aload_n 0, 1) := by decide +kernel
theorem dX9_canBlend_1 : decode cX9_canBlend 1 = .ok (.iload_n 1, 1) := by decide +kernel
theorem dX9_canBlend_2 : decode cX9_canBlend 2 = .ok (.iconst 3, 1) := by decide +kernel
theorem dX9_canBlend_3 : decode cX9_canBlend 3 = .ok (.invokevirtual 37, 3) := by decide +kernel
theorem dX9_canBlend_6 : decode cX9_canBlend 6 = .ok (.ifCond .ne 39, 3) := by decide +kernel
theorem dX9_canBlend_9 : decode cX9_canBlend 9 = .ok (.aload_n 0, 1) := by decide +kernel
theorem dX9_canBlend_10 : decode cX9_canBlend 10 = .ok (.iload_n 1, 1) := by decide +kernel
theorem dX9_canBlend_11 : decode cX9_canBlend 11 = .ok (.bipush 6, 2) := by decide +kernel
theorem dX9_canBlend_13 : decode cX9_canBlend 13 = .ok (.invokevirtual 37, 3) := by decide +kernel
theorem dX9_canBlend_16 : decode cX9_canBlend 16 = .ok (.ifCond .ne 29, 3) := by decide +kernel
theorem dX9_canBlend_19 : decode cX9_canBlend 19 = .ok (.aload_n 0, 1) := by decide +kernel
theorem dX9_canBlend_20 : decode cX9_canBlend 20 = .ok (.aload_n 0, 1) := by decide +kernel
theorem dX9_canBlend_21 : decode cX9_canBlend 21 = .ok (.iload_n 1, 1) := by decide +kernel
theorem dX9_canBlend_22 : decode cX9_canBlend 22 = .ok (.iconst 4, 1) := by decide +kernel
theorem dX9_canBlend_23 : decode cX9_canBlend 23 = .ok (.invokevirtual 37, 3) := by decide +kernel
theorem dX9_canBlend_26 : decode cX9_canBlend 26 = .ok (.iconst 1, 1) := by decide +kernel
theorem dX9_canBlend_27 : decode cX9_canBlend 27 = .ok (.invokevirtual 78, 3) := by decide +kernel
theorem dX9_canBlend_30 : decode cX9_canBlend 30 = .ok (.aload_n 0, 1) := by decide +kernel
theorem dX9_canBlend_31 : decode cX9_canBlend 31 = .ok (.iload_n 1, 1) := by decide +kernel
theorem dX9_canBlend_32 : decode cX9_canBlend 32 = .ok (.iconst 2, 1) := by decide +kernel
theorem dX9_canBlend_33 : decode cX9_canBlend 33 = .ok (.invokevirtual 37, 3) := by decide +kernel
theorem dX9_canBlend_36 : decode cX9_canBlend 36 = .ok (.isub, 1) := by decide +kernel
theorem dX9_canBlend_37 : decode cX9_canBlend 37 = .ok (.iload_n 2, 1) := by decide +kernel
theorem dX9_canBlend_38 : decode cX9_canBlend 38 = .ok (.if_icmp .lt 7, 3) := by decide +kernel
theorem dX9_canBlend_41 : decode cX9_canBlend 41 = .ok (.iconst 1, 1) := by decide +kernel
theorem dX9_canBlend_42 : decode cX9_canBlend 42 = .ok (.goto 4, 3) := by decide +kernel
theorem dX9_canBlend_45 : decode cX9_canBlend 45 = .ok (.iconst 0, 1) := by decide +kernel
theorem dX9_canBlend_46 : decode cX9_canBlend 46 = .ok (.istore_n 3, 1) := by decide +kernel
theorem dX9_canBlend_47 : decode cX9_canBlend 47 = .ok (.iload_n 3, 1) := by decide +kernel
theorem dX9_canBlend_48 : decode cX9_canBlend 48 = .ok (.ifCond .eq 58, 3) := by decide +kernel
theorem dX9_canBlend_51 : decode cX9_canBlend 51 = .ok (.aload_n 0, 1) := by decide +kernel
theorem dX9_canBlend_52 : decode cX9_canBlend 52 = .ok (.iload_n 1, 1) := by decide +kernel
theorem dX9_canBlend_53 : decode cX9_canBlend 53 = .ok (.bipush 7, 2) := by decide +kernel
theorem dX9_canBlend_55 : decode cX9_canBlend 55 = .ok (.invokevirtual 37, 3) := by decide +kernel
theorem dX9_canBlend_58 : decode cX9_canBlend 58 = .ok (.iload_n 2, 1) := by decide +kernel
theorem dX9_canBlend_59 : decode cX9_canBlend 59 = .ok (.iadd, 1) := by decide +kernel
theorem dX9_canBlend_60 : decode cX9_canBlend 60 = .ok (.aload_n 0, 1) := by decide +kernel
theorem dX9_canBlend_61 : decode cX9_canBlend 61 = .ok (.getfield 7, 3) := by decide +kernel
theorem dX9_canBlend_64 : decode cX9_canBlend 64 = .ok (.iconst 1, 1) := by decide +kernel
theorem dX9_canBlend_65 : decode cX9_canBlend 65 = .ok (.iaload, 1) := by decide +kernel
theorem dX9_canBlend_66 : decode cX9_canBlend 66 = .ok (.aload_n 0, 1) := by decide +kernel
theorem dX9_canBlend_67 : decode cX9_canBlend 67 = .ok (.iload_n 1, 1) := by decide +kernel
theorem dX9_canBlend_68 : decode cX9_canBlend 68 = .ok (.bipush 8, 2) := by decide +kernel
theorem dX9_canBlend_70 : decode cX9_canBlend 70 = .ok (.invokevirtual 37, 3) := by decide +kernel
theorem dX9_canBlend_73 : decode cX9_canBlend 73 = .ok (.imul, 1) := by decide +kernel
theorem dX9_canBlend_74 : decode cX9_canBlend 74 = .ok (.bipush 100, 2) := by decide +kernel
theorem dX9_canBlend_76 : decode cX9_canBlend 76 = .ok (.idiv, 1) := by decide +kernel
theorem dX9_canBlend_77 : decode cX9_canBlend 77 = .ok (.if_icmp .gt 29, 3) := by decide +kernel
theorem dX9_canBlend_80 : decode cX9_canBlend 80 = .ok (.aload_n 0, 1) := by decide +kernel
theorem dX9_canBlend_81 : decode cX9_canBlend 81 = .ok (.getfield 7, 3) := by decide +kernel
theorem dX9_canBlend_84 : decode cX9_canBlend 84 = .ok (.bipush 11, 2) := by decide +kernel
theorem dX9_canBlend_86 : decode cX9_canBlend 86 = .ok (.aload_n 0, 1) := by decide +kernel
theorem dX9_canBlend_87 : decode cX9_canBlend 87 = .ok (.aload_n 0, 1) := by decide +kernel
theorem dX9_canBlend_88 : decode cX9_canBlend 88 = .ok (.iload_n 1, 1) := by decide +kernel
theorem dX9_canBlend_89 : decode cX9_canBlend 89 = .ok (.iconst 1, 1) := by decide +kernel
theorem dX9_canBlend_90 : decode cX9_canBlend 90 = .ok (.invokevirtual 37, 3) := by decide +kernel
theorem dX9_canBlend_93 : decode cX9_canBlend 93 = .ok (.invokevirtual 65, 3) := by decide +kernel
theorem dX9_canBlend_96 : decode cX9_canBlend 96 = .ok (.iadd, 1) := by decide +kernel
theorem dX9_canBlend_97 : decode cX9_canBlend 97 = .ok (.iaload, 1) := by decide +kernel
theorem dX9_canBlend_98 : decode cX9_canBlend 98 = .ok (.iload_n 2, 1) := by decide +kernel
theorem dX9_canBlend_99 : decode cX9_canBlend 99 = .ok (.if_icmp .lt 7, 3) := by decide +kernel
theorem dX9_canBlend_102 : decode cX9_canBlend 102 = .ok (.iconst 1, 1) := by decide +kernel
theorem dX9_canBlend_103 : decode cX9_canBlend 103 = .ok (.goto 4, 3) := by decide +kernel
theorem dX9_canBlend_106 : decode cX9_canBlend 106 = .ok (.iconst 0, 1) := by decide +kernel
theorem dX9_canBlend_107 : decode cX9_canBlend 107 = .ok (.ireturn, 1) := by decide +kernel
theorem dX9_blend_0 : decode cX9_blend 0 = .ok (.aload_n 0, 1) := by decide +kernel
theorem dX9_blend_1 : decode cX9_blend 1 = .ok (.iload_n 1, 1) := by decide +kernel
theorem dX9_blend_2 : decode cX9_blend 2 = .ok (.invokevirtual 44, 3) := by decide +kernel
theorem dX9_blend_5 : decode cX9_blend 5 = .ok (.ifCond .eq 14, 3) := by decide +kernel
theorem dX9_blend_8 : decode cX9_blend 8 = .ok (.iload_n 2, 1) := by decide +kernel
theorem dX9_blend_9 : decode cX9_blend 9 = .ok (.iconst 1, 1) := by decide +kernel
theorem dX9_blend_10 : decode cX9_blend 10 = .ok (.sipush 999, 3) := by decide +kernel
theorem dX9_blend_13 : decode cX9_blend 13 = .ok (.invokestatic 33, 3) := by decide +kernel
theorem dX9_blend_16 : decode cX9_blend 16 = .ok (.ifCond .ne 5, 3) := by decide +kernel
theorem dX9_blend_19 : decode cX9_blend 19 = .ok (.iconst (-1), 1) := by decide +kernel
theorem dX9_blend_20 : decode cX9_blend 20 = .ok (.ireturn, 1) := by decide +kernel
theorem dX9_blend_21 : decode cX9_blend 21 = .ok (.aload_n 0, 1) := by decide +kernel
theorem dX9_blend_22 : decode cX9_blend 22 = .ok (.iload_n 1, 1) := by decide +kernel
theorem dX9_blend_23 : decode cX9_blend 23 = .ok (.iload_n 2, 1) := by decide +kernel
theorem dX9_blend_24 : decode cX9_blend 24 = .ok (.invokevirtual 111, 3) := by decide +kernel
theorem dX9_blend_27 : decode cX9_blend 27 = .ok (.ifCond .ne 6, 3) := by decide +kernel
theorem dX9_blend_30 : decode cX9_blend 30 = .ok (.bipush (-2), 2) := by decide +kernel
theorem dX9_blend_32 : decode cX9_blend 32 = .ok (.ireturn, 1) := by decide +kernel
theorem dX9_blend_33 : decode cX9_blend 33 = .ok (.aload_n 0, 1) := by decide +kernel
theorem dX9_blend_34 : decode cX9_blend 34 = .ok (.invokevirtual 41, 3) := by decide +kernel
theorem dX9_blend_37 : decode cX9_blend 37 = .ok (.aload_n 0, 1) := by decide +kernel
theorem dX9_blend_38 : decode cX9_blend 38 = .ok (.getfield 7, 3) := by decide +kernel
theorem dX9_blend_41 : decode cX9_blend 41 = .ok (.bipush 11, 2) := by decide +kernel
theorem dX9_blend_43 : decode cX9_blend 43 = .ok (.aload_n 0, 1) := by decide +kernel
theorem dX9_blend_44 : decode cX9_blend 44 = .ok (.aload_n 0, 1) := by decide +kernel
theorem dX9_blend_45 : decode cX9_blend 45 = .ok (.iload_n 1, 1) := by decide +kernel
theorem dX9_blend_46 : decode cX9_blend 46 = .ok (.iconst 1, 1) := by decide +kernel
theorem dX9_blend_47 : decode cX9_blend 47 = .ok (.invokevirtual 37, 3) := by decide +kernel
theorem dX9_blend_50 : decode cX9_blend 50 = .ok (.invokevirtual 65, 3) := by decide +kernel
theorem dX9_blend_53 : decode cX9_blend 53 = .ok (.iadd, 1) := by decide +kernel
theorem dX9_blend_54 : decode cX9_blend 54 = .ok (.dup2, 1) := by decide +kernel
theorem dX9_blend_55 : decode cX9_blend 55 = .ok (.iaload, 1) := by decide +kernel
theorem dX9_blend_56 : decode cX9_blend 56 = .ok (.iload_n 2, 1) := by decide +kernel
theorem dX9_blend_57 : decode cX9_blend 57 = .ok (.isub, 1) := by decide +kernel
theorem dX9_blend_58 : decode cX9_blend 58 = .ok (.iastore, 1) := by decide +kernel
theorem dX9_blend_59 : decode cX9_blend 59 = .ok (.aload_n 0, 1) := by decide +kernel
theorem dX9_blend_60 : decode cX9_blend 60 = .ok (.iload_n 1, 1) := by decide +kernel
theorem dX9_blend_61 : decode cX9_blend 61 = .ok (.bipush 7, 2) := by decide +kernel
theorem dX9_blend_63 : decode cX9_blend 63 = .ok (.aload_n 0, 1) := by decide +kernel
theorem dX9_blend_64 : decode cX9_blend 64 = .ok (.iload_n 1, 1) := by decide +kernel
theorem dX9_blend_65 : decode cX9_blend 65 = .ok (.bipush 7, 2) := by decide +kernel
theorem dX9_blend_67 : decode cX9_blend 67 = .ok (.invokevirtual 37, 3) := by decide +kernel
theorem dX9_blend_70 : decode cX9_blend 70 = .ok (.iload_n 2, 1) := by decide +kernel
theorem dX9_blend_71 : decode cX9_blend 71 = .ok (.iadd, 1) := by decide +kernel
theorem dX9_blend_72 : decode cX9_blend 72 = .ok (.invokevirtual 84, 3) := by decide +kernel
theorem dX9_blend_75 : decode cX9_blend 75 = .ok (.aload_n 0, 1) := by decide +kernel
theorem dX9_blend_76 : decode cX9_blend 76 = .ok (.iload_n 1, 1) := by decide +kernel
theorem dX9_blend_77 : decode cX9_blend 77 = .ok (.iconst 2, 1) := by decide +kernel
theorem dX9_blend_78 : decode cX9_blend 78 = .ok (.aload_n 0, 1) := by decide +kernel
theorem dX9_blend_79 : decode cX9_blend 79 = .ok (.iload_n 1, 1) := by decide +kernel
theorem dX9_blend_80 : decode cX9_blend 80 = .ok (.iconst 2, 1) := by decide +kernel
theorem dX9_blend_81 : decode cX9_blend 81 = .ok (.invokevirtual 37, 3) := by decide +kernel
theorem dX9_blend_84 : decode cX9_blend 84 = .ok (.iload_n 2, 1) := by decide +kernel
theorem dX9_blend_85 : decode cX9_blend 85 = .ok (.iadd, 1) := by decide +kernel
theorem dX9_blend_86 : decode cX9_blend 86 = .ok (.invokevirtual 84, 3) := by decide +kernel
theorem dX9_blend_89 : decode cX9_blend 89 = .ok (.aload_n 0, 1) := by decide +kernel
theorem dX9_blend_90 : decode cX9_blend 90 = .ok (.iload_n 1, 1) := by decide +kernel
theorem dX9_blend_91 : decode cX9_blend 91 = .ok (.iconst 2, 1) := by decide +kernel
theorem dX9_blend_92 : decode cX9_blend 92 = .ok (.invokevirtual 37, 3) := by decide +kernel
theorem dX9_blend_95 : decode cX9_blend 95 = .ok (.ireturn, 1) := by decide +kernel
theorem dX9_pass_0 : decode cX9_pass 0 = .ok (.iload_n 1, 1) := by decide +kernel
theorem dX9_pass_1 : decode cX9_pass 1 = .ok (.iconst 1, 1) := by decide +kernel
theorem dX9_pass_2 : decode cX9_pass 2 = .ok (.sipush 999, 3) := by decide +kernel
theorem dX9_pass_5 : decode cX9_pass 5 = .ok (.invokestatic 33, 3) := by decide +kernel
theorem dX9_pass_8 : decode cX9_pass 8 = .ok (.ifCond .ne 5, 3) := by decide +kernel
theorem dX9_pass_11 : decode cX9_pass 11 = .ok (.iconst (-1), 1) := by decide +kernel
theorem dX9_pass_12 : decode cX9_pass 12 = .ok (.ireturn, 1) := by decide +kernel
theorem dX9_pass_13 : decode cX9_pass 13 = .ok (.aload_n 0, 1) := by decide +kernel
theorem dX9_pass_14 : decode cX9_pass 14 = .ok (.getfield 7, 3) := by decide +kernel
theorem dX9_pass_17 : decode cX9_pass 17 = .ok (.iconst 5, 1) := by decide +kernel
theorem dX9_pass_18 : decode cX9_pass 18 = .ok (.iaload, 1) := by decide +kernel
theorem dX9_pass_19 : decode cX9_pass 19 = .ok (.iload_n 1, 1) := by decide +kernel
theorem dX9_pass_20 : decode cX9_pass 20 = .ok (.iadd, 1) := by decide +kernel
theorem dX9_pass_21 : decode cX9_pass 21 = .ok (.sipush 30000, 3) := by decide +kernel
theorem dX9_pass_24 : decode cX9_pass 24 = .ok (.if_icmp .le 6, 3) := by decide +kernel
theorem dX9_pass_27 : decode cX9_pass 27 = .ok (.bipush (-3), 2) := by decide +kernel
theorem dX9_pass_29 : decode cX9_pass 29 = .ok (.ireturn, 1) := by decide +kernel
theorem dX9_pass_30 : decode cX9_pass 30 = .ok (.aload_n 0, 1) := by decide +kernel
theorem dX9_pass_31 : decode cX9_pass 31 = .ok (.invokevirtual 41, 3) := by decide +kernel
theorem dX9_pass_34 : decode cX9_pass 34 = .ok (.aload_n 0, 1) := by decide +kernel
theorem dX9_pass_35 : decode cX9_pass 35 = .ok (.getfield 7, 3) := by decide +kernel
theorem dX9_pass_38 : decode cX9_pass 38 = .ok (.iconst 5, 1) := by decide +kernel
theorem dX9_pass_39 : decode cX9_pass 39 = .ok (.dup2, 1) := by decide +kernel
theorem dX9_pass_40 : decode cX9_pass 40 = .ok (.iaload, 1) := by decide +kernel
theorem dX9_pass_41 : decode cX9_pass 41 = .ok (.iload_n 1, 1) := by decide +kernel
theorem dX9_pass_42 : decode cX9_pass 42 = .ok (.iadd, 1) := by decide +kernel
theorem dX9_pass_43 : decode cX9_pass 43 = .ok (.iastore, 1) := by decide +kernel
theorem dX9_pass_44 : decode cX9_pass 44 = .ok (.iconst 0, 1) := by decide +kernel
theorem dX9_pass_45 : decode cX9_pass 45 = .ok (.istore_n 2, 1) := by decide +kernel
theorem dX9_pass_46 : decode cX9_pass 46 = .ok (.iconst 0, 1) := by decide +kernel
theorem dX9_pass_47 : decode cX9_pass 47 = .ok (.istore_n 3, 1) := by decide +kernel
theorem dX9_pass_48 : decode cX9_pass 48 = .ok (.iload_n 3, 1) := by decide +kernel
theorem dX9_pass_49 : decode cX9_pass 49 = .ok (.bipush 6, 2) := by decide +kernel
theorem dX9_pass_51 : decode cX9_pass 51 = .ok (.if_icmp .ge 52, 3) := by decide +kernel
theorem dX9_pass_54 : decode cX9_pass 54 = .ok (.aload_n 0, 1) := by decide +kernel
theorem dX9_pass_55 : decode cX9_pass 55 = .ok (.iload_n 3, 1) := by decide +kernel
theorem dX9_pass_56 : decode cX9_pass 56 = .ok (.invokevirtual 44, 3) := by decide +kernel
theorem dX9_pass_59 : decode cX9_pass 59 = .ok (.ifCond .eq 38, 3) := by decide +kernel
theorem dX9_pass_62 : decode cX9_pass 62 = .ok (.aload_n 0, 1) := by decide +kernel
theorem dX9_pass_63 : decode cX9_pass 63 = .ok (.iload_n 3, 1) := by decide +kernel
theorem dX9_pass_64 : decode cX9_pass 64 = .ok (.bipush 6, 2) := by decide +kernel
theorem dX9_pass_66 : decode cX9_pass 66 = .ok (.invokevirtual 37, 3) := by decide +kernel
theorem dX9_pass_69 : decode cX9_pass 69 = .ok (.ifCond .ne 28, 3) := by decide +kernel
theorem dX9_pass_72 : decode cX9_pass 72 = .ok (.aload_n 0, 1) := by decide +kernel
theorem dX9_pass_73 : decode cX9_pass 73 = .ok (.getfield 7, 3) := by decide +kernel
theorem dX9_pass_76 : decode cX9_pass 76 = .ok (.iconst 5, 1) := by decide +kernel
theorem dX9_pass_77 : decode cX9_pass 77 = .ok (.iaload, 1) := by decide +kernel
theorem dX9_pass_78 : decode cX9_pass 78 = .ok (.aload_n 0, 1) := by decide +kernel
theorem dX9_pass_79 : decode cX9_pass 79 = .ok (.iload_n 3, 1) := by decide +kernel
theorem dX9_pass_80 : decode cX9_pass 80 = .ok (.invokevirtual 115, 3) := by decide +kernel
theorem dX9_pass_83 : decode cX9_pass 83 = .ok (.if_icmp .le 14, 3) := by decide +kernel
theorem dX9_pass_86 : decode cX9_pass 86 = .ok (.aload_n 0, 1) := by decide +kernel
theorem dX9_pass_87 : decode cX9_pass 87 = .ok (.iload_n 3, 1) := by decide +kernel
theorem dX9_pass_88 : decode cX9_pass 88 = .ok (.bipush 6, 2) := by decide +kernel
theorem dX9_pass_90 : decode cX9_pass 90 = .ok (.iconst 1, 1) := by decide +kernel
theorem dX9_pass_91 : decode cX9_pass 91 = .ok (.invokevirtual 84, 3) := by decide +kernel
theorem dX9_pass_94 : decode cX9_pass 94 = .ok (.iinc 2 1, 3) := by decide +kernel
theorem dX9_pass_97 : decode cX9_pass 97 = .ok (.iinc 3 1, 3) := by decide +kernel
theorem dX9_pass_100 : decode cX9_pass 100 = .ok (.goto (-52), 3) := by decide +kernel
theorem dX9_pass_103 : decode cX9_pass 103 = .ok (.aload_n 0, 1) := by decide +kernel
theorem dX9_pass_104 : decode cX9_pass 104 = .ok (.getfield 7, 3) := by decide +kernel
theorem dX9_pass_107 : decode cX9_pass 107 = .ok (.bipush 10, 2) := by decide +kernel
theorem dX9_pass_109 : decode cX9_pass 109 = .ok (.dup2, 1) := by decide +kernel
theorem dX9_pass_110 : decode cX9_pass 110 = .ok (.iaload, 1) := by decide +kernel
theorem dX9_pass_111 : decode cX9_pass 111 = .ok (.iload_n 2, 1) := by decide +kernel
theorem dX9_pass_112 : decode cX9_pass 112 = .ok (.iadd, 1) := by decide +kernel
theorem dX9_pass_113 : decode cX9_pass 113 = .ok (.iastore, 1) := by decide +kernel
theorem dX9_pass_114 : decode cX9_pass 114 = .ok (.iload_n 2, 1) := by decide +kernel
theorem dX9_pass_115 : decode cX9_pass 115 = .ok (.ireturn, 1) := by decide +kernel
theorem dX9_set_0 : decode cX9_set 0 = .ok (.iload_n 1, 1) := by decide +kernel
theorem dX9_set_1 : decode cX9_set 1 = .ok (.iconst 0, 1) := by decide +kernel
theorem dX9_set_2 : decode cX9_set 2 = .ok (.iconst 1, 1) := by decide +kernel
theorem dX9_set_3 : decode cX9_set 3 = .ok (.invokestatic 33, 3) := by decide +kernel
theorem dX9_set_6 : decode cX9_set 6 = .ok (.ifCond .eq 22, 3) := by decide +kernel
theorem dX9_set_9 : decode cX9_set 9 = .ok (.iload_n 2, 1) := by decide +kernel
theorem dX9_set_10 : decode cX9_set 10 = .ok (.iconst 0, 1) := by decide +kernel
theorem dX9_set_11 : decode cX9_set 11 = .ok (.iload_n 1, 1) := by decide +kernel
theorem dX9_set_12 : decode cX9_set 12 = .ok (.ifCond .ne 8, 3) := by decide +kernel
theorem dX9_set_15 : decode cX9_set 15 = .ok (.bipush 100, 2) := by decide +kernel
theorem dX9_set_17 : decode cX9_set 17 = .ok (.goto 5, 3) := by decide +kernel
theorem dX9_set_20 : decode cX9_set 20 = .ok (.bipush 50, 2) := by decide +kernel
theorem dX9_set_22 : decode cX9_set 22 = .ok (.invokestatic 33, 3) := by decide +kernel
theorem dX9_set_25 : decode cX9_set 25 = .ok (.ifCond .ne 5, 3) := by decide +kernel
theorem dX9_set_28 : decode cX9_set 28 = .ok (.iconst (-1), 1) := by decide +kernel
theorem dX9_set_29 : decode cX9_set 29 = .ok (.ireturn, 1) := by decide +kernel
theorem dX9_set_30 : decode cX9_set 30 = .ok (.aload_n 0, 1) := by decide +kernel
theorem dX9_set_31 : decode cX9_set 31 = .ok (.invokevirtual 41, 3) := by decide +kernel
theorem dX9_set_34 : decode cX9_set 34 = .ok (.aload_n 0, 1) := by decide +kernel
theorem dX9_set_35 : decode cX9_set 35 = .ok (.getfield 7, 3) := by decide +kernel
theorem dX9_set_38 : decode cX9_set 38 = .ok (.iload_n 1, 1) := by decide +kernel
theorem dX9_set_39 : decode cX9_set 39 = .ok (.iaload, 1) := by decide +kernel
theorem dX9_set_40 : decode cX9_set 40 = .ok (.istore_n 3, 1) := by decide +kernel
theorem dX9_set_41 : decode cX9_set 41 = .ok (.aload_n 0, 1) := by decide +kernel
theorem dX9_set_42 : decode cX9_set 42 = .ok (.getfield 7, 3) := by decide +kernel
theorem dX9_set_45 : decode cX9_set 45 = .ok (.iload_n 1, 1) := by decide +kernel
theorem dX9_set_46 : decode cX9_set 46 = .ok (.iload_n 2, 1) := by decide +kernel
theorem dX9_set_47 : decode cX9_set 47 = .ok (.iastore, 1) := by decide +kernel
theorem dX9_set_48 : decode cX9_set 48 = .ok (.iload_n 3, 1) := by decide +kernel
theorem dX9_set_49 : decode cX9_set 49 = .ok (.ireturn, 1) := by decide +kernel
theorem dX9_batchOf_0 : decode cX9_batchOf 0 = .ok (.aload_n 0, 1) := by decide +kernel
theorem dX9_batchOf_1 : decode cX9_batchOf 1 = .ok (.iload_n 1, 1) := by decide +kernel
theorem dX9_batchOf_2 : decode cX9_batchOf 2 = .ok (.invokevirtual 44, 3) := by decide +kernel
theorem dX9_batchOf_5 : decode cX9_batchOf 5 = .ok (.ifCond .eq 13, 3) := by decide +kernel
theorem dX9_batchOf_8 : decode cX9_batchOf 8 = .ok (.iload_n 2, 1) := by decide +kernel
theorem dX9_batchOf_9 : decode cX9_batchOf 9 = .ok (.iconst 0, 1) := by decide +kernel
theorem dX9_batchOf_10 : decode cX9_batchOf 10 = .ok (.bipush 10, 2) := by decide +kernel
theorem dX9_batchOf_12 : decode cX9_batchOf 12 = .ok (.invokestatic 33, 3) := by decide +kernel
theorem dX9_batchOf_15 : decode cX9_batchOf 15 = .ok (.ifCond .ne 5, 3) := by decide +kernel
theorem dX9_batchOf_18 : decode cX9_batchOf 18 = .ok (.iconst (-1), 1) := by decide +kernel
theorem dX9_batchOf_19 : decode cX9_batchOf 19 = .ok (.ireturn, 1) := by decide +kernel
theorem dX9_batchOf_20 : decode cX9_batchOf 20 = .ok (.iload_n 2, 1) := by decide +kernel
theorem dX9_batchOf_21 : decode cX9_batchOf 21 = .ok (.tableswitch 112 5 10 #[39, 70, 84, 92, 100, 106], 39) := by decide +kernel
theorem dX9_batchOf_60 : decode cX9_batchOf 60 = .ok (.aload_n 0, 1) := by decide +kernel
theorem dX9_batchOf_61 : decode cX9_batchOf 61 = .ok (.getfield 7, 3) := by decide +kernel
theorem dX9_batchOf_64 : decode cX9_batchOf 64 = .ok (.iconst 5, 1) := by decide +kernel
theorem dX9_batchOf_65 : decode cX9_batchOf 65 = .ok (.iaload, 1) := by decide +kernel
theorem dX9_batchOf_66 : decode cX9_batchOf 66 = .ok (.aload_n 0, 1) := by decide +kernel
theorem dX9_batchOf_67 : decode cX9_batchOf 67 = .ok (.iload_n 1, 1) := by decide +kernel
theorem dX9_batchOf_68 : decode cX9_batchOf 68 = .ok (.invokevirtual 72, 3) := by decide +kernel
theorem dX9_batchOf_71 : decode cX9_batchOf 71 = .ok (.if_icmp .le 18, 3) := by decide +kernel
theorem dX9_batchOf_74 : decode cX9_batchOf 74 = .ok (.aload_n 0, 1) := by decide +kernel
theorem dX9_batchOf_75 : decode cX9_batchOf 75 = .ok (.getfield 7, 3) := by decide +kernel
theorem dX9_batchOf_78 : decode cX9_batchOf 78 = .ok (.iconst 5, 1) := by decide +kernel
theorem dX9_batchOf_79 : decode cX9_batchOf 79 = .ok (.iaload, 1) := by decide +kernel
theorem dX9_batchOf_80 : decode cX9_batchOf 80 = .ok (.aload_n 0, 1) := by decide +kernel
theorem dX9_batchOf_81 : decode cX9_batchOf 81 = .ok (.iload_n 1, 1) := by decide +kernel
theorem dX9_batchOf_82 : decode cX9_batchOf 82 = .ok (.invokevirtual 72, 3) := by decide +kernel
theorem dX9_batchOf_85 : decode cX9_batchOf 85 = .ok (.isub, 1) := by decide +kernel
theorem dX9_batchOf_86 : decode cX9_batchOf 86 = .ok (.goto 4, 3) := by decide +kernel
theorem dX9_batchOf_89 : decode cX9_batchOf 89 = .ok (.iconst 0, 1) := by decide +kernel
theorem dX9_batchOf_90 : decode cX9_batchOf 90 = .ok (.ireturn, 1) := by decide +kernel
theorem dX9_batchOf_91 : decode cX9_batchOf 91 = .ok (.aload_n 0, 1) := by decide +kernel
theorem dX9_batchOf_92 : decode cX9_batchOf 92 = .ok (.iload_n 1, 1) := by decide +kernel
theorem dX9_batchOf_93 : decode cX9_batchOf 93 = .ok (.invokevirtual 96, 3) := by decide +kernel
theorem dX9_batchOf_96 : decode cX9_batchOf 96 = .ok (.ifCond .eq 7, 3) := by decide +kernel
theorem dX9_batchOf_99 : decode cX9_batchOf 99 = .ok (.iconst 1, 1) := by decide +kernel
theorem dX9_batchOf_100 : decode cX9_batchOf 100 = .ok (.goto 4, 3) := by decide +kernel
theorem dX9_batchOf_103 : decode cX9_batchOf 103 = .ok (.iconst 0, 1) := by decide +kernel
theorem dX9_batchOf_104 : decode cX9_batchOf 104 = .ok (.ireturn, 1) := by decide +kernel
theorem dX9_batchOf_105 : decode cX9_batchOf 105 = .ok (.aload_n 0, 1) := by decide +kernel
theorem dX9_batchOf_106 : decode cX9_batchOf 106 = .ok (.iload_n 1, 1) := by decide +kernel
theorem dX9_batchOf_107 : decode cX9_batchOf 107 = .ok (.bipush 6, 2) := by decide +kernel
theorem dX9_batchOf_109 : decode cX9_batchOf 109 = .ok (.invokevirtual 37, 3) := by decide +kernel
theorem dX9_batchOf_112 : decode cX9_batchOf 112 = .ok (.ireturn, 1) := by decide +kernel
theorem dX9_batchOf_113 : decode cX9_batchOf 113 = .ok (.aload_n 0, 1) := by decide +kernel
theorem dX9_batchOf_114 : decode cX9_batchOf 114 = .ok (.iload_n 1, 1) := by decide +kernel
theorem dX9_batchOf_115 : decode cX9_batchOf 115 = .ok (.bipush 7, 2) := by decide +kernel
theorem dX9_batchOf_117 : decode cX9_batchOf 117 = .ok (.invokevirtual 37, 3) := by decide +kernel
theorem dX9_batchOf_120 : decode cX9_batchOf 120 = .ok (.ireturn, 1) := by decide +kernel
theorem dX9_batchOf_121 : decode cX9_batchOf 121 = .ok (.aload_n 0, 1) := by decide +kernel
theorem dX9_batchOf_122 : decode cX9_batchOf 122 = .ok (.iload_n 1, 1) := by decide +kernel
theorem dX9_batchOf_123 : decode cX9_batchOf 123 = .ok (.invokevirtual 75, 3) := by decide +kernel
theorem dX9_batchOf_126 : decode cX9_batchOf 126 = .ok (.ireturn, 1) := by decide +kernel
theorem dX9_batchOf_127 : decode cX9_batchOf 127 = .ok (.aload_n 0, 1) := by decide +kernel
theorem dX9_batchOf_128 : decode cX9_batchOf 128 = .ok (.iload_n 1, 1) := by decide +kernel
theorem dX9_batchOf_129 : decode cX9_batchOf 129 = .ok (.invokevirtual 115, 3) := by decide +kernel
theorem dX9_batchOf_132 : decode cX9_batchOf 132 = .ok (.ireturn, 1) := by decide +kernel
theorem dX9_batchOf_133 : decode cX9_batchOf 133 = .ok (.aload_n 0, 1) := by decide +kernel
theorem dX9_batchOf_134 : decode cX9_batchOf 134 = .ok (.iload_n 1, 1) := by decide +kernel
theorem dX9_batchOf_135 : decode cX9_batchOf 135 = .ok (.iload_n 2, 1) := by decide +kernel
theorem dX9_batchOf_136 : decode cX9_batchOf 136 = .ok (.iconst 1, 1) := by decide +kernel
theorem dX9_batchOf_137 : decode cX9_batchOf 137 = .ok (.iadd, 1) := by decide +kernel
theorem dX9_batchOf_138 : decode cX9_batchOf 138 = .ok (.invokevirtual 37, 3) := by decide +kernel
theorem dX9_batchOf_141 : decode cX9_batchOf 141 = .ok (.ireturn, 1) := by decide +kernel
theorem dX9_vesselOf_0 : decode cX9_vesselOf 0 = .ok (.aload_n 0, 1) := by decide +kernel
theorem dX9_vesselOf_1 : decode cX9_vesselOf 1 = .ok (.iload_n 1, 1) := by decide +kernel
theorem dX9_vesselOf_2 : decode cX9_vesselOf 2 = .ok (.invokevirtual 87, 3) := by decide +kernel
theorem dX9_vesselOf_5 : decode cX9_vesselOf 5 = .ok (.ifCond .eq 12, 3) := by decide +kernel
theorem dX9_vesselOf_8 : decode cX9_vesselOf 8 = .ok (.iload_n 2, 1) := by decide +kernel
theorem dX9_vesselOf_9 : decode cX9_vesselOf 9 = .ok (.iconst 0, 1) := by decide +kernel
theorem dX9_vesselOf_10 : decode cX9_vesselOf 10 = .ok (.iconst 4, 1) := by decide +kernel
theorem dX9_vesselOf_11 : decode cX9_vesselOf 11 = .ok (.invokestatic 33, 3) := by decide +kernel
theorem dX9_vesselOf_14 : decode cX9_vesselOf 14 = .ok (.ifCond .ne 5, 3) := by decide +kernel
theorem dX9_vesselOf_17 : decode cX9_vesselOf 17 = .ok (.iconst (-1), 1) := by decide +kernel
theorem dX9_vesselOf_18 : decode cX9_vesselOf 18 = .ok (.ireturn, 1) := by decide +kernel
theorem dX9_vesselOf_19 : decode cX9_vesselOf 19 = .ok (.aload_n 0, 1) := by decide +kernel
theorem dX9_vesselOf_20 : decode cX9_vesselOf 20 = .ok (.iload_n 1, 1) := by decide +kernel
theorem dX9_vesselOf_21 : decode cX9_vesselOf 21 = .ok (.iload_n 2, 1) := by decide +kernel
theorem dX9_vesselOf_22 : decode cX9_vesselOf 22 = .ok (.invokevirtual 78, 3) := by decide +kernel
theorem dX9_vesselOf_25 : decode cX9_vesselOf 25 = .ok (.istore_n 3, 1) := by decide +kernel
theorem dX9_vesselOf_26 : decode cX9_vesselOf 26 = .ok (.iload_n 3, 1) := by decide +kernel
theorem dX9_vesselOf_27 : decode cX9_vesselOf 27 = .ok (.ifCond .ge 8, 3) := by decide +kernel
theorem dX9_vesselOf_30 : decode cX9_vesselOf 30 = .ok (.bipush (-4), 2) := by decide +kernel
theorem dX9_vesselOf_32 : decode cX9_vesselOf 32 = .ok (.goto 4, 3) := by decide +kernel
theorem dX9_vesselOf_35 : decode cX9_vesselOf 35 = .ok (.iload_n 3, 1) := by decide +kernel
theorem dX9_vesselOf_36 : decode cX9_vesselOf 36 = .ok (.ireturn, 1) := by decide +kernel
theorem dX9_lineOf_0 : decode cX9_lineOf 0 = .ok (.iload_n 1, 1) := by decide +kernel
theorem dX9_lineOf_1 : decode cX9_lineOf 1 = .ok (.iconst 0, 1) := by decide +kernel
theorem dX9_lineOf_2 : decode cX9_lineOf 2 = .ok (.aload_n 0, 1) := by decide +kernel
theorem dX9_lineOf_3 : decode cX9_lineOf 3 = .ok (.getfield 7, 3) := by decide +kernel
theorem dX9_lineOf_6 : decode cX9_lineOf 6 = .ok (.iconst 4, 1) := by decide +kernel
theorem dX9_lineOf_7 : decode cX9_lineOf 7 = .ok (.iaload, 1) := by decide +kernel
theorem dX9_lineOf_8 : decode cX9_lineOf 8 = .ok (.iconst 1, 1) := by decide +kernel
theorem dX9_lineOf_9 : decode cX9_lineOf 9 = .ok (.isub, 1) := by decide +kernel
theorem dX9_lineOf_10 : decode cX9_lineOf 10 = .ok (.invokestatic 33, 3) := by decide +kernel
theorem dX9_lineOf_13 : decode cX9_lineOf 13 = .ok (.ifCond .eq 12, 3) := by decide +kernel
theorem dX9_lineOf_16 : decode cX9_lineOf 16 = .ok (.iload_n 2, 1) := by decide +kernel
theorem dX9_lineOf_17 : decode cX9_lineOf 17 = .ok (.iconst 0, 1) := by decide +kernel
theorem dX9_lineOf_18 : decode cX9_lineOf 18 = .ok (.iconst 3, 1) := by decide +kernel
theorem dX9_lineOf_19 : decode cX9_lineOf 19 = .ok (.invokestatic 33, 3) := by decide +kernel
theorem dX9_lineOf_22 : decode cX9_lineOf 22 = .ok (.ifCond .ne 5, 3) := by decide +kernel
theorem dX9_lineOf_25 : decode cX9_lineOf 25 = .ok (.iconst (-1), 1) := by decide +kernel
theorem dX9_lineOf_26 : decode cX9_lineOf 26 = .ok (.ireturn, 1) := by decide +kernel
theorem dX9_lineOf_27 : decode cX9_lineOf 27 = .ok (.aload_n 0, 1) := by decide +kernel
theorem dX9_lineOf_28 : decode cX9_lineOf 28 = .ok (.iload_n 1, 1) := by decide +kernel
theorem dX9_lineOf_29 : decode cX9_lineOf 29 = .ok (.iload_n 2, 1) := by decide +kernel
theorem dX9_lineOf_30 : decode cX9_lineOf 30 = .ok (.invokevirtual 99, 3) := by decide +kernel
theorem dX9_lineOf_33 : decode cX9_lineOf 33 = .ok (.istore_n 3, 1) := by decide +kernel
theorem dX9_lineOf_34 : decode cX9_lineOf 34 = .ok (.iload_n 2, 1) := by decide +kernel
theorem dX9_lineOf_35 : decode cX9_lineOf 35 = .ok (.iconst 2, 1) := by decide +kernel
theorem dX9_lineOf_36 : decode cX9_lineOf 36 = .ok (.if_icmp .eq 7, 3) := by decide +kernel
theorem dX9_lineOf_39 : decode cX9_lineOf 39 = .ok (.iload_n 3, 1) := by decide +kernel
theorem dX9_lineOf_40 : decode cX9_lineOf 40 = .ok (.goto 25, 3) := by decide +kernel
theorem dX9_lineOf_43 : decode cX9_lineOf 43 = .ok (.iload_n 3, 1) := by decide +kernel
theorem dX9_lineOf_44 : decode cX9_lineOf 44 = .ok (.aload_n 0, 1) := by decide +kernel
theorem dX9_lineOf_45 : decode cX9_lineOf 45 = .ok (.getfield 7, 3) := by decide +kernel
theorem dX9_lineOf_48 : decode cX9_lineOf 48 = .ok (.iconst 5, 1) := by decide +kernel
theorem dX9_lineOf_49 : decode cX9_lineOf 49 = .ok (.iaload, 1) := by decide +kernel
theorem dX9_lineOf_50 : decode cX9_lineOf 50 = .ok (.if_icmp .le 14, 3) := by decide +kernel
theorem dX9_lineOf_53 : decode cX9_lineOf 53 = .ok (.iload_n 3, 1) := by decide +kernel
theorem dX9_lineOf_54 : decode cX9_lineOf 54 = .ok (.aload_n 0, 1) := by decide +kernel
theorem dX9_lineOf_55 : decode cX9_lineOf 55 = .ok (.getfield 7, 3) := by decide +kernel
theorem dX9_lineOf_58 : decode cX9_lineOf 58 = .ok (.iconst 5, 1) := by decide +kernel
theorem dX9_lineOf_59 : decode cX9_lineOf 59 = .ok (.iaload, 1) := by decide +kernel
theorem dX9_lineOf_60 : decode cX9_lineOf 60 = .ok (.isub, 1) := by decide +kernel
theorem dX9_lineOf_61 : decode cX9_lineOf 61 = .ok (.goto 4, 3) := by decide +kernel
theorem dX9_lineOf_64 : decode cX9_lineOf 64 = .ok (.iconst 0, 1) := by decide +kernel
theorem dX9_lineOf_65 : decode cX9_lineOf 65 = .ok (.ireturn, 1) := by decide +kernel
theorem dX9_ofBatches_0 : decode cX9_ofBatches 0 = .ok (.iconst 0, 1) := by decide +kernel
theorem dX9_ofBatches_1 : decode cX9_ofBatches 1 = .ok (.istore_n 2, 1) := by decide +kernel
theorem dX9_ofBatches_2 : decode cX9_ofBatches 2 = .ok (.iconst 0, 1) := by decide +kernel
theorem dX9_ofBatches_3 : decode cX9_ofBatches 3 = .ok (.istore_n 3, 1) := by decide +kernel
theorem dX9_ofBatches_4 : decode cX9_ofBatches 4 = .ok (.iload_n 3, 1) := by decide +kernel
theorem dX9_ofBatches_5 : decode cX9_ofBatches 5 = .ok (.bipush 6, 2) := by decide +kernel
theorem dX9_ofBatches_7 : decode cX9_ofBatches 7 = .ok (.if_icmp .ge 38, 3) := by decide +kernel
theorem dX9_ofBatches_10 : decode cX9_ofBatches 10 = .ok (.iload_n 2, 1) := by decide +kernel
theorem dX9_ofBatches_11 : decode cX9_ofBatches 11 = .ok (.aload_n 0, 1) := by decide +kernel
theorem dX9_ofBatches_12 : decode cX9_ofBatches 12 = .ok (.iload_n 3, 1) := by decide +kernel
theorem dX9_ofBatches_13 : decode cX9_ofBatches 13 = .ok (.invokevirtual 44, 3) := by decide +kernel
theorem dX9_ofBatches_16 : decode cX9_ofBatches 16 = .ok (.ifCond .ne 7, 3) := by decide +kernel
theorem dX9_ofBatches_19 : decode cX9_ofBatches 19 = .ok (.iconst 0, 1) := by decide +kernel
theorem dX9_ofBatches_20 : decode cX9_ofBatches 20 = .ok (.goto 17, 3) := by decide +kernel
theorem dX9_ofBatches_23 : decode cX9_ofBatches 23 = .ok (.iload_n 1, 1) := by decide +kernel
theorem dX9_ofBatches_24 : decode cX9_ofBatches 24 = .ok (.ifCond .ne 7, 3) := by decide +kernel
theorem dX9_ofBatches_27 : decode cX9_ofBatches 27 = .ok (.iconst 1, 1) := by decide +kernel
theorem dX9_ofBatches_28 : decode cX9_ofBatches 28 = .ok (.goto 9, 3) := by decide +kernel
theorem dX9_ofBatches_31 : decode cX9_ofBatches 31 = .ok (.aload_n 0, 1) := by decide +kernel
theorem dX9_ofBatches_32 : decode cX9_ofBatches 32 = .ok (.iload_n 3, 1) := by decide +kernel
theorem dX9_ofBatches_33 : decode cX9_ofBatches 33 = .ok (.iconst 2, 1) := by decide +kernel
theorem dX9_ofBatches_34 : decode cX9_ofBatches 34 = .ok (.invokevirtual 37, 3) := by decide +kernel
theorem dX9_ofBatches_37 : decode cX9_ofBatches 37 = .ok (.iadd, 1) := by decide +kernel
theorem dX9_ofBatches_38 : decode cX9_ofBatches 38 = .ok (.istore_n 2, 1) := by decide +kernel
theorem dX9_ofBatches_39 : decode cX9_ofBatches 39 = .ok (.iinc 3 1, 3) := by decide +kernel
theorem dX9_ofBatches_42 : decode cX9_ofBatches 42 = .ok (.goto (-38), 3) := by decide +kernel
theorem dX9_ofBatches_45 : decode cX9_ofBatches 45 = .ok (.iload_n 2, 1) := by decide +kernel
theorem dX9_ofBatches_46 : decode cX9_ofBatches 46 = .ok (.ireturn, 1) := by decide +kernel
theorem dX9_count_0 : decode cX9_count 0 = .ok (.iload_n 1, 1) := by decide +kernel
theorem dX9_count_1 : decode cX9_count 1 = .ok (.tableswitch 168 0 21 #[103, 103, 103, 112, 118, 118, 118, 118, 129, 135, 135, 148, 153, 168, 168, 168, 168, 168, 168, 168, 158, 158], 103) := by decide +kernel
theorem dX9_count_104 : decode cX9_count 104 = .ok (.aload_n 0, 1) := by decide +kernel
theorem dX9_count_105 : decode cX9_count 105 = .ok (.getfield 7, 3) := by decide +kernel
theorem dX9_count_108 : decode cX9_count 108 = .ok (.iconst 2, 1) := by decide +kernel
theorem dX9_count_109 : decode cX9_count 109 = .ok (.iload_n 1, 1) := by decide +kernel
theorem dX9_count_110 : decode cX9_count 110 = .ok (.iadd, 1) := by decide +kernel
theorem dX9_count_111 : decode cX9_count 111 = .ok (.iaload, 1) := by decide +kernel
theorem dX9_count_112 : decode cX9_count 112 = .ok (.ireturn, 1) := by decide +kernel
theorem dX9_count_113 : decode cX9_count 113 = .ok (.aload_n 0, 1) := by decide +kernel
theorem dX9_count_114 : decode cX9_count 114 = .ok (.iconst 0, 1) := by decide +kernel
theorem dX9_count_115 : decode cX9_count 115 = .ok (.invokevirtual 118, 3) := by decide +kernel
theorem dX9_count_118 : decode cX9_count 118 = .ok (.ireturn, 1) := by decide +kernel
theorem dX9_count_119 : decode cX9_count 119 = .ok (.aload_n 0, 1) := by decide +kernel
theorem dX9_count_120 : decode cX9_count 120 = .ok (.getfield 7, 3) := by decide +kernel
theorem dX9_count_123 : decode cX9_count 123 = .ok (.iconst 5, 1) := by decide +kernel
theorem dX9_count_124 : decode cX9_count 124 = .ok (.iload_n 1, 1) := by decide +kernel
theorem dX9_count_125 : decode cX9_count 125 = .ok (.iadd, 1) := by decide +kernel
theorem dX9_count_126 : decode cX9_count 126 = .ok (.iconst 4, 1) := by decide +kernel
theorem dX9_count_127 : decode cX9_count 127 = .ok (.isub, 1) := by decide +kernel
theorem dX9_count_128 : decode cX9_count 128 = .ok (.iaload, 1) := by decide +kernel
theorem dX9_count_129 : decode cX9_count 129 = .ok (.ireturn, 1) := by decide +kernel
theorem dX9_count_130 : decode cX9_count 130 = .ok (.aload_n 0, 1) := by decide +kernel
theorem dX9_count_131 : decode cX9_count 131 = .ok (.iconst 1, 1) := by decide +kernel
theorem dX9_count_132 : decode cX9_count 132 = .ok (.invokevirtual 118, 3) := by decide +kernel
theorem dX9_count_135 : decode cX9_count 135 = .ok (.ireturn, 1) := by decide +kernel
theorem dX9_count_136 : decode cX9_count 136 = .ok (.aload_n 0, 1) := by decide +kernel
theorem dX9_count_137 : decode cX9_count 137 = .ok (.getfield 7, 3) := by decide +kernel
theorem dX9_count_140 : decode cX9_count 140 = .ok (.bipush 9, 2) := by decide +kernel
theorem dX9_count_142 : decode cX9_count 142 = .ok (.iload_n 1, 1) := by decide +kernel
theorem dX9_count_143 : decode cX9_count 143 = .ok (.iadd, 1) := by decide +kernel
theorem dX9_count_144 : decode cX9_count 144 = .ok (.bipush 9, 2) := by decide +kernel
theorem dX9_count_146 : decode cX9_count 146 = .ok (.isub, 1) := by decide +kernel
theorem dX9_count_147 : decode cX9_count 147 = .ok (.iaload, 1) := by decide +kernel
theorem dX9_count_148 : decode cX9_count 148 = .ok (.ireturn, 1) := by decide +kernel
theorem dX9_count_149 : decode cX9_count 149 = .ok (.aload_n 0, 1) := by decide +kernel
theorem dX9_count_150 : decode cX9_count 150 = .ok (.getfield 29, 3) := by decide +kernel
theorem dX9_count_153 : decode cX9_count 153 = .ok (.ireturn, 1) := by decide +kernel
theorem dX9_count_154 : decode cX9_count 154 = .ok (.aload_n 0, 1) := by decide +kernel
theorem dX9_count_155 : decode cX9_count 155 = .ok (.getfield 121, 3) := by decide +kernel
theorem dX9_count_158 : decode cX9_count 158 = .ok (.ireturn, 1) := by decide +kernel
theorem dX9_count_159 : decode cX9_count 159 = .ok (.aload_n 0, 1) := by decide +kernel
theorem dX9_count_160 : decode cX9_count 160 = .ok (.getfield 7, 3) := by decide +kernel
theorem dX9_count_163 : decode cX9_count 163 = .ok (.iload_n 1, 1) := by decide +kernel
theorem dX9_count_164 : decode cX9_count 164 = .ok (.bipush 20, 2) := by decide +kernel
theorem dX9_count_166 : decode cX9_count 166 = .ok (.isub, 1) := by decide +kernel
theorem dX9_count_167 : decode cX9_count 167 = .ok (.iaload, 1) := by decide +kernel
theorem dX9_count_168 : decode cX9_count 168 = .ok (.ireturn, 1) := by decide +kernel
theorem dX9_count_169 : decode cX9_count 169 = .ok (.iload_n 1, 1) := by decide +kernel
theorem dX9_count_170 : decode cX9_count 170 = .ok (.bipush 30, 2) := by decide +kernel
theorem dX9_count_172 : decode cX9_count 172 = .ok (.bipush 33, 2) := by decide +kernel
theorem dX9_count_174 : decode cX9_count 174 = .ok (.invokestatic 33, 3) := by decide +kernel
theorem dX9_count_177 : decode cX9_count 177 = .ok (.ifCond .eq 18, 3) := by decide +kernel
theorem dX9_count_180 : decode cX9_count 180 = .ok (.aload_n 0, 1) := by decide +kernel
theorem dX9_count_181 : decode cX9_count 181 = .ok (.getfield 7, 3) := by decide +kernel
theorem dX9_count_184 : decode cX9_count 184 = .ok (.bipush 11, 2) := by decide +kernel
theorem dX9_count_186 : decode cX9_count 186 = .ok (.iload_n 1, 1) := by decide +kernel
theorem dX9_count_187 : decode cX9_count 187 = .ok (.iadd, 1) := by decide +kernel
theorem dX9_count_188 : decode cX9_count 188 = .ok (.bipush 30, 2) := by decide +kernel
theorem dX9_count_190 : decode cX9_count 190 = .ok (.isub, 1) := by decide +kernel
theorem dX9_count_191 : decode cX9_count 191 = .ok (.iaload, 1) := by decide +kernel
theorem dX9_count_192 : decode cX9_count 192 = .ok (.goto 4, 3) := by decide +kernel
theorem dX9_count_195 : decode cX9_count 195 = .ok (.iconst (-1), 1) := by decide +kernel
theorem dX9_count_196 : decode cX9_count 196 = .ok (.ireturn, 1) := by decide +kernel
theorem dX9_targets_0 : decode cX9_targets 0 = .ok (.aload_n 0, 1) := by decide +kernel
theorem dX9_targets_1 : decode cX9_targets 1 = .ok (.iload_n 1, 1) := by decide +kernel
theorem dX9_targets_2 : decode cX9_targets 2 = .ok (.invokevirtual 44, 3) := by decide +kernel
theorem dX9_targets_5 : decode cX9_targets 5 = .ok (.ifCond .ne 5, 3) := by decide +kernel
theorem dX9_targets_8 : decode cX9_targets 8 = .ok (.iconst (-1), 1) := by decide +kernel
theorem dX9_targets_9 : decode cX9_targets 9 = .ok (.ireturn, 1) := by decide +kernel
theorem dX9_targets_10 : decode cX9_targets 10 = .ok (.iconst 0, 1) := by decide +kernel
theorem dX9_targets_11 : decode cX9_targets 11 = .ok (.istore_n 2, 1) := by decide +kernel
theorem dX9_targets_12 : decode cX9_targets 12 = .ok (.iconst 0, 1) := by decide +kernel
theorem dX9_targets_13 : decode cX9_targets 13 = .ok (.istore_n 3, 1) := by decide +kernel
theorem dX9_targets_14 : decode cX9_targets 14 = .ok (.iload_n 3, 1) := by decide +kernel
theorem dX9_targets_15 : decode cX9_targets 15 = .ok (.aload_n 0, 1) := by decide +kernel
theorem dX9_targets_16 : decode cX9_targets 16 = .ok (.getfield 7, 3) := by decide +kernel
theorem dX9_targets_19 : decode cX9_targets 19 = .ok (.iconst 3, 1) := by decide +kernel
theorem dX9_targets_20 : decode cX9_targets 20 = .ok (.iaload, 1) := by decide +kernel
theorem dX9_targets_21 : decode cX9_targets 21 = .ok (.if_icmp .ge 28, 3) := by decide +kernel
theorem dX9_targets_24 : decode cX9_targets 24 = .ok (.iload_n 2, 1) := by decide +kernel
theorem dX9_targets_25 : decode cX9_targets 25 = .ok (.aload_n 0, 1) := by decide +kernel
theorem dX9_targets_26 : decode cX9_targets 26 = .ok (.iload_n 1, 1) := by decide +kernel
theorem dX9_targets_27 : decode cX9_targets 27 = .ok (.iload_n 3, 1) := by decide +kernel
theorem dX9_targets_28 : decode cX9_targets 28 = .ok (.invokevirtual 102, 3) := by decide +kernel
theorem dX9_targets_31 : decode cX9_targets 31 = .ok (.ifCond .ge 7, 3) := by decide +kernel
theorem dX9_targets_34 : decode cX9_targets 34 = .ok (.iconst 0, 1) := by decide +kernel
theorem dX9_targets_35 : decode cX9_targets 35 = .ok (.goto 6, 3) := by decide +kernel
theorem dX9_targets_38 : decode cX9_targets 38 = .ok (.iconst 1, 1) := by decide +kernel
theorem dX9_targets_39 : decode cX9_targets 39 = .ok (.iload_n 3, 1) := by decide +kernel
theorem dX9_targets_40 : decode cX9_targets 40 = .ok (.ishl, 1) := by decide +kernel
theorem dX9_targets_41 : decode cX9_targets 41 = .ok (.ior, 1) := by decide +kernel
theorem dX9_targets_42 : decode cX9_targets 42 = .ok (.istore_n 2, 1) := by decide +kernel
theorem dX9_targets_43 : decode cX9_targets 43 = .ok (.iinc 3 1, 3) := by decide +kernel
theorem dX9_targets_46 : decode cX9_targets 46 = .ok (.goto (-32), 3) := by decide +kernel
theorem dX9_targets_49 : decode cX9_targets 49 = .ok (.iload_n 2, 1) := by decide +kernel
theorem dX9_targets_50 : decode cX9_targets 50 = .ok (.ireturn, 1) := by decide +kernel
theorem dX9_quickest_0 : decode cX9_quickest 0 = .ok (.aload_n 0, 1) := by decide +kernel
theorem dX9_quickest_1 : decode cX9_quickest 1 = .ok (.iload_n 1, 1) := by decide +kernel
theorem dX9_quickest_2 : decode cX9_quickest 2 = .ok (.invokevirtual 44, 3) := by decide +kernel
theorem dX9_quickest_5 : decode cX9_quickest 5 = .ok (.ifCond .eq 12, 3) := by decide +kernel
theorem dX9_quickest_8 : decode cX9_quickest 8 = .ok (.iload_n 2, 1) := by decide +kernel
theorem dX9_quickest_9 : decode cX9_quickest 9 = .ok (.iconst 0, 1) := by decide +kernel
theorem dX9_quickest_10 : decode cX9_quickest 10 = .ok (.iconst 1, 1) := by decide +kernel
theorem dX9_quickest_11 : decode cX9_quickest 11 = .ok (.invokestatic 33, 3) := by decide +kernel
theorem dX9_quickest_14 : decode cX9_quickest 14 = .ok (.ifCond .ne 5, 3) := by decide +kernel
theorem dX9_quickest_17 : decode cX9_quickest 17 = .ok (.iconst (-1), 1) := by decide +kernel
theorem dX9_quickest_18 : decode cX9_quickest 18 = .ok (.ireturn, 1) := by decide +kernel
theorem dX9_quickest_19 : decode cX9_quickest 19 = .ok (.bipush (-4), 2) := by decide +kernel
theorem dX9_quickest_21 : decode cX9_quickest 21 = .ok (.istore_n 3, 1) := by decide +kernel
theorem dX9_quickest_22 : decode cX9_quickest 22 = .ok (.bipush (-4), 2) := by decide +kernel
theorem dX9_quickest_24 : decode cX9_quickest 24 = .ok (.istore 4, 2) := by decide +kernel
theorem dX9_quickest_26 : decode cX9_quickest 26 = .ok (.iconst 0, 1) := by decide +kernel
theorem dX9_quickest_27 : decode cX9_quickest 27 = .ok (.istore 5, 2) := by decide +kernel
theorem dX9_quickest_29 : decode cX9_quickest 29 = .ok (.iload 5, 2) := by decide +kernel
theorem dX9_quickest_31 : decode cX9_quickest 31 = .ok (.aload_n 0, 1) := by decide +kernel
theorem dX9_quickest_32 : decode cX9_quickest 32 = .ok (.getfield 7, 3) := by decide +kernel
theorem dX9_quickest_35 : decode cX9_quickest 35 = .ok (.iconst 3, 1) := by decide +kernel
theorem dX9_quickest_36 : decode cX9_quickest 36 = .ok (.iaload, 1) := by decide +kernel
theorem dX9_quickest_37 : decode cX9_quickest 37 = .ok (.if_icmp .ge 87, 3) := by decide +kernel
theorem dX9_quickest_40 : decode cX9_quickest 40 = .ok (.aload_n 0, 1) := by decide +kernel
theorem dX9_quickest_41 : decode cX9_quickest 41 = .ok (.iload_n 1, 1) := by decide +kernel
theorem dX9_quickest_42 : decode cX9_quickest 42 = .ok (.iload 5, 2) := by decide +kernel
theorem dX9_quickest_44 : decode cX9_quickest 44 = .ok (.invokevirtual 102, 3) := by decide +kernel
theorem dX9_quickest_47 : decode cX9_quickest 47 = .ok (.istore 6, 2) := by decide +kernel
theorem dX9_quickest_49 : decode cX9_quickest 49 = .ok (.iload 6, 2) := by decide +kernel
theorem dX9_quickest_51 : decode cX9_quickest 51 = .ok (.ifCond .ge 7, 3) := by decide +kernel
theorem dX9_quickest_54 : decode cX9_quickest 54 = .ok (.iconst 0, 1) := by decide +kernel
theorem dX9_quickest_55 : decode cX9_quickest 55 = .ok (.goto 12, 3) := by decide +kernel
theorem dX9_quickest_58 : decode cX9_quickest 58 = .ok (.aload_n 0, 1) := by decide +kernel
theorem dX9_quickest_59 : decode cX9_quickest 59 = .ok (.iload_n 1, 1) := by decide +kernel
theorem dX9_quickest_60 : decode cX9_quickest 60 = .ok (.iload 5, 2) := by decide +kernel
theorem dX9_quickest_62 : decode cX9_quickest 62 = .ok (.iload 6, 2) := by decide +kernel
theorem dX9_quickest_64 : decode cX9_quickest 64 = .ok (.invokevirtual 105, 3) := by decide +kernel
theorem dX9_quickest_67 : decode cX9_quickest 67 = .ok (.istore 7, 2) := by decide +kernel
theorem dX9_quickest_69 : decode cX9_quickest 69 = .ok (.iload 6, 2) := by decide +kernel
theorem dX9_quickest_71 : decode cX9_quickest 71 = .ok (.ifCond .lt 18, 3) := by decide +kernel
theorem dX9_quickest_74 : decode cX9_quickest 74 = .ok (.iload_n 3, 1) := by decide +kernel
theorem dX9_quickest_75 : decode cX9_quickest 75 = .ok (.ifCond .lt 10, 3) := by decide +kernel
theorem dX9_quickest_78 : decode cX9_quickest 78 = .ok (.iload 7, 2) := by decide +kernel
theorem dX9_quickest_80 : decode cX9_quickest 80 = .ok (.iload 4, 2) := by decide +kernel
theorem dX9_quickest_82 : decode cX9_quickest 82 = .ok (.if_icmp .ge 7, 3) := by decide +kernel
theorem dX9_quickest_85 : decode cX9_quickest 85 = .ok (.iconst 1, 1) := by decide +kernel
theorem dX9_quickest_86 : decode cX9_quickest 86 = .ok (.goto 4, 3) := by decide +kernel
theorem dX9_quickest_89 : decode cX9_quickest 89 = .ok (.iconst 0, 1) := by decide +kernel
theorem dX9_quickest_90 : decode cX9_quickest 90 = .ok (.istore 8, 2) := by decide +kernel
theorem dX9_quickest_92 : decode cX9_quickest 92 = .ok (.iload 8, 2) := by decide +kernel
theorem dX9_quickest_94 : decode cX9_quickest 94 = .ok (.ifCond .eq 8, 3) := by decide +kernel
theorem dX9_quickest_97 : decode cX9_quickest 97 = .ok (.iload 5, 2) := by decide +kernel
theorem dX9_quickest_99 : decode cX9_quickest 99 = .ok (.goto 4, 3) := by decide +kernel
theorem dX9_quickest_102 : decode cX9_quickest 102 = .ok (.iload_n 3, 1) := by decide +kernel
theorem dX9_quickest_103 : decode cX9_quickest 103 = .ok (.istore_n 3, 1) := by decide +kernel
theorem dX9_quickest_104 : decode cX9_quickest 104 = .ok (.iload 8, 2) := by decide +kernel
theorem dX9_quickest_106 : decode cX9_quickest 106 = .ok (.ifCond .eq 8, 3) := by decide +kernel
theorem dX9_quickest_109 : decode cX9_quickest 109 = .ok (.iload 7, 2) := by decide +kernel
theorem dX9_quickest_111 : decode cX9_quickest 111 = .ok (.goto 5, 3) := by decide +kernel
theorem dX9_quickest_114 : decode cX9_quickest 114 = .ok (.iload 4, 2) := by decide +kernel
theorem dX9_quickest_116 : decode cX9_quickest 116 = .ok (.istore 4, 2) := by decide +kernel
theorem dX9_quickest_118 : decode cX9_quickest 118 = .ok (.iinc 5 1, 3) := by decide +kernel
theorem dX9_quickest_121 : decode cX9_quickest 121 = .ok (.goto (-92), 3) := by decide +kernel
theorem dX9_quickest_124 : decode cX9_quickest 124 = .ok (.iload_n 2, 1) := by decide +kernel
theorem dX9_quickest_125 : decode cX9_quickest 125 = .ok (.ifCond .ne 7, 3) := by decide +kernel
theorem dX9_quickest_128 : decode cX9_quickest 128 = .ok (.iload_n 3, 1) := by decide +kernel
theorem dX9_quickest_129 : decode cX9_quickest 129 = .ok (.goto 5, 3) := by decide +kernel
theorem dX9_quickest_132 : decode cX9_quickest 132 = .ok (.iload 4, 2) := by decide +kernel
theorem dX9_quickest_134 : decode cX9_quickest 134 = .ok (.ireturn, 1) := by decide +kernel
theorem dX9_isRoom_0 : decode cX9_isRoom 0 = .ok (.iconst 0, 1) := by decide +kernel
theorem dX9_isRoom_1 : decode cX9_isRoom 1 = .ok (.istore_n 3, 1) := by decide +kernel
theorem dX9_isRoom_2 : decode cX9_isRoom 2 = .ok (.iconst 0, 1) := by decide +kernel
theorem dX9_isRoom_3 : decode cX9_isRoom 3 = .ok (.istore 4, 2) := by decide +kernel
theorem dX9_isRoom_5 : decode cX9_isRoom 5 = .ok (.iload 4, 2) := by decide +kernel
theorem dX9_isRoom_7 : decode cX9_isRoom 7 = .ok (.aload_n 0, 1) := by decide +kernel
theorem dX9_isRoom_8 : decode cX9_isRoom 8 = .ok (.getfield 7, 3) := by decide +kernel
theorem dX9_isRoom_11 : decode cX9_isRoom 11 = .ok (.iconst 3, 1) := by decide +kernel
theorem dX9_isRoom_12 : decode cX9_isRoom 12 = .ok (.iaload, 1) := by decide +kernel
theorem dX9_isRoom_13 : decode cX9_isRoom 13 = .ok (.if_icmp .ge 41, 3) := by decide +kernel
theorem dX9_isRoom_16 : decode cX9_isRoom 16 = .ok (.iload_n 3, 1) := by decide +kernel
theorem dX9_isRoom_17 : decode cX9_isRoom 17 = .ok (.ifCond .ne 25, 3) := by decide +kernel
theorem dX9_isRoom_20 : decode cX9_isRoom 20 = .ok (.aload_n 0, 1) := by decide +kernel
theorem dX9_isRoom_21 : decode cX9_isRoom 21 = .ok (.iload 4, 2) := by decide +kernel
theorem dX9_isRoom_23 : decode cX9_isRoom 23 = .ok (.iconst 0, 1) := by decide +kernel
theorem dX9_isRoom_24 : decode cX9_isRoom 24 = .ok (.invokevirtual 78, 3) := by decide +kernel
theorem dX9_isRoom_27 : decode cX9_isRoom 27 = .ok (.iload_n 1, 1) := by decide +kernel
theorem dX9_isRoom_28 : decode cX9_isRoom 28 = .ok (.if_icmp .ne 18, 3) := by decide +kernel
theorem dX9_isRoom_31 : decode cX9_isRoom 31 = .ok (.aload_n 0, 1) := by decide +kernel
theorem dX9_isRoom_32 : decode cX9_isRoom 32 = .ok (.iload 4, 2) := by decide +kernel
theorem dX9_isRoom_34 : decode cX9_isRoom 34 = .ok (.iconst 1, 1) := by decide +kernel
theorem dX9_isRoom_35 : decode cX9_isRoom 35 = .ok (.invokevirtual 78, 3) := by decide +kernel
theorem dX9_isRoom_38 : decode cX9_isRoom 38 = .ok (.iload_n 2, 1) := by decide +kernel
theorem dX9_isRoom_39 : decode cX9_isRoom 39 = .ok (.if_icmp .lt 7, 3) := by decide +kernel
theorem dX9_isRoom_42 : decode cX9_isRoom 42 = .ok (.iconst 1, 1) := by decide +kernel
theorem dX9_isRoom_43 : decode cX9_isRoom 43 = .ok (.goto 4, 3) := by decide +kernel
theorem dX9_isRoom_46 : decode cX9_isRoom 46 = .ok (.iconst 0, 1) := by decide +kernel
theorem dX9_isRoom_47 : decode cX9_isRoom 47 = .ok (.istore_n 3, 1) := by decide +kernel
theorem dX9_isRoom_48 : decode cX9_isRoom 48 = .ok (.iinc 4 1, 3) := by decide +kernel
theorem dX9_isRoom_51 : decode cX9_isRoom 51 = .ok (.goto (-46), 3) := by decide +kernel
theorem dX9_isRoom_54 : decode cX9_isRoom 54 = .ok (.iload_n 3, 1) := by decide +kernel
theorem dX9_isRoom_55 : decode cX9_isRoom 55 = .ok (.ireturn, 1) := by decide +kernel
theorem dX9_soonest_0 : decode cX9_soonest 0 = .ok (.aload_n 0, 1) := by decide +kernel
theorem dX9_soonest_1 : decode cX9_soonest 1 = .ok (.iload_n 1, 1) := by decide +kernel
theorem dX9_soonest_2 : decode cX9_soonest 2 = .ok (.invokevirtual 44, 3) := by decide +kernel
theorem dX9_soonest_5 : decode cX9_soonest 5 = .ok (.ifCond .ne 5, 3) := by decide +kernel
theorem dX9_soonest_8 : decode cX9_soonest 8 = .ok (.iconst (-1), 1) := by decide +kernel
theorem dX9_soonest_9 : decode cX9_soonest 9 = .ok (.ireturn, 1) := by decide +kernel
theorem dX9_soonest_10 : decode cX9_soonest 10 = .ok (.aload_n 0, 1) := by decide +kernel
theorem dX9_soonest_11 : decode cX9_soonest 11 = .ok (.iload_n 1, 1) := by decide +kernel
theorem dX9_soonest_12 : decode cX9_soonest 12 = .ok (.iconst 1, 1) := by decide +kernel
theorem dX9_soonest_13 : decode cX9_soonest 13 = .ok (.invokevirtual 37, 3) := by decide +kernel
theorem dX9_soonest_16 : decode cX9_soonest 16 = .ok (.istore_n 2, 1) := by decide +kernel
theorem dX9_soonest_17 : decode cX9_soonest 17 = .ok (.aload_n 0, 1) := by decide +kernel
theorem dX9_soonest_18 : decode cX9_soonest 18 = .ok (.iload_n 1, 1) := by decide +kernel
theorem dX9_soonest_19 : decode cX9_soonest 19 = .ok (.iconst 2, 1) := by decide +kernel
theorem dX9_soonest_20 : decode cX9_soonest 20 = .ok (.invokevirtual 37, 3) := by decide +kernel
theorem dX9_soonest_23 : decode cX9_soonest 23 = .ok (.istore_n 3, 1) := by decide +kernel
theorem dX9_soonest_24 : decode cX9_soonest 24 = .ok (.aload_n 0, 1) := by decide +kernel
theorem dX9_soonest_25 : decode cX9_soonest 25 = .ok (.iload_n 1, 1) := by decide +kernel
theorem dX9_soonest_26 : decode cX9_soonest 26 = .ok (.invokevirtual 96, 3) := by decide +kernel
theorem dX9_soonest_29 : decode cX9_soonest 29 = .ok (.ifCond .eq 12, 3) := by decide +kernel
theorem dX9_soonest_32 : decode cX9_soonest 32 = .ok (.aload_n 0, 1) := by decide +kernel
theorem dX9_soonest_33 : decode cX9_soonest 33 = .ok (.getfield 7, 3) := by decide +kernel
theorem dX9_soonest_36 : decode cX9_soonest 36 = .ok (.iconst 5, 1) := by decide +kernel
theorem dX9_soonest_37 : decode cX9_soonest 37 = .ok (.iaload, 1) := by decide +kernel
theorem dX9_soonest_38 : decode cX9_soonest 38 = .ok (.goto 8, 3) := by decide +kernel
theorem dX9_soonest_41 : decode cX9_soonest 41 = .ok (.aload_n 0, 1) := by decide +kernel
theorem dX9_soonest_42 : decode cX9_soonest 42 = .ok (.iload_n 1, 1) := by decide +kernel
theorem dX9_soonest_43 : decode cX9_soonest 43 = .ok (.invokevirtual 75, 3) := by decide +kernel
theorem dX9_soonest_46 : decode cX9_soonest 46 = .ok (.istore 4, 2) := by decide +kernel
theorem dX9_soonest_48 : decode cX9_soonest 48 = .ok (.aload_n 0, 1) := by decide +kernel
theorem dX9_soonest_49 : decode cX9_soonest 49 = .ok (.iload_n 1, 1) := by decide +kernel
theorem dX9_soonest_50 : decode cX9_soonest 50 = .ok (.iconst 3, 1) := by decide +kernel
theorem dX9_soonest_51 : decode cX9_soonest 51 = .ok (.invokevirtual 37, 3) := by decide +kernel
theorem dX9_soonest_54 : decode cX9_soonest 54 = .ok (.iconst 1, 1) := by decide +kernel
theorem dX9_soonest_55 : decode cX9_soonest 55 = .ok (.iadd, 1) := by decide +kernel
theorem dX9_soonest_56 : decode cX9_soonest 56 = .ok (.istore 5, 2) := by decide +kernel
theorem dX9_soonest_58 : decode cX9_soonest 58 = .ok (.iload 5, 2) := by decide +kernel
theorem dX9_soonest_60 : decode cX9_soonest 60 = .ok (.aload_n 0, 1) := by decide +kernel
theorem dX9_soonest_61 : decode cX9_soonest 61 = .ok (.iload_n 2, 1) := by decide +kernel
theorem dX9_soonest_62 : decode cX9_soonest 62 = .ok (.invokevirtual 54, 3) := by decide +kernel
theorem dX9_soonest_65 : decode cX9_soonest 65 = .ok (.if_icmp .ge 65, 3) := by decide +kernel
theorem dX9_soonest_68 : decode cX9_soonest 68 = .ok (.aload_n 0, 1) := by decide +kernel
theorem dX9_soonest_69 : decode cX9_soonest 69 = .ok (.aload_n 0, 1) := by decide +kernel
theorem dX9_soonest_70 : decode cX9_soonest 70 = .ok (.iload_n 2, 1) := by decide +kernel
theorem dX9_soonest_71 : decode cX9_soonest 71 = .ok (.iload 5, 2) := by decide +kernel
theorem dX9_soonest_73 : decode cX9_soonest 73 = .ok (.iconst 0, 1) := by decide +kernel
theorem dX9_soonest_74 : decode cX9_soonest 74 = .ok (.invokevirtual 68, 3) := by decide +kernel
theorem dX9_soonest_77 : decode cX9_soonest 77 = .ok (.iload_n 3, 1) := by decide +kernel
theorem dX9_soonest_78 : decode cX9_soonest 78 = .ok (.invokevirtual 124, 3) := by decide +kernel
theorem dX9_soonest_81 : decode cX9_soonest 81 = .ok (.ifCond .ne 6, 3) := by decide +kernel
theorem dX9_soonest_84 : decode cX9_soonest 84 = .ok (.bipush (-4), 2) := by decide +kernel
theorem dX9_soonest_86 : decode cX9_soonest 86 = .ok (.ireturn, 1) := by decide +kernel
theorem dX9_soonest_87 : decode cX9_soonest 87 = .ok (.iload_n 3, 1) := by decide +kernel
theorem dX9_soonest_88 : decode cX9_soonest 88 = .ok (.iload_n 3, 1) := by decide +kernel
theorem dX9_soonest_89 : decode cX9_soonest 89 = .ok (.aload_n 0, 1) := by decide +kernel
theorem dX9_soonest_90 : decode cX9_soonest 90 = .ok (.getfield 7, 3) := by decide +kernel
theorem dX9_soonest_93 : decode cX9_soonest 93 = .ok (.iconst 0, 1) := by decide +kernel
theorem dX9_soonest_94 : decode cX9_soonest 94 = .ok (.iaload, 1) := by decide +kernel
theorem dX9_soonest_95 : decode cX9_soonest 95 = .ok (.imul, 1) := by decide +kernel
theorem dX9_soonest_96 : decode cX9_soonest 96 = .ok (.sipush 1000, 3) := by decide +kernel
theorem dX9_soonest_99 : decode cX9_soonest 99 = .ok (.idiv, 1) := by decide +kernel
theorem dX9_soonest_100 : decode cX9_soonest 100 = .ok (.isub, 1) := by decide +kernel
theorem dX9_soonest_101 : decode cX9_soonest 101 = .ok (.istore_n 3, 1) := by decide +kernel
theorem dX9_soonest_102 : decode cX9_soonest 102 = .ok (.iload 4, 2) := by decide +kernel
theorem dX9_soonest_104 : decode cX9_soonest 104 = .ok (.aload_n 0, 1) := by decide +kernel
theorem dX9_soonest_105 : decode cX9_soonest 105 = .ok (.iload_n 2, 1) := by decide +kernel
theorem dX9_soonest_106 : decode cX9_soonest 106 = .ok (.iload 5, 2) := by decide +kernel
theorem dX9_soonest_108 : decode cX9_soonest 108 = .ok (.iconst 1, 1) := by decide +kernel
theorem dX9_soonest_109 : decode cX9_soonest 109 = .ok (.invokevirtual 68, 3) := by decide +kernel
theorem dX9_soonest_112 : decode cX9_soonest 112 = .ok (.aload_n 0, 1) := by decide +kernel
theorem dX9_soonest_113 : decode cX9_soonest 113 = .ok (.iload_n 2, 1) := by decide +kernel
theorem dX9_soonest_114 : decode cX9_soonest 114 = .ok (.iload 5, 2) := by decide +kernel
theorem dX9_soonest_116 : decode cX9_soonest 116 = .ok (.iconst 2, 1) := by decide +kernel
theorem dX9_soonest_117 : decode cX9_soonest 117 = .ok (.invokevirtual 68, 3) := by decide +kernel
theorem dX9_soonest_120 : decode cX9_soonest 120 = .ok (.iadd, 1) := by decide +kernel
theorem dX9_soonest_121 : decode cX9_soonest 121 = .ok (.iadd, 1) := by decide +kernel
theorem dX9_soonest_122 : decode cX9_soonest 122 = .ok (.istore 4, 2) := by decide +kernel
theorem dX9_soonest_124 : decode cX9_soonest 124 = .ok (.iinc 5 1, 3) := by decide +kernel
theorem dX9_soonest_127 : decode cX9_soonest 127 = .ok (.goto (-69), 3) := by decide +kernel
theorem dX9_soonest_130 : decode cX9_soonest 130 = .ok (.iload 4, 2) := by decide +kernel
theorem dX9_soonest_132 : decode cX9_soonest 132 = .ok (.ireturn, 1) := by decide +kernel
theorem dX9_urgent_0 : decode cX9_urgent 0 = .ok (.iload_n 1, 1) := by decide +kernel
theorem dX9_urgent_1 : decode cX9_urgent 1 = .ok (.ifCond .ge 5, 3) := by decide +kernel
theorem dX9_urgent_4 : decode cX9_urgent 4 = .ok (.iconst (-1), 1) := by decide +kernel
theorem dX9_urgent_5 : decode cX9_urgent 5 = .ok (.ireturn, 1) := by decide +kernel
theorem dX9_urgent_6 : decode cX9_urgent 6 = .ok (.bipush (-4), 2) := by decide +kernel
theorem dX9_urgent_8 : decode cX9_urgent 8 = .ok (.istore_n 2, 1) := by decide +kernel
theorem dX9_urgent_9 : decode cX9_urgent 9 = .ok (.iconst 0, 1) := by decide +kernel
theorem dX9_urgent_10 : decode cX9_urgent 10 = .ok (.istore_n 3, 1) := by decide +kernel
theorem dX9_urgent_11 : decode cX9_urgent 11 = .ok (.iload_n 3, 1) := by decide +kernel
theorem dX9_urgent_12 : decode cX9_urgent 12 = .ok (.bipush 6, 2) := by decide +kernel
theorem dX9_urgent_14 : decode cX9_urgent 14 = .ok (.if_icmp .ge 134, 3) := by decide +kernel
theorem dX9_urgent_17 : decode cX9_urgent 17 = .ok (.aload_n 0, 1) := by decide +kernel
theorem dX9_urgent_18 : decode cX9_urgent 18 = .ok (.iload_n 3, 1) := by decide +kernel
theorem dX9_urgent_19 : decode cX9_urgent 19 = .ok (.invokevirtual 44, 3) := by decide +kernel
theorem dX9_urgent_22 : decode cX9_urgent 22 = .ok (.ifCond .eq 120, 3) := by decide +kernel
theorem dX9_urgent_25 : decode cX9_urgent 25 = .ok (.aload_n 0, 1) := by decide +kernel
theorem dX9_urgent_26 : decode cX9_urgent 26 = .ok (.iload_n 3, 1) := by decide +kernel
theorem dX9_urgent_27 : decode cX9_urgent 27 = .ok (.bipush 6, 2) := by decide +kernel
theorem dX9_urgent_29 : decode cX9_urgent 29 = .ok (.invokevirtual 37, 3) := by decide +kernel
theorem dX9_urgent_32 : decode cX9_urgent 32 = .ok (.ifCond .ne 110, 3) := by decide +kernel
theorem dX9_urgent_35 : decode cX9_urgent 35 = .ok (.iconst 0, 1) := by decide +kernel
theorem dX9_urgent_36 : decode cX9_urgent 36 = .ok (.istore 4, 2) := by decide +kernel
theorem dX9_urgent_38 : decode cX9_urgent 38 = .ok (.iconst 0, 1) := by decide +kernel
theorem dX9_urgent_39 : decode cX9_urgent 39 = .ok (.istore 5, 2) := by decide +kernel
theorem dX9_urgent_41 : decode cX9_urgent 41 = .ok (.iload 5, 2) := by decide +kernel
theorem dX9_urgent_43 : decode cX9_urgent 43 = .ok (.bipush 6, 2) := by decide +kernel
theorem dX9_urgent_45 : decode cX9_urgent 45 = .ok (.if_icmp .ge 85, 3) := by decide +kernel
theorem dX9_urgent_48 : decode cX9_urgent 48 = .ok (.aload_n 0, 1) := by decide +kernel
theorem dX9_urgent_49 : decode cX9_urgent 49 = .ok (.iload 5, 2) := by decide +kernel
theorem dX9_urgent_51 : decode cX9_urgent 51 = .ok (.invokevirtual 44, 3) := by decide +kernel
theorem dX9_urgent_54 : decode cX9_urgent 54 = .ok (.ifCond .eq 18, 3) := by decide +kernel
theorem dX9_urgent_57 : decode cX9_urgent 57 = .ok (.aload_n 0, 1) := by decide +kernel
theorem dX9_urgent_58 : decode cX9_urgent 58 = .ok (.iload 5, 2) := by decide +kernel
theorem dX9_urgent_60 : decode cX9_urgent 60 = .ok (.bipush 6, 2) := by decide +kernel
theorem dX9_urgent_62 : decode cX9_urgent 62 = .ok (.invokevirtual 37, 3) := by decide +kernel
theorem dX9_urgent_65 : decode cX9_urgent 65 = .ok (.ifCond .ne 7, 3) := by decide +kernel
theorem dX9_urgent_68 : decode cX9_urgent 68 = .ok (.iconst 1, 1) := by decide +kernel
theorem dX9_urgent_69 : decode cX9_urgent 69 = .ok (.goto 4, 3) := by decide +kernel
theorem dX9_urgent_72 : decode cX9_urgent 72 = .ok (.iconst 0, 1) := by decide +kernel
theorem dX9_urgent_73 : decode cX9_urgent 73 = .ok (.istore 6, 2) := by decide +kernel
theorem dX9_urgent_75 : decode cX9_urgent 75 = .ok (.iload 6, 2) := by decide +kernel
theorem dX9_urgent_77 : decode cX9_urgent 77 = .ok (.ifCond .eq 18, 3) := by decide +kernel
theorem dX9_urgent_80 : decode cX9_urgent 80 = .ok (.aload_n 0, 1) := by decide +kernel
theorem dX9_urgent_81 : decode cX9_urgent 81 = .ok (.iload 5, 2) := by decide +kernel
theorem dX9_urgent_83 : decode cX9_urgent 83 = .ok (.invokevirtual 115, 3) := by decide +kernel
theorem dX9_urgent_86 : decode cX9_urgent 86 = .ok (.aload_n 0, 1) := by decide +kernel
theorem dX9_urgent_87 : decode cX9_urgent 87 = .ok (.iload_n 3, 1) := by decide +kernel
theorem dX9_urgent_88 : decode cX9_urgent 88 = .ok (.invokevirtual 115, 3) := by decide +kernel
theorem dX9_urgent_91 : decode cX9_urgent 91 = .ok (.isub, 1) := by decide +kernel
theorem dX9_urgent_92 : decode cX9_urgent 92 = .ok (.goto 4, 3) := by decide +kernel
theorem dX9_urgent_95 : decode cX9_urgent 95 = .ok (.iconst 1, 1) := by decide +kernel
theorem dX9_urgent_96 : decode cX9_urgent 96 = .ok (.istore 7, 2) := by decide +kernel
theorem dX9_urgent_98 : decode cX9_urgent 98 = .ok (.iload 4, 2) := by decide +kernel
theorem dX9_urgent_100 : decode cX9_urgent 100 = .ok (.iload 7, 2) := by decide +kernel
theorem dX9_urgent_102 : decode cX9_urgent 102 = .ok (.ifCond .lt 14, 3) := by decide +kernel
theorem dX9_urgent_105 : decode cX9_urgent 105 = .ok (.iload 7, 2) := by decide +kernel
theorem dX9_urgent_107 : decode cX9_urgent 107 = .ok (.ifCond .ne 13, 3) := by decide +kernel
theorem dX9_urgent_110 : decode cX9_urgent 110 = .ok (.iload 5, 2) := by decide +kernel
theorem dX9_urgent_112 : decode cX9_urgent 112 = .ok (.iload_n 3, 1) := by decide +kernel
theorem dX9_urgent_113 : decode cX9_urgent 113 = .ok (.if_icmp .ge 7, 3) := by decide +kernel
theorem dX9_urgent_116 : decode cX9_urgent 116 = .ok (.iconst 1, 1) := by decide +kernel
theorem dX9_urgent_117 : decode cX9_urgent 117 = .ok (.goto 4, 3) := by decide +kernel
theorem dX9_urgent_120 : decode cX9_urgent 120 = .ok (.iconst 0, 1) := by decide +kernel
theorem dX9_urgent_121 : decode cX9_urgent 121 = .ok (.iadd, 1) := by decide +kernel
theorem dX9_urgent_122 : decode cX9_urgent 122 = .ok (.istore 4, 2) := by decide +kernel
theorem dX9_urgent_124 : decode cX9_urgent 124 = .ok (.iinc 5 1, 3) := by decide +kernel
theorem dX9_urgent_127 : decode cX9_urgent 127 = .ok (.goto (-86), 3) := by decide +kernel
theorem dX9_urgent_130 : decode cX9_urgent 130 = .ok (.iload 4, 2) := by decide +kernel
theorem dX9_urgent_132 : decode cX9_urgent 132 = .ok (.iload_n 1, 1) := by decide +kernel
theorem dX9_urgent_133 : decode cX9_urgent 133 = .ok (.if_icmp .ne 7, 3) := by decide +kernel
theorem dX9_urgent_136 : decode cX9_urgent 136 = .ok (.iload_n 3, 1) := by decide +kernel
theorem dX9_urgent_137 : decode cX9_urgent 137 = .ok (.goto 4, 3) := by decide +kernel
theorem dX9_urgent_140 : decode cX9_urgent 140 = .ok (.iload_n 2, 1) := by decide +kernel
theorem dX9_urgent_141 : decode cX9_urgent 141 = .ok (.istore_n 2, 1) := by decide +kernel
theorem dX9_urgent_142 : decode cX9_urgent 142 = .ok (.iinc 3 1, 3) := by decide +kernel
theorem dX9_urgent_145 : decode cX9_urgent 145 = .ok (.goto (-134), 3) := by decide +kernel
theorem dX9_urgent_148 : decode cX9_urgent 148 = .ok (.iload_n 2, 1) := by decide +kernel
theorem dX9_urgent_149 : decode cX9_urgent 149 = .ok (.ireturn, 1) := by decide +kernel
theorem dX9_undo_0 : decode cX9_undo 0 = .ok (.aload_n 0, 1) := by decide +kernel
theorem dX9_undo_1 : decode cX9_undo 1 = .ok (.getfield 29, 3) := by decide +kernel
theorem dX9_undo_4 : decode cX9_undo 4 = .ok (.ifCond .ne 6, 3) := by decide +kernel
theorem dX9_undo_7 : decode cX9_undo 7 = .ok (.bipush (-2), 2) := by decide +kernel
theorem dX9_undo_9 : decode cX9_undo 9 = .ok (.ireturn, 1) := by decide +kernel
theorem dX9_undo_10 : decode cX9_undo 10 = .ok (.aload_n 0, 1) := by decide +kernel
theorem dX9_undo_11 : decode cX9_undo 11 = .ok (.dup, 1) := by decide +kernel
theorem dX9_undo_12 : decode cX9_undo 12 = .ok (.getfield 29, 3) := by decide +kernel
theorem dX9_undo_15 : decode cX9_undo 15 = .ok (.iconst 1, 1) := by decide +kernel
theorem dX9_undo_16 : decode cX9_undo 16 = .ok (.isub, 1) := by decide +kernel
theorem dX9_undo_17 : decode cX9_undo 17 = .ok (.putfield 29, 3) := by decide +kernel
theorem dX9_undo_20 : decode cX9_undo 20 = .ok (.iconst 0, 1) := by decide +kernel
theorem dX9_undo_21 : decode cX9_undo 21 = .ok (.istore_n 1, 1) := by decide +kernel
theorem dX9_undo_22 : decode cX9_undo 22 = .ok (.iload_n 1, 1) := by decide +kernel
theorem dX9_undo_23 : decode cX9_undo 23 = .ok (.sipush 199, 3) := by decide +kernel
theorem dX9_undo_26 : decode cX9_undo 26 = .ok (.if_icmp .ge 30, 3) := by decide +kernel
theorem dX9_undo_29 : decode cX9_undo 29 = .ok (.aload_n 0, 1) := by decide +kernel
theorem dX9_undo_30 : decode cX9_undo 30 = .ok (.getfield 7, 3) := by decide +kernel
theorem dX9_undo_33 : decode cX9_undo 33 = .ok (.iload_n 1, 1) := by decide +kernel
theorem dX9_undo_34 : decode cX9_undo 34 = .ok (.aload_n 0, 1) := by decide +kernel
theorem dX9_undo_35 : decode cX9_undo 35 = .ok (.getfield 13, 3) := by decide +kernel
theorem dX9_undo_38 : decode cX9_undo 38 = .ok (.sipush 199, 3) := by decide +kernel
theorem dX9_undo_41 : decode cX9_undo 41 = .ok (.aload_n 0, 1) := by decide +kernel
theorem dX9_undo_42 : decode cX9_undo 42 = .ok (.getfield 29, 3) := by decide +kernel
theorem dX9_undo_45 : decode cX9_undo 45 = .ok (.imul, 1) := by decide +kernel
theorem dX9_undo_46 : decode cX9_undo 46 = .ok (.iload_n 1, 1) := by decide +kernel
theorem dX9_undo_47 : decode cX9_undo 47 = .ok (.iadd, 1) := by decide +kernel
theorem dX9_undo_48 : decode cX9_undo 48 = .ok (.iaload, 1) := by decide +kernel
theorem dX9_undo_49 : decode cX9_undo 49 = .ok (.iastore, 1) := by decide +kernel
theorem dX9_undo_50 : decode cX9_undo 50 = .ok (.iinc 1 1, 3) := by decide +kernel
theorem dX9_undo_53 : decode cX9_undo 53 = .ok (.goto (-31), 3) := by decide +kernel
theorem dX9_undo_56 : decode cX9_undo 56 = .ok (.aload_n 0, 1) := by decide +kernel
theorem dX9_undo_57 : decode cX9_undo 57 = .ok (.getfield 29, 3) := by decide +kernel
theorem dX9_undo_60 : decode cX9_undo 60 = .ok (.ireturn, 1) := by decide +kernel
theorem dX9_type_0 : decode cX9_type 0 = .ok (.iload_n 1, 1) := by decide +kernel
theorem dX9_type_1 : decode cX9_type 1 = .ok (.bipush 32, 2) := by decide +kernel
theorem dX9_type_3 : decode cX9_type 3 = .ok (.bipush 126, 2) := by decide +kernel
theorem dX9_type_5 : decode cX9_type 5 = .ok (.invokestatic 33, 3) := by decide +kernel
theorem dX9_type_8 : decode cX9_type 8 = .ok (.ifCond .ne 5, 3) := by decide +kernel
theorem dX9_type_11 : decode cX9_type 11 = .ok (.iconst (-1), 1) := by decide +kernel
theorem dX9_type_12 : decode cX9_type 12 = .ok (.ireturn, 1) := by decide +kernel
theorem dX9_type_13 : decode cX9_type 13 = .ok (.aload_n 0, 1) := by decide +kernel
theorem dX9_type_14 : decode cX9_type 14 = .ok (.getfield 121, 3) := by decide +kernel
theorem dX9_type_17 : decode cX9_type 17 = .ok (.bipush 80, 2) := by decide +kernel
theorem dX9_type_19 : decode cX9_type 19 = .ok (.if_icmp .ne 6, 3) := by decide +kernel
theorem dX9_type_22 : decode cX9_type 22 = .ok (.bipush (-3), 2) := by decide +kernel
theorem dX9_type_24 : decode cX9_type 24 = .ok (.ireturn, 1) := by decide +kernel
theorem dX9_type_25 : decode cX9_type 25 = .ok (.aload_n 0, 1) := by decide +kernel
theorem dX9_type_26 : decode cX9_type 26 = .ok (.getfield 19, 3) := by decide +kernel
theorem dX9_type_29 : decode cX9_type 29 = .ok (.aload_n 0, 1) := by decide +kernel
theorem dX9_type_30 : decode cX9_type 30 = .ok (.getfield 121, 3) := by decide +kernel
theorem dX9_type_33 : decode cX9_type 33 = .ok (.iload_n 1, 1) := by decide +kernel
theorem dX9_type_34 : decode cX9_type 34 = .ok (.iastore, 1) := by decide +kernel
theorem dX9_type_35 : decode cX9_type 35 = .ok (.aload_n 0, 1) := by decide +kernel
theorem dX9_type_36 : decode cX9_type 36 = .ok (.dup, 1) := by decide +kernel
theorem dX9_type_37 : decode cX9_type 37 = .ok (.getfield 121, 3) := by decide +kernel
theorem dX9_type_40 : decode cX9_type 40 = .ok (.iconst 1, 1) := by decide +kernel
theorem dX9_type_41 : decode cX9_type 41 = .ok (.iadd, 1) := by decide +kernel
theorem dX9_type_42 : decode cX9_type 42 = .ok (.putfield 121, 3) := by decide +kernel
theorem dX9_type_45 : decode cX9_type 45 = .ok (.aload_n 0, 1) := by decide +kernel
theorem dX9_type_46 : decode cX9_type 46 = .ok (.getfield 121, 3) := by decide +kernel
theorem dX9_type_49 : decode cX9_type 49 = .ok (.ireturn, 1) := by decide +kernel
theorem dX9_clearText_0 : decode cX9_clearText 0 = .ok (.aload_n 0, 1) := by decide +kernel
theorem dX9_clearText_1 : decode cX9_clearText 1 = .ok (.getfield 121, 3) := by decide +kernel
theorem dX9_clearText_4 : decode cX9_clearText 4 = .ok (.istore_n 1, 1) := by decide +kernel
theorem dX9_clearText_5 : decode cX9_clearText 5 = .ok (.aload_n 0, 1) := by decide +kernel
theorem dX9_clearText_6 : decode cX9_clearText 6 = .ok (.iconst 0, 1) := by decide +kernel
theorem dX9_clearText_7 : decode cX9_clearText 7 = .ok (.putfield 121, 3) := by decide +kernel
theorem dX9_clearText_10 : decode cX9_clearText 10 = .ok (.iload_n 1, 1) := by decide +kernel
theorem dX9_clearText_11 : decode cX9_clearText 11 = .ok (.ireturn, 1) := by decide +kernel
theorem dX9_isAt_0 : decode cX9_isAt 0 = .ok (.aload_n 0, 1) := by decide +kernel
theorem dX9_isAt_1 : decode cX9_isAt 1 = .ok (.getfield 127, 3) := by decide +kernel
theorem dX9_isAt_4 : decode cX9_isAt 4 = .ok (.aload_n 0, 1) := by decide +kernel
theorem dX9_isAt_5 : decode cX9_isAt 5 = .ok (.getfield 121, 3) := by decide +kernel
theorem dX9_isAt_8 : decode cX9_isAt 8 = .ok (.if_icmp .ge 24, 3) := by decide +kernel
theorem dX9_isAt_11 : decode cX9_isAt 11 = .ok (.aload_n 0, 1) := by decide +kernel
theorem dX9_isAt_12 : decode cX9_isAt 12 = .ok (.getfield 19, 3) := by decide +kernel
theorem dX9_isAt_15 : decode cX9_isAt 15 = .ok (.aload_n 0, 1) := by decide +kernel
theorem dX9_isAt_16 : decode cX9_isAt 16 = .ok (.getfield 127, 3) := by decide +kernel
theorem dX9_isAt_19 : decode cX9_isAt 19 = .ok (.iaload, 1) := by decide +kernel
theorem dX9_isAt_20 : decode cX9_isAt 20 = .ok (.iload_n 1, 1) := by decide +kernel
theorem dX9_isAt_21 : decode cX9_isAt 21 = .ok (.iload_n 2, 1) := by decide +kernel
theorem dX9_isAt_22 : decode cX9_isAt 22 = .ok (.invokestatic 33, 3) := by decide +kernel
theorem dX9_isAt_25 : decode cX9_isAt 25 = .ok (.ifCond .eq 7, 3) := by decide +kernel
theorem dX9_isAt_28 : decode cX9_isAt 28 = .ok (.iconst 1, 1) := by decide +kernel
theorem dX9_isAt_29 : decode cX9_isAt 29 = .ok (.goto 4, 3) := by decide +kernel
theorem dX9_isAt_32 : decode cX9_isAt 32 = .ok (.iconst 0, 1) := by decide +kernel
theorem dX9_isAt_33 : decode cX9_isAt 33 = .ok (.ireturn, 1) := by decide +kernel
theorem dX9_number_0 : decode cX9_number 0 = .ok (.aload_n 0, 1) := by decide +kernel
theorem dX9_number_1 : decode cX9_number 1 = .ok (.getfield 127, 3) := by decide +kernel
theorem dX9_number_4 : decode cX9_number 4 = .ok (.istore_n 3, 1) := by decide +kernel
theorem dX9_number_5 : decode cX9_number 5 = .ok (.aload_n 0, 1) := by decide +kernel
theorem dX9_number_6 : decode cX9_number 6 = .ok (.getfield 22, 3) := by decide +kernel
theorem dX9_number_9 : decode cX9_number 9 = .ok (.iload_n 1, 1) := by decide +kernel
theorem dX9_number_10 : decode cX9_number 10 = .ok (.iconst 0, 1) := by decide +kernel
theorem dX9_number_11 : decode cX9_number 11 = .ok (.iastore, 1) := by decide +kernel
theorem dX9_number_12 : decode cX9_number 12 = .ok (.aload_n 0, 1) := by decide +kernel
theorem dX9_number_13 : decode cX9_number 13 = .ok (.bipush 48, 2) := by decide +kernel
theorem dX9_number_15 : decode cX9_number 15 = .ok (.bipush 57, 2) := by decide +kernel
theorem dX9_number_17 : decode cX9_number 17 = .ok (.invokevirtual 130, 3) := by decide +kernel
theorem dX9_number_20 : decode cX9_number 20 = .ok (.ifCond .eq 54, 3) := by decide +kernel
theorem dX9_number_23 : decode cX9_number 23 = .ok (.aload_n 0, 1) := by decide +kernel
theorem dX9_number_24 : decode cX9_number 24 = .ok (.getfield 127, 3) := by decide +kernel
theorem dX9_number_27 : decode cX9_number 27 = .ok (.iload_n 3, 1) := by decide +kernel
theorem dX9_number_28 : decode cX9_number 28 = .ok (.isub, 1) := by decide +kernel
theorem dX9_number_29 : decode cX9_number 29 = .ok (.iconst 3, 1) := by decide +kernel
theorem dX9_number_30 : decode cX9_number 30 = .ok (.if_icmp .ge 44, 3) := by decide +kernel
theorem dX9_number_33 : decode cX9_number 33 = .ok (.aload_n 0, 1) := by decide +kernel
theorem dX9_number_34 : decode cX9_number 34 = .ok (.getfield 22, 3) := by decide +kernel
theorem dX9_number_37 : decode cX9_number 37 = .ok (.iload_n 1, 1) := by decide +kernel
theorem dX9_number_38 : decode cX9_number 38 = .ok (.bipush 10, 2) := by decide +kernel
theorem dX9_number_40 : decode cX9_number 40 = .ok (.aload_n 0, 1) := by decide +kernel
theorem dX9_number_41 : decode cX9_number 41 = .ok (.getfield 22, 3) := by decide +kernel
theorem dX9_number_44 : decode cX9_number 44 = .ok (.iload_n 1, 1) := by decide +kernel
theorem dX9_number_45 : decode cX9_number 45 = .ok (.iaload, 1) := by decide +kernel
theorem dX9_number_46 : decode cX9_number 46 = .ok (.imul, 1) := by decide +kernel
theorem dX9_number_47 : decode cX9_number 47 = .ok (.aload_n 0, 1) := by decide +kernel
theorem dX9_number_48 : decode cX9_number 48 = .ok (.getfield 19, 3) := by decide +kernel
theorem dX9_number_51 : decode cX9_number 51 = .ok (.aload_n 0, 1) := by decide +kernel
theorem dX9_number_52 : decode cX9_number 52 = .ok (.getfield 127, 3) := by decide +kernel
theorem dX9_number_55 : decode cX9_number 55 = .ok (.iaload, 1) := by decide +kernel
theorem dX9_number_56 : decode cX9_number 56 = .ok (.iadd, 1) := by decide +kernel
theorem dX9_number_57 : decode cX9_number 57 = .ok (.bipush 48, 2) := by decide +kernel
theorem dX9_number_59 : decode cX9_number 59 = .ok (.isub, 1) := by decide +kernel
theorem dX9_number_60 : decode cX9_number 60 = .ok (.iastore, 1) := by decide +kernel
theorem dX9_number_61 : decode cX9_number 61 = .ok (.aload_n 0, 1) := by decide +kernel
theorem dX9_number_62 : decode cX9_number 62 = .ok (.dup, 1) := by decide +kernel
theorem dX9_number_63 : decode cX9_number 63 = .ok (.getfield 127, 3) := by decide +kernel
theorem dX9_number_66 : decode cX9_number 66 = .ok (.iconst 1, 1) := by decide +kernel
theorem dX9_number_67 : decode cX9_number 67 = .ok (.iadd, 1) := by decide +kernel
theorem dX9_number_68 : decode cX9_number 68 = .ok (.putfield 127, 3) := by decide +kernel
theorem dX9_number_71 : decode cX9_number 71 = .ok (.goto (-59), 3) := by decide +kernel
theorem dX9_number_74 : decode cX9_number 74 = .ok (.aload_n 0, 1) := by decide +kernel
theorem dX9_number_75 : decode cX9_number 75 = .ok (.getfield 127, 3) := by decide +kernel
theorem dX9_number_78 : decode cX9_number 78 = .ok (.iload_n 3, 1) := by decide +kernel
theorem dX9_number_79 : decode cX9_number 79 = .ok (.if_icmp .le 16, 3) := by decide +kernel
theorem dX9_number_82 : decode cX9_number 82 = .ok (.aload_n 0, 1) := by decide +kernel
theorem dX9_number_83 : decode cX9_number 83 = .ok (.iload_n 2, 1) := by decide +kernel
theorem dX9_number_84 : decode cX9_number 84 = .ok (.iload_n 2, 1) := by decide +kernel
theorem dX9_number_85 : decode cX9_number 85 = .ok (.invokevirtual 130, 3) := by decide +kernel
theorem dX9_number_88 : decode cX9_number 88 = .ok (.ifCond .eq 7, 3) := by decide +kernel
theorem dX9_number_91 : decode cX9_number 91 = .ok (.iconst 1, 1) := by decide +kernel
theorem dX9_number_92 : decode cX9_number 92 = .ok (.goto 4, 3) := by decide +kernel
theorem dX9_number_95 : decode cX9_number 95 = .ok (.iconst 0, 1) := by decide +kernel
theorem dX9_number_96 : decode cX9_number 96 = .ok (.istore 4, 2) := by decide +kernel
theorem dX9_number_98 : decode cX9_number 98 = .ok (.aload_n 0, 1) := by decide +kernel
theorem dX9_number_99 : decode cX9_number 99 = .ok (.dup, 1) := by decide +kernel
theorem dX9_number_100 : decode cX9_number 100 = .ok (.getfield 127, 3) := by decide +kernel
theorem dX9_number_103 : decode cX9_number 103 = .ok (.iconst 1, 1) := by decide +kernel
theorem dX9_number_104 : decode cX9_number 104 = .ok (.iadd, 1) := by decide +kernel
theorem dX9_number_105 : decode cX9_number 105 = .ok (.putfield 127, 3) := by decide +kernel
theorem dX9_number_108 : decode cX9_number 108 = .ok (.iload 4, 2) := by decide +kernel
theorem dX9_number_110 : decode cX9_number 110 = .ok (.ireturn, 1) := by decide +kernel
theorem dX9_numbersOf_0 : decode cX9_numbersOf 0 = .ok (.iload_n 0, 1) := by decide +kernel
theorem dX9_numbersOf_1 : decode cX9_numbersOf 1 = .ok (.bipush 98, 2) := by decide +kernel
theorem dX9_numbersOf_3 : decode cX9_numbersOf 3 = .ok (.if_icmp .ne 7, 3) := by decide +kernel
theorem dX9_numbersOf_6 : decode cX9_numbersOf 6 = .ok (.iconst 3, 1) := by decide +kernel
theorem dX9_numbersOf_7 : decode cX9_numbersOf 7 = .ok (.goto 42, 3) := by decide +kernel
theorem dX9_numbersOf_10 : decode cX9_numbersOf 10 = .ok (.iload_n 0, 1) := by decide +kernel
theorem dX9_numbersOf_11 : decode cX9_numbersOf 11 = .ok (.bipush 109, 2) := by decide +kernel
theorem dX9_numbersOf_13 : decode cX9_numbersOf 13 = .ok (.if_icmp .eq 9, 3) := by decide +kernel
theorem dX9_numbersOf_16 : decode cX9_numbersOf 16 = .ok (.iload_n 0, 1) := by decide +kernel
theorem dX9_numbersOf_17 : decode cX9_numbersOf 17 = .ok (.bipush 111, 2) := by decide +kernel
theorem dX9_numbersOf_19 : decode cX9_numbersOf 19 = .ok (.if_icmp .ne 7, 3) := by decide +kernel
theorem dX9_numbersOf_22 : decode cX9_numbersOf 22 = .ok (.iconst 2, 1) := by decide +kernel
theorem dX9_numbersOf_23 : decode cX9_numbersOf 23 = .ok (.goto 26, 3) := by decide +kernel
theorem dX9_numbersOf_26 : decode cX9_numbersOf 26 = .ok (.iload_n 0, 1) := by decide +kernel
theorem dX9_numbersOf_27 : decode cX9_numbersOf 27 = .ok (.bipush 101, 2) := by decide +kernel
theorem dX9_numbersOf_29 : decode cX9_numbersOf 29 = .ok (.if_icmp .eq 15, 3) := by decide +kernel
theorem dX9_numbersOf_32 : decode cX9_numbersOf 32 = .ok (.iload_n 0, 1) := by decide +kernel
theorem dX9_numbersOf_33 : decode cX9_numbersOf 33 = .ok (.bipush 120, 2) := by decide +kernel
theorem dX9_numbersOf_35 : decode cX9_numbersOf 35 = .ok (.if_icmp .eq 9, 3) := by decide +kernel
theorem dX9_numbersOf_38 : decode cX9_numbersOf 38 = .ok (.iload_n 0, 1) := by decide +kernel
theorem dX9_numbersOf_39 : decode cX9_numbersOf 39 = .ok (.bipush 116, 2) := by decide +kernel
theorem dX9_numbersOf_41 : decode cX9_numbersOf 41 = .ok (.if_icmp .ne 7, 3) := by decide +kernel
theorem dX9_numbersOf_44 : decode cX9_numbersOf 44 = .ok (.iconst 1, 1) := by decide +kernel
theorem dX9_numbersOf_45 : decode cX9_numbersOf 45 = .ok (.goto 4, 3) := by decide +kernel
theorem dX9_numbersOf_48 : decode cX9_numbersOf 48 = .ok (.iconst 0, 1) := by decide +kernel
theorem dX9_numbersOf_49 : decode cX9_numbersOf 49 = .ok (.ireturn, 1) := by decide +kernel
theorem dX9_calls_0 : decode cX9_calls 0 = .ok (.iload_n 1, 1) := by decide +kernel
theorem dX9_calls_1 : decode cX9_calls 1 = .ok (.lookupswitch 130 #[(98, 51), (101, 91), (109, 74), (111, 113), (120, 102)], 51) := by decide +kernel
theorem dX9_calls_52 : decode cX9_calls 52 = .ok (.aload_n 0, 1) := by decide +kernel
theorem dX9_calls_53 : decode cX9_calls 53 = .ok (.aload_n 0, 1) := by decide +kernel
theorem dX9_calls_54 : decode cX9_calls 54 = .ok (.getfield 22, 3) := by decide +kernel
theorem dX9_calls_57 : decode cX9_calls 57 = .ok (.iconst 0, 1) := by decide +kernel
theorem dX9_calls_58 : decode cX9_calls 58 = .ok (.iaload, 1) := by decide +kernel
theorem dX9_calls_59 : decode cX9_calls 59 = .ok (.aload_n 0, 1) := by decide +kernel
theorem dX9_calls_60 : decode cX9_calls 60 = .ok (.getfield 22, 3) := by decide +kernel
theorem dX9_calls_63 : decode cX9_calls 63 = .ok (.iconst 1, 1) := by decide +kernel
theorem dX9_calls_64 : decode cX9_calls 64 = .ok (.iaload, 1) := by decide +kernel
theorem dX9_calls_65 : decode cX9_calls 65 = .ok (.aload_n 0, 1) := by decide +kernel
theorem dX9_calls_66 : decode cX9_calls 66 = .ok (.getfield 22, 3) := by decide +kernel
theorem dX9_calls_69 : decode cX9_calls 69 = .ok (.iconst 2, 1) := by decide +kernel
theorem dX9_calls_70 : decode cX9_calls 70 = .ok (.iaload, 1) := by decide +kernel
theorem dX9_calls_71 : decode cX9_calls 71 = .ok (.invokevirtual 133, 3) := by decide +kernel
theorem dX9_calls_74 : decode cX9_calls 74 = .ok (.ireturn, 1) := by decide +kernel
theorem dX9_calls_75 : decode cX9_calls 75 = .ok (.aload_n 0, 1) := by decide +kernel
theorem dX9_calls_76 : decode cX9_calls 76 = .ok (.aload_n 0, 1) := by decide +kernel
theorem dX9_calls_77 : decode cX9_calls 77 = .ok (.getfield 22, 3) := by decide +kernel
theorem dX9_calls_80 : decode cX9_calls 80 = .ok (.iconst 0, 1) := by decide +kernel
theorem dX9_calls_81 : decode cX9_calls 81 = .ok (.iaload, 1) := by decide +kernel
theorem dX9_calls_82 : decode cX9_calls 82 = .ok (.aload_n 0, 1) := by decide +kernel
theorem dX9_calls_83 : decode cX9_calls 83 = .ok (.getfield 22, 3) := by decide +kernel
theorem dX9_calls_86 : decode cX9_calls 86 = .ok (.iconst 1, 1) := by decide +kernel
theorem dX9_calls_87 : decode cX9_calls 87 = .ok (.iaload, 1) := by decide +kernel
theorem dX9_calls_88 : decode cX9_calls 88 = .ok (.invokevirtual 136, 3) := by decide +kernel
theorem dX9_calls_91 : decode cX9_calls 91 = .ok (.ireturn, 1) := by decide +kernel
theorem dX9_calls_92 : decode cX9_calls 92 = .ok (.aload_n 0, 1) := by decide +kernel
theorem dX9_calls_93 : decode cX9_calls 93 = .ok (.aload_n 0, 1) := by decide +kernel
theorem dX9_calls_94 : decode cX9_calls 94 = .ok (.getfield 22, 3) := by decide +kernel
theorem dX9_calls_97 : decode cX9_calls 97 = .ok (.iconst 0, 1) := by decide +kernel
theorem dX9_calls_98 : decode cX9_calls 98 = .ok (.iaload, 1) := by decide +kernel
theorem dX9_calls_99 : decode cX9_calls 99 = .ok (.invokevirtual 139, 3) := by decide +kernel
theorem dX9_calls_102 : decode cX9_calls 102 = .ok (.ireturn, 1) := by decide +kernel
theorem dX9_calls_103 : decode cX9_calls 103 = .ok (.aload_n 0, 1) := by decide +kernel
theorem dX9_calls_104 : decode cX9_calls 104 = .ok (.aload_n 0, 1) := by decide +kernel
theorem dX9_calls_105 : decode cX9_calls 105 = .ok (.getfield 22, 3) := by decide +kernel
theorem dX9_calls_108 : decode cX9_calls 108 = .ok (.iconst 0, 1) := by decide +kernel
theorem dX9_calls_109 : decode cX9_calls 109 = .ok (.iaload, 1) := by decide +kernel
theorem dX9_calls_110 : decode cX9_calls 110 = .ok (.invokevirtual 142, 3) := by decide +kernel
theorem dX9_calls_113 : decode cX9_calls 113 = .ok (.ireturn, 1) := by decide +kernel
theorem dX9_calls_114 : decode cX9_calls 114 = .ok (.aload_n 0, 1) := by decide +kernel
theorem dX9_calls_115 : decode cX9_calls 115 = .ok (.aload_n 0, 1) := by decide +kernel
theorem dX9_calls_116 : decode cX9_calls 116 = .ok (.getfield 22, 3) := by decide +kernel
theorem dX9_calls_119 : decode cX9_calls 119 = .ok (.iconst 0, 1) := by decide +kernel
theorem dX9_calls_120 : decode cX9_calls 120 = .ok (.iaload, 1) := by decide +kernel
theorem dX9_calls_121 : decode cX9_calls 121 = .ok (.aload_n 0, 1) := by decide +kernel
theorem dX9_calls_122 : decode cX9_calls 122 = .ok (.getfield 22, 3) := by decide +kernel
theorem dX9_calls_125 : decode cX9_calls 125 = .ok (.iconst 1, 1) := by decide +kernel
theorem dX9_calls_126 : decode cX9_calls 126 = .ok (.iaload, 1) := by decide +kernel
theorem dX9_calls_127 : decode cX9_calls 127 = .ok (.invokevirtual 145, 3) := by decide +kernel
theorem dX9_calls_130 : decode cX9_calls 130 = .ok (.ireturn, 1) := by decide +kernel
theorem dX9_calls_131 : decode cX9_calls 131 = .ok (.aload_n 0, 1) := by decide +kernel
theorem dX9_calls_132 : decode cX9_calls 132 = .ok (.aload_n 0, 1) := by decide +kernel
theorem dX9_calls_133 : decode cX9_calls 133 = .ok (.getfield 22, 3) := by decide +kernel
theorem dX9_calls_136 : decode cX9_calls 136 = .ok (.iconst 0, 1) := by decide +kernel
theorem dX9_calls_137 : decode cX9_calls 137 = .ok (.iaload, 1) := by decide +kernel
theorem dX9_calls_138 : decode cX9_calls 138 = .ok (.invokevirtual 148, 3) := by decide +kernel
theorem dX9_calls_141 : decode cX9_calls 141 = .ok (.ireturn, 1) := by decide +kernel
theorem dX9_plays_0 : decode cX9_plays 0 = .ok (.aload_n 0, 1) := by decide +kernel
theorem dX9_plays_1 : decode cX9_plays 1 = .ok (.iconst 1, 1) := by decide +kernel
theorem dX9_plays_2 : decode cX9_plays 2 = .ok (.putfield 25, 3) := by decide +kernel
theorem dX9_plays_5 : decode cX9_plays 5 = .ok (.aload_n 0, 1) := by decide +kernel
theorem dX9_plays_6 : decode cX9_plays 6 = .ok (.iconst 0, 1) := by decide +kernel
theorem dX9_plays_7 : decode cX9_plays 7 = .ok (.putfield 127, 3) := by decide +kernel
theorem dX9_plays_10 : decode cX9_plays 10 = .ok (.aload_n 0, 1) := by decide +kernel
theorem dX9_plays_11 : decode cX9_plays 11 = .ok (.iconst 0, 1) := by decide +kernel
theorem dX9_plays_12 : decode cX9_plays 12 = .ok (.putfield 151, 3) := by decide +kernel
theorem dX9_plays_15 : decode cX9_plays 15 = .ok (.aload_n 0, 1) := by decide +kernel
theorem dX9_plays_16 : decode cX9_plays 16 = .ok (.iconst 0, 1) := by decide +kernel
theorem dX9_plays_17 : decode cX9_plays 17 = .ok (.putfield 154, 3) := by decide +kernel
theorem dX9_plays_20 : decode cX9_plays 20 = .ok (.iconst 0, 1) := by decide +kernel
theorem dX9_plays_21 : decode cX9_plays 21 = .ok (.istore_n 1, 1) := by decide +kernel
theorem dX9_plays_22 : decode cX9_plays 22 = .ok (.aload_n 0, 1) := by decide +kernel
theorem dX9_plays_23 : decode cX9_plays 23 = .ok (.getfield 127, 3) := by decide +kernel
theorem dX9_plays_26 : decode cX9_plays 26 = .ok (.aload_n 0, 1) := by decide +kernel
theorem dX9_plays_27 : decode cX9_plays 27 = .ok (.getfield 121, 3) := by decide +kernel
theorem dX9_plays_30 : decode cX9_plays 30 = .ok (.if_icmp .ge 156, 3) := by decide +kernel
theorem dX9_plays_33 : decode cX9_plays 33 = .ok (.aload_n 0, 1) := by decide +kernel
theorem dX9_plays_34 : decode cX9_plays 34 = .ok (.getfield 154, 3) := by decide +kernel
theorem dX9_plays_37 : decode cX9_plays 37 = .ok (.ifCond .ne 149, 3) := by decide +kernel
theorem dX9_plays_40 : decode cX9_plays 40 = .ok (.aload_n 0, 1) := by decide +kernel
theorem dX9_plays_41 : decode cX9_plays 41 = .ok (.getfield 127, 3) := by decide +kernel
theorem dX9_plays_44 : decode cX9_plays 44 = .ok (.istore_n 1, 1) := by decide +kernel
theorem dX9_plays_45 : decode cX9_plays 45 = .ok (.aload_n 0, 1) := by decide +kernel
theorem dX9_plays_46 : decode cX9_plays 46 = .ok (.getfield 19, 3) := by decide +kernel
theorem dX9_plays_49 : decode cX9_plays 49 = .ok (.aload_n 0, 1) := by decide +kernel
theorem dX9_plays_50 : decode cX9_plays 50 = .ok (.getfield 127, 3) := by decide +kernel
theorem dX9_plays_53 : decode cX9_plays 53 = .ok (.iaload, 1) := by decide +kernel
theorem dX9_plays_54 : decode cX9_plays 54 = .ok (.istore_n 2, 1) := by decide +kernel
theorem dX9_plays_55 : decode cX9_plays 55 = .ok (.iload_n 2, 1) := by decide +kernel
theorem dX9_plays_56 : decode cX9_plays 56 = .ok (.invokestatic 157, 3) := by decide +kernel
theorem dX9_plays_59 : decode cX9_plays 59 = .ok (.istore_n 3, 1) := by decide +kernel
theorem dX9_plays_60 : decode cX9_plays 60 = .ok (.aload_n 0, 1) := by decide +kernel
theorem dX9_plays_61 : decode cX9_plays 61 = .ok (.dup, 1) := by decide +kernel
theorem dX9_plays_62 : decode cX9_plays 62 = .ok (.getfield 127, 3) := by decide +kernel
theorem dX9_plays_65 : decode cX9_plays 65 = .ok (.iconst 1, 1) := by decide +kernel
theorem dX9_plays_66 : decode cX9_plays 66 = .ok (.iadd, 1) := by decide +kernel
theorem dX9_plays_67 : decode cX9_plays 67 = .ok (.putfield 127, 3) := by decide +kernel
theorem dX9_plays_70 : decode cX9_plays 70 = .ok (.iload_n 3, 1) := by decide +kernel
theorem dX9_plays_71 : decode cX9_plays 71 = .ok (.ifCond .le 7, 3) := by decide +kernel
theorem dX9_plays_74 : decode cX9_plays 74 = .ok (.iconst 1, 1) := by decide +kernel
theorem dX9_plays_75 : decode cX9_plays 75 = .ok (.goto 4, 3) := by decide +kernel
theorem dX9_plays_78 : decode cX9_plays 78 = .ok (.iconst 0, 1) := by decide +kernel
theorem dX9_plays_79 : decode cX9_plays 79 = .ok (.istore 4, 2) := by decide +kernel
theorem dX9_plays_81 : decode cX9_plays 81 = .ok (.iconst 0, 1) := by decide +kernel
theorem dX9_plays_82 : decode cX9_plays 82 = .ok (.istore 5, 2) := by decide +kernel
theorem dX9_plays_84 : decode cX9_plays 84 = .ok (.iload 5, 2) := by decide +kernel
theorem dX9_plays_86 : decode cX9_plays 86 = .ok (.iload_n 3, 1) := by decide +kernel
theorem dX9_plays_87 : decode cX9_plays 87 = .ok (.if_icmp .ge 37, 3) := by decide +kernel
theorem dX9_plays_90 : decode cX9_plays 90 = .ok (.iload 4, 2) := by decide +kernel
theorem dX9_plays_92 : decode cX9_plays 92 = .ok (.ifCond .eq 32, 3) := by decide +kernel
theorem dX9_plays_95 : decode cX9_plays 95 = .ok (.aload_n 0, 1) := by decide +kernel
theorem dX9_plays_96 : decode cX9_plays 96 = .ok (.iload 5, 2) := by decide +kernel
theorem dX9_plays_98 : decode cX9_plays 98 = .ok (.iload 5, 2) := by decide +kernel
theorem dX9_plays_100 : decode cX9_plays 100 = .ok (.iload_n 3, 1) := by decide +kernel
theorem dX9_plays_101 : decode cX9_plays 101 = .ok (.iconst 1, 1) := by decide +kernel
theorem dX9_plays_102 : decode cX9_plays 102 = .ok (.isub, 1) := by decide +kernel
theorem dX9_plays_103 : decode cX9_plays 103 = .ok (.if_icmp .ne 8, 3) := by decide +kernel
theorem dX9_plays_106 : decode cX9_plays 106 = .ok (.bipush 59, 2) := by decide +kernel
theorem dX9_plays_108 : decode cX9_plays 108 = .ok (.goto 5, 3) := by decide +kernel
theorem dX9_plays_111 : decode cX9_plays 111 = .ok (.bipush 44, 2) := by decide +kernel
theorem dX9_plays_113 : decode cX9_plays 113 = .ok (.invokevirtual 160, 3) := by decide +kernel
theorem dX9_plays_116 : decode cX9_plays 116 = .ok (.istore 4, 2) := by decide +kernel
theorem dX9_plays_118 : decode cX9_plays 118 = .ok (.iinc 5 1, 3) := by decide +kernel
theorem dX9_plays_121 : decode cX9_plays 121 = .ok (.goto (-37), 3) := by decide +kernel
theorem dX9_plays_124 : decode cX9_plays 124 = .ok (.iload 4, 2) := by decide +kernel
theorem dX9_plays_126 : decode cX9_plays 126 = .ok (.ifCond .eq 11, 3) := by decide +kernel
theorem dX9_plays_129 : decode cX9_plays 129 = .ok (.aload_n 0, 1) := by decide +kernel
theorem dX9_plays_130 : decode cX9_plays 130 = .ok (.iload_n 2, 1) := by decide +kernel
theorem dX9_plays_131 : decode cX9_plays 131 = .ok (.invokevirtual 163, 3) := by decide +kernel
theorem dX9_plays_134 : decode cX9_plays 134 = .ok (.goto 4, 3) := by decide +kernel
theorem dX9_plays_137 : decode cX9_plays 137 = .ok (.iconst 0, 1) := by decide +kernel
theorem dX9_plays_138 : decode cX9_plays 138 = .ok (.istore 5, 2) := by decide +kernel
theorem dX9_plays_140 : decode cX9_plays 140 = .ok (.aload_n 0, 1) := by decide +kernel
theorem dX9_plays_141 : decode cX9_plays 141 = .ok (.iload 4, 2) := by decide +kernel
theorem dX9_plays_143 : decode cX9_plays 143 = .ok (.ifCond .ne 7, 3) := by decide +kernel
theorem dX9_plays_146 : decode cX9_plays 146 = .ok (.iconst 1, 1) := by decide +kernel
theorem dX9_plays_147 : decode cX9_plays 147 = .ok (.goto 23, 3) := by decide +kernel
theorem dX9_plays_150 : decode cX9_plays 150 = .ok (.iload 5, 2) := by decide +kernel
theorem dX9_plays_152 : decode cX9_plays 152 = .ok (.ifCond .lt 7, 3) := by decide +kernel
theorem dX9_plays_155 : decode cX9_plays 155 = .ok (.iconst 0, 1) := by decide +kernel
theorem dX9_plays_156 : decode cX9_plays 156 = .ok (.goto 14, 3) := by decide +kernel
theorem dX9_plays_159 : decode cX9_plays 159 = .ok (.iload 5, 2) := by decide +kernel
theorem dX9_plays_161 : decode cX9_plays 161 = .ok (.iconst (-1), 1) := by decide +kernel
theorem dX9_plays_162 : decode cX9_plays 162 = .ok (.if_icmp .ne 7, 3) := by decide +kernel
theorem dX9_plays_165 : decode cX9_plays 165 = .ok (.iconst 2, 1) := by decide +kernel
theorem dX9_plays_166 : decode cX9_plays 166 = .ok (.goto 4, 3) := by decide +kernel
theorem dX9_plays_169 : decode cX9_plays 169 = .ok (.iconst 3, 1) := by decide +kernel
theorem dX9_plays_170 : decode cX9_plays 170 = .ok (.putfield 154, 3) := by decide +kernel
theorem dX9_plays_173 : decode cX9_plays 173 = .ok (.aload_n 0, 1) := by decide +kernel
theorem dX9_plays_174 : decode cX9_plays 174 = .ok (.dup, 1) := by decide +kernel
theorem dX9_plays_175 : decode cX9_plays 175 = .ok (.getfield 151, 3) := by decide +kernel
theorem dX9_plays_178 : decode cX9_plays 178 = .ok (.iconst 1, 1) := by decide +kernel
theorem dX9_plays_179 : decode cX9_plays 179 = .ok (.iadd, 1) := by decide +kernel
theorem dX9_plays_180 : decode cX9_plays 180 = .ok (.putfield 151, 3) := by decide +kernel
theorem dX9_plays_183 : decode cX9_plays 183 = .ok (.goto (-161), 3) := by decide +kernel
theorem dX9_plays_186 : decode cX9_plays 186 = .ok (.aload_n 0, 1) := by decide +kernel
theorem dX9_plays_187 : decode cX9_plays 187 = .ok (.iconst 0, 1) := by decide +kernel
theorem dX9_plays_188 : decode cX9_plays 188 = .ok (.putfield 25, 3) := by decide +kernel
theorem dX9_plays_191 : decode cX9_plays 191 = .ok (.aload_n 0, 1) := by decide +kernel
theorem dX9_plays_192 : decode cX9_plays 192 = .ok (.getfield 154, 3) := by decide +kernel
theorem dX9_plays_195 : decode cX9_plays 195 = .ok (.ifCond .ne 8, 3) := by decide +kernel
theorem dX9_plays_198 : decode cX9_plays 198 = .ok (.bipush (-4), 2) := by decide +kernel
theorem dX9_plays_200 : decode cX9_plays 200 = .ok (.goto 4, 3) := by decide +kernel
theorem dX9_plays_203 : decode cX9_plays 203 = .ok (.iload_n 1, 1) := by decide +kernel
theorem dX9_plays_204 : decode cX9_plays 204 = .ok (.ireturn, 1) := by decide +kernel
theorem dX9_fault_0 : decode cX9_fault 0 = .ok (.iload_n 1, 1) := by decide +kernel
theorem dX9_fault_1 : decode cX9_fault 1 = .ok (.iconst 0, 1) := by decide +kernel
theorem dX9_fault_2 : decode cX9_fault 2 = .ok (.iconst 1, 1) := by decide +kernel
theorem dX9_fault_3 : decode cX9_fault 3 = .ok (.invokestatic 33, 3) := by decide +kernel
theorem dX9_fault_6 : decode cX9_fault 6 = .ok (.ifCond .ne 5, 3) := by decide +kernel
theorem dX9_fault_9 : decode cX9_fault 9 = .ok (.iconst (-1), 1) := by decide +kernel
theorem dX9_fault_10 : decode cX9_fault 10 = .ok (.ireturn, 1) := by decide +kernel
theorem dX9_fault_11 : decode cX9_fault 11 = .ok (.aload_n 0, 1) := by decide +kernel
theorem dX9_fault_12 : decode cX9_fault 12 = .ok (.getfield 7, 3) := by decide +kernel
theorem dX9_fault_15 : decode cX9_fault 15 = .ok (.aload_n 0, 1) := by decide +kernel
theorem dX9_fault_16 : decode cX9_fault 16 = .ok (.getfield 16, 3) := by decide +kernel
theorem dX9_fault_19 : decode cX9_fault 19 = .ok (.invokestatic 166, 3) := by decide +kernel
theorem dX9_fault_22 : decode cX9_fault 22 = .ok (.aload_n 0, 1) := by decide +kernel
theorem dX9_fault_23 : decode cX9_fault 23 = .ok (.invokevirtual 170, 3) := by decide +kernel
theorem dX9_fault_26 : decode cX9_fault 26 = .ok (.istore_n 2, 1) := by decide +kernel
theorem dX9_fault_27 : decode cX9_fault 27 = .ok (.aload_n 0, 1) := by decide +kernel
theorem dX9_fault_28 : decode cX9_fault 28 = .ok (.getfield 16, 3) := by decide +kernel
theorem dX9_fault_31 : decode cX9_fault 31 = .ok (.aload_n 0, 1) := by decide +kernel
theorem dX9_fault_32 : decode cX9_fault 32 = .ok (.getfield 7, 3) := by decide +kernel
theorem dX9_fault_35 : decode cX9_fault 35 = .ok (.invokestatic 166, 3) := by decide +kernel
theorem dX9_fault_38 : decode cX9_fault 38 = .ok (.iload_n 2, 1) := by decide +kernel
theorem dX9_fault_39 : decode cX9_fault 39 = .ok (.bipush (-4), 2) := by decide +kernel
theorem dX9_fault_41 : decode cX9_fault 41 = .ok (.if_icmp .eq 7, 3) := by decide +kernel
theorem dX9_fault_44 : decode cX9_fault 44 = .ok (.iload_n 1, 1) := by decide +kernel
theorem dX9_fault_45 : decode cX9_fault 45 = .ok (.ifCond .ne 7, 3) := by decide +kernel
theorem dX9_fault_48 : decode cX9_fault 48 = .ok (.iload_n 2, 1) := by decide +kernel
theorem dX9_fault_49 : decode cX9_fault 49 = .ok (.goto 7, 3) := by decide +kernel
theorem dX9_fault_52 : decode cX9_fault 52 = .ok (.aload_n 0, 1) := by decide +kernel
theorem dX9_fault_53 : decode cX9_fault 53 = .ok (.getfield 154, 3) := by decide +kernel
theorem dX9_fault_56 : decode cX9_fault 56 = .ok (.ireturn, 1) := by decide +kernel
theorem dX9_play_0 : decode cX9_play 0 = .ok (.aload_n 0, 1) := by decide +kernel
theorem dX9_play_1 : decode cX9_play 1 = .ok (.getfield 7, 3) := by decide +kernel
theorem dX9_play_4 : decode cX9_play 4 = .ok (.aload_n 0, 1) := by decide +kernel
theorem dX9_play_5 : decode cX9_play 5 = .ok (.getfield 16, 3) := by decide +kernel
theorem dX9_play_8 : decode cX9_play 8 = .ok (.invokestatic 166, 3) := by decide +kernel
theorem dX9_play_11 : decode cX9_play 11 = .ok (.aload_n 0, 1) := by decide +kernel
theorem dX9_play_12 : decode cX9_play 12 = .ok (.invokevirtual 170, 3) := by decide +kernel
theorem dX9_play_15 : decode cX9_play 15 = .ok (.istore_n 1, 1) := by decide +kernel
theorem dX9_play_16 : decode cX9_play 16 = .ok (.aload_n 0, 1) := by decide +kernel
theorem dX9_play_17 : decode cX9_play 17 = .ok (.getfield 16, 3) := by decide +kernel
theorem dX9_play_20 : decode cX9_play 20 = .ok (.aload_n 0, 1) := by decide +kernel
theorem dX9_play_21 : decode cX9_play 21 = .ok (.getfield 7, 3) := by decide +kernel
theorem dX9_play_24 : decode cX9_play 24 = .ok (.invokestatic 166, 3) := by decide +kernel
theorem dX9_play_27 : decode cX9_play 27 = .ok (.iload_n 1, 1) := by decide +kernel
theorem dX9_play_28 : decode cX9_play 28 = .ok (.bipush (-4), 2) := by decide +kernel
theorem dX9_play_30 : decode cX9_play 30 = .ok (.if_icmp .eq 6, 3) := by decide +kernel
theorem dX9_play_33 : decode cX9_play 33 = .ok (.bipush (-2), 2) := by decide +kernel
theorem dX9_play_35 : decode cX9_play 35 = .ok (.ireturn, 1) := by decide +kernel
theorem dX9_play_36 : decode cX9_play 36 = .ok (.aload_n 0, 1) := by decide +kernel
theorem dX9_play_37 : decode cX9_play 37 = .ok (.invokevirtual 41, 3) := by decide +kernel
theorem dX9_play_40 : decode cX9_play 40 = .ok (.aload_n 0, 1) := by decide +kernel
theorem dX9_play_41 : decode cX9_play 41 = .ok (.invokevirtual 170, 3) := by decide +kernel
theorem dX9_play_44 : decode cX9_play 44 = .ok (.bipush (-4), 2) := by decide +kernel
theorem dX9_play_46 : decode cX9_play 46 = .ok (.if_icmp .ne 10, 3) := by decide +kernel
theorem dX9_play_49 : decode cX9_play 49 = .ok (.aload_n 0, 1) := by decide +kernel
theorem dX9_play_50 : decode cX9_play 50 = .ok (.getfield 151, 3) := by decide +kernel
theorem dX9_play_53 : decode cX9_play 53 = .ok (.goto 5, 3) := by decide +kernel
theorem dX9_play_56 : decode cX9_play 56 = .ok (.bipush (-4), 2) := by decide +kernel
theorem dX9_play_58 : decode cX9_play 58 = .ok (.ireturn, 1) := by decide +kernel
theorem dJ6_bitCount_0f7a4_0 : decode cJ6_bitCount_0f7a4 0 = .ok (.iload_n 0, 1) := by decide +kernel
theorem dJ6_bitCount_0f7a4_1 : decode cJ6_bitCount_0f7a4 1 = .ok (.iload_n 0, 1) := by decide +kernel
theorem dJ6_bitCount_0f7a4_2 : decode cJ6_bitCount_0f7a4 2 = .ok (.iconst 1, 1) := by decide +kernel
theorem dJ6_bitCount_0f7a4_3 : decode cJ6_bitCount_0f7a4 3 = .ok (.iushr, 1) := by decide +kernel
theorem dJ6_bitCount_0f7a4_4 : decode cJ6_bitCount_0f7a4 4 = .ok (.ldc_w 265, 3) := by decide +kernel
theorem dJ6_bitCount_0f7a4_7 : decode cJ6_bitCount_0f7a4 7 = .ok (.iand, 1) := by decide +kernel
theorem dJ6_bitCount_0f7a4_8 : decode cJ6_bitCount_0f7a4 8 = .ok (.isub, 1) := by decide +kernel
theorem dJ6_bitCount_0f7a4_9 : decode cJ6_bitCount_0f7a4 9 = .ok (.istore_n 0, 1) := by decide +kernel
theorem dJ6_bitCount_0f7a4_10 : decode cJ6_bitCount_0f7a4 10 = .ok (.iload_n 0, 1) := by decide +kernel
theorem dJ6_bitCount_0f7a4_11 : decode cJ6_bitCount_0f7a4 11 = .ok (.ldc_w 266, 3) := by decide +kernel
theorem dJ6_bitCount_0f7a4_14 : decode cJ6_bitCount_0f7a4 14 = .ok (.iand, 1) := by decide +kernel
theorem dJ6_bitCount_0f7a4_15 : decode cJ6_bitCount_0f7a4 15 = .ok (.iload_n 0, 1) := by decide +kernel
theorem dJ6_bitCount_0f7a4_16 : decode cJ6_bitCount_0f7a4 16 = .ok (.iconst 2, 1) := by decide +kernel
theorem dJ6_bitCount_0f7a4_17 : decode cJ6_bitCount_0f7a4 17 = .ok (.iushr, 1) := by decide +kernel
theorem dJ6_bitCount_0f7a4_18 : decode cJ6_bitCount_0f7a4 18 = .ok (.ldc_w 266, 3) := by decide +kernel
theorem dJ6_bitCount_0f7a4_21 : decode cJ6_bitCount_0f7a4 21 = .ok (.iand, 1) := by decide +kernel
theorem dJ6_bitCount_0f7a4_22 : decode cJ6_bitCount_0f7a4 22 = .ok (.iadd, 1) := by decide +kernel
theorem dJ6_bitCount_0f7a4_23 : decode cJ6_bitCount_0f7a4 23 = .ok (.istore_n 0, 1) := by decide +kernel
theorem dJ6_bitCount_0f7a4_24 : decode cJ6_bitCount_0f7a4 24 = .ok (.iload_n 0, 1) := by decide +kernel
theorem dJ6_bitCount_0f7a4_25 : decode cJ6_bitCount_0f7a4 25 = .ok (.iload_n 0, 1) := by decide +kernel
theorem dJ6_bitCount_0f7a4_26 : decode cJ6_bitCount_0f7a4 26 = .ok (.iconst 4, 1) := by decide +kernel
theorem dJ6_bitCount_0f7a4_27 : decode cJ6_bitCount_0f7a4 27 = .ok (.iushr, 1) := by decide +kernel
theorem dJ6_bitCount_0f7a4_28 : decode cJ6_bitCount_0f7a4 28 = .ok (.iadd, 1) := by decide +kernel
theorem dJ6_bitCount_0f7a4_29 : decode cJ6_bitCount_0f7a4 29 = .ok (.ldc_w 267, 3) := by decide +kernel
theorem dJ6_bitCount_0f7a4_32 : decode cJ6_bitCount_0f7a4 32 = .ok (.iand, 1) := by decide +kernel
theorem dJ6_bitCount_0f7a4_33 : decode cJ6_bitCount_0f7a4 33 = .ok (.istore_n 0, 1) := by decide +kernel
theorem dJ6_bitCount_0f7a4_34 : decode cJ6_bitCount_0f7a4 34 = .ok (.iload_n 0, 1) := by decide +kernel
theorem dJ6_bitCount_0f7a4_35 : decode cJ6_bitCount_0f7a4 35 = .ok (.iload_n 0, 1) := by decide +kernel
theorem dJ6_bitCount_0f7a4_36 : decode cJ6_bitCount_0f7a4 36 = .ok (.bipush 8, 2) := by decide +kernel
theorem dJ6_bitCount_0f7a4_38 : decode cJ6_bitCount_0f7a4 38 = .ok (.iushr, 1) := by decide +kernel
theorem dJ6_bitCount_0f7a4_39 : decode cJ6_bitCount_0f7a4 39 = .ok (.iadd, 1) := by decide +kernel
theorem dJ6_bitCount_0f7a4_40 : decode cJ6_bitCount_0f7a4 40 = .ok (.istore_n 0, 1) := by decide +kernel
theorem dJ6_bitCount_0f7a4_41 : decode cJ6_bitCount_0f7a4 41 = .ok (.iload_n 0, 1) := by decide +kernel
theorem dJ6_bitCount_0f7a4_42 : decode cJ6_bitCount_0f7a4 42 = .ok (.iload_n 0, 1) := by decide +kernel
theorem dJ6_bitCount_0f7a4_43 : decode cJ6_bitCount_0f7a4 43 = .ok (.bipush 16, 2) := by decide +kernel
theorem dJ6_bitCount_0f7a4_45 : decode cJ6_bitCount_0f7a4 45 = .ok (.iushr, 1) := by decide +kernel
theorem dJ6_bitCount_0f7a4_46 : decode cJ6_bitCount_0f7a4 46 = .ok (.iadd, 1) := by decide +kernel
theorem dJ6_bitCount_0f7a4_47 : decode cJ6_bitCount_0f7a4 47 = .ok (.istore_n 0, 1) := by decide +kernel
theorem dJ6_bitCount_0f7a4_48 : decode cJ6_bitCount_0f7a4 48 = .ok (.iload_n 0, 1) := by decide +kernel
theorem dJ6_bitCount_0f7a4_49 : decode cJ6_bitCount_0f7a4 49 = .ok (.bipush 63, 2) := by decide +kernel
theorem dJ6_bitCount_0f7a4_51 : decode cJ6_bitCount_0f7a4 51 = .ok (.iand, 1) := by decide +kernel
theorem dJ6_bitCount_0f7a4_52 : decode cJ6_bitCount_0f7a4 52 = .ok (.ireturn, 1) := by decide +kernel
theorem dJ9_max_7cf53_0 : decode cJ9_max_7cf53 0 = .ok (.iload_n 0, 1) := by decide +kernel
theorem dJ9_max_7cf53_1 : decode cJ9_max_7cf53 1 = .ok (.iload_n 1, 1) := by decide +kernel
theorem dJ9_max_7cf53_2 : decode cJ9_max_7cf53 2 = .ok (.if_icmp .lt 7, 3) := by decide +kernel
theorem dJ9_max_7cf53_5 : decode cJ9_max_7cf53 5 = .ok (.iload_n 0, 1) := by decide +kernel
theorem dJ9_max_7cf53_6 : decode cJ9_max_7cf53 6 = .ok (.goto 4, 3) := by decide +kernel
theorem dJ9_max_7cf53_9 : decode cJ9_max_7cf53 9 = .ok (.iload_n 1, 1) := by decide +kernel
theorem dJ9_max_7cf53_10 : decode cJ9_max_7cf53 10 = .ok (.ireturn, 1) := by decide +kernel
theorem dJ9_min_7cf53_0 : decode cJ9_min_7cf53 0 = .ok (.iload_n 0, 1) := by decide +kernel
theorem dJ9_min_7cf53_1 : decode cJ9_min_7cf53 1 = .ok (.iload_n 1, 1) := by decide +kernel
theorem dJ9_min_7cf53_2 : decode cJ9_min_7cf53 2 = .ok (.if_icmp .gt 7, 3) := by decide +kernel
theorem dJ9_min_7cf53_5 : decode cJ9_min_7cf53 5 = .ok (.iload_n 0, 1) := by decide +kernel
theorem dJ9_min_7cf53_6 : decode cJ9_min_7cf53 6 = .ok (.goto 4, 3) := by decide +kernel
theorem dJ9_min_7cf53_9 : decode cJ9_min_7cf53 9 = .ok (.iload_n 1, 1) := by decide +kernel
theorem dJ9_min_7cf53_10 : decode cJ9_min_7cf53 10 = .ok (.ireturn, 1) := by decide +kernel
theorem dL_law_0 : decode cL_law 0 = .ok (.new 7, 3) := by decide +kernel
theorem dL_law_3 : decode cL_law 3 = .ok (.dup, 1) := by decide +kernel
theorem dL_law_4 : decode cL_law 4 = .ok (.invokespecial 9, 3) := by decide +kernel
theorem dL_law_7 : decode cL_law 7 = .ok (.astore_n 1, 1) := by decide +kernel
theorem dL_law_8 : decode cL_law 8 = .ok (.new 10, 3) := by decide +kernel
theorem dL_law_11 : decode cL_law 11 = .ok (.dup, 1) := by decide +kernel
theorem dL_law_12 : decode cL_law 12 = .ok (.invokespecial 12, 3) := by decide +kernel
theorem dL_law_15 : decode cL_law 15 = .ok (.astore_n 2, 1) := by decide +kernel
theorem dL_law_16 : decode cL_law 16 = .ok (.iconst 0, 1) := by decide +kernel
theorem dL_law_17 : decode cL_law 17 = .ok (.istore_n 3, 1) := by decide +kernel
theorem dL_law_18 : decode cL_law 18 = .ok (.iload_n 3, 1) := by decide +kernel
theorem dL_law_19 : decode cL_law 19 = .ok (.aload_n 0, 1) := by decide +kernel
theorem dL_law_20 : decode cL_law 20 = .ok (.arraylength, 1) := by decide +kernel
theorem dL_law_21 : decode cL_law 21 = .ok (.bipush 6, 2) := by decide +kernel
theorem dL_law_23 : decode cL_law 23 = .ok (.isub, 1) := by decide +kernel
theorem dL_law_24 : decode cL_law 24 = .ok (.if_icmp .gt 892, 3) := by decide +kernel
theorem dL_law_27 : decode cL_law 27 = .ok (.aload_n 0, 1) := by decide +kernel
theorem dL_law_28 : decode cL_law 28 = .ok (.iload_n 3, 1) := by decide +kernel
theorem dL_law_29 : decode cL_law 29 = .ok (.iaload, 1) := by decide +kernel
theorem dL_law_30 : decode cL_law 30 = .ok (.bipush 31, 2) := by decide +kernel
theorem dL_law_32 : decode cL_law 32 = .ok (.iand, 1) := by decide +kernel
theorem dL_law_33 : decode cL_law 33 = .ok (.tableswitch 877 0 25 #[119, 142, 205, 238, 271, 314, 357, 400, 433, 456, 479, 512, 535, 568, 601, 634, 667, 690, 713, 746, 769, 792, 805, 828, 841, 864], 119) := by decide +kernel
theorem dL_law_152 : decode cL_law 152 = .ok (.aload_n 1, 1) := by decide +kernel
theorem dL_law_153 : decode cL_law 153 = .ok (.aload_n 0, 1) := by decide +kernel
theorem dL_law_154 : decode cL_law 154 = .ok (.iload_n 3, 1) := by decide +kernel
theorem dL_law_155 : decode cL_law 155 = .ok (.iconst 1, 1) := by decide +kernel
theorem dL_law_156 : decode cL_law 156 = .ok (.iadd, 1) := by decide +kernel
theorem dL_law_157 : decode cL_law 157 = .ok (.iaload, 1) := by decide +kernel
theorem dL_law_158 : decode cL_law 158 = .ok (.invokevirtual 13, 3) := by decide +kernel
theorem dL_law_161 : decode cL_law 161 = .ok (.aload_n 2, 1) := by decide +kernel
theorem dL_law_162 : decode cL_law 162 = .ok (.aload_n 0, 1) := by decide +kernel
theorem dL_law_163 : decode cL_law 163 = .ok (.iload_n 3, 1) := by decide +kernel
theorem dL_law_164 : decode cL_law 164 = .ok (.iconst 1, 1) := by decide +kernel
theorem dL_law_165 : decode cL_law 165 = .ok (.iadd, 1) := by decide +kernel
theorem dL_law_166 : decode cL_law 166 = .ok (.iaload, 1) := by decide +kernel
theorem dL_law_167 : decode cL_law 167 = .ok (.invokevirtual 17, 3) := by decide +kernel
theorem dL_law_170 : decode cL_law 170 = .ok (.if_icmp .eq 740, 3) := by decide +kernel
theorem dL_law_173 : decode cL_law 173 = .ok (.iconst 0, 1) := by decide +kernel
theorem dL_law_174 : decode cL_law 174 = .ok (.ireturn, 1) := by decide +kernel
theorem dL_law_175 : decode cL_law 175 = .ok (.aload_n 1, 1) := by decide +kernel
theorem dL_law_176 : decode cL_law 176 = .ok (.aload_n 0, 1) := by decide +kernel
theorem dL_law_177 : decode cL_law 177 = .ok (.iload_n 3, 1) := by decide +kernel
theorem dL_law_178 : decode cL_law 178 = .ok (.iconst 1, 1) := by decide +kernel
theorem dL_law_179 : decode cL_law 179 = .ok (.iadd, 1) := by decide +kernel
theorem dL_law_180 : decode cL_law 180 = .ok (.iaload, 1) := by decide +kernel
theorem dL_law_181 : decode cL_law 181 = .ok (.aload_n 0, 1) := by decide +kernel
theorem dL_law_182 : decode cL_law 182 = .ok (.iload_n 3, 1) := by decide +kernel
theorem dL_law_183 : decode cL_law 183 = .ok (.iconst 2, 1) := by decide +kernel
theorem dL_law_184 : decode cL_law 184 = .ok (.iadd, 1) := by decide +kernel
theorem dL_law_185 : decode cL_law 185 = .ok (.iaload, 1) := by decide +kernel
theorem dL_law_186 : decode cL_law 186 = .ok (.aload_n 0, 1) := by decide +kernel
theorem dL_law_187 : decode cL_law 187 = .ok (.iload_n 3, 1) := by decide +kernel
theorem dL_law_188 : decode cL_law 188 = .ok (.iconst 3, 1) := by decide +kernel
theorem dL_law_189 : decode cL_law 189 = .ok (.iadd, 1) := by decide +kernel
theorem dL_law_190 : decode cL_law 190 = .ok (.iaload, 1) := by decide +kernel
theorem dL_law_191 : decode cL_law 191 = .ok (.aload_n 0, 1) := by decide +kernel
theorem dL_law_192 : decode cL_law 192 = .ok (.iload_n 3, 1) := by decide +kernel
theorem dL_law_193 : decode cL_law 193 = .ok (.iconst 4, 1) := by decide +kernel
theorem dL_law_194 : decode cL_law 194 = .ok (.iadd, 1) := by decide +kernel
theorem dL_law_195 : decode cL_law 195 = .ok (.iaload, 1) := by decide +kernel
theorem dL_law_196 : decode cL_law 196 = .ok (.aload_n 0, 1) := by decide +kernel
theorem dL_law_197 : decode cL_law 197 = .ok (.iload_n 3, 1) := by decide +kernel
theorem dL_law_198 : decode cL_law 198 = .ok (.iconst 5, 1) := by decide +kernel
theorem dL_law_199 : decode cL_law 199 = .ok (.iadd, 1) := by decide +kernel
theorem dL_law_200 : decode cL_law 200 = .ok (.iaload, 1) := by decide +kernel
theorem dL_law_201 : decode cL_law 201 = .ok (.invokevirtual 18, 3) := by decide +kernel
theorem dL_law_204 : decode cL_law 204 = .ok (.aload_n 2, 1) := by decide +kernel
theorem dL_law_205 : decode cL_law 205 = .ok (.aload_n 0, 1) := by decide +kernel
theorem dL_law_206 : decode cL_law 206 = .ok (.iload_n 3, 1) := by decide +kernel
theorem dL_law_207 : decode cL_law 207 = .ok (.iconst 1, 1) := by decide +kernel
theorem dL_law_208 : decode cL_law 208 = .ok (.iadd, 1) := by decide +kernel
theorem dL_law_209 : decode cL_law 209 = .ok (.iaload, 1) := by decide +kernel
theorem dL_law_210 : decode cL_law 210 = .ok (.aload_n 0, 1) := by decide +kernel
theorem dL_law_211 : decode cL_law 211 = .ok (.iload_n 3, 1) := by decide +kernel
theorem dL_law_212 : decode cL_law 212 = .ok (.iconst 2, 1) := by decide +kernel
theorem dL_law_213 : decode cL_law 213 = .ok (.iadd, 1) := by decide +kernel
theorem dL_law_214 : decode cL_law 214 = .ok (.iaload, 1) := by decide +kernel
theorem dL_law_215 : decode cL_law 215 = .ok (.aload_n 0, 1) := by decide +kernel
theorem dL_law_216 : decode cL_law 216 = .ok (.iload_n 3, 1) := by decide +kernel
theorem dL_law_217 : decode cL_law 217 = .ok (.iconst 3, 1) := by decide +kernel
theorem dL_law_218 : decode cL_law 218 = .ok (.iadd, 1) := by decide +kernel
theorem dL_law_219 : decode cL_law 219 = .ok (.iaload, 1) := by decide +kernel
theorem dL_law_220 : decode cL_law 220 = .ok (.aload_n 0, 1) := by decide +kernel
theorem dL_law_221 : decode cL_law 221 = .ok (.iload_n 3, 1) := by decide +kernel
theorem dL_law_222 : decode cL_law 222 = .ok (.iconst 4, 1) := by decide +kernel
theorem dL_law_223 : decode cL_law 223 = .ok (.iadd, 1) := by decide +kernel
theorem dL_law_224 : decode cL_law 224 = .ok (.iaload, 1) := by decide +kernel
theorem dL_law_225 : decode cL_law 225 = .ok (.aload_n 0, 1) := by decide +kernel
theorem dL_law_226 : decode cL_law 226 = .ok (.iload_n 3, 1) := by decide +kernel
theorem dL_law_227 : decode cL_law 227 = .ok (.iconst 5, 1) := by decide +kernel
theorem dL_law_228 : decode cL_law 228 = .ok (.iadd, 1) := by decide +kernel
theorem dL_law_229 : decode cL_law 229 = .ok (.iaload, 1) := by decide +kernel
theorem dL_law_230 : decode cL_law 230 = .ok (.invokevirtual 22, 3) := by decide +kernel
theorem dL_law_233 : decode cL_law 233 = .ok (.if_icmp .eq 677, 3) := by decide +kernel
theorem dL_law_236 : decode cL_law 236 = .ok (.iconst 0, 1) := by decide +kernel
theorem dL_law_237 : decode cL_law 237 = .ok (.ireturn, 1) := by decide +kernel
theorem dL_law_238 : decode cL_law 238 = .ok (.aload_n 1, 1) := by decide +kernel
theorem dL_law_239 : decode cL_law 239 = .ok (.aload_n 0, 1) := by decide +kernel
theorem dL_law_240 : decode cL_law 240 = .ok (.iload_n 3, 1) := by decide +kernel
theorem dL_law_241 : decode cL_law 241 = .ok (.iconst 1, 1) := by decide +kernel
theorem dL_law_242 : decode cL_law 242 = .ok (.iadd, 1) := by decide +kernel
theorem dL_law_243 : decode cL_law 243 = .ok (.iaload, 1) := by decide +kernel
theorem dL_law_244 : decode cL_law 244 = .ok (.aload_n 0, 1) := by decide +kernel
theorem dL_law_245 : decode cL_law 245 = .ok (.iload_n 3, 1) := by decide +kernel
theorem dL_law_246 : decode cL_law 246 = .ok (.iconst 2, 1) := by decide +kernel
theorem dL_law_247 : decode cL_law 247 = .ok (.iadd, 1) := by decide +kernel
theorem dL_law_248 : decode cL_law 248 = .ok (.iaload, 1) := by decide +kernel
theorem dL_law_249 : decode cL_law 249 = .ok (.invokevirtual 23, 3) := by decide +kernel
theorem dL_law_252 : decode cL_law 252 = .ok (.aload_n 2, 1) := by decide +kernel
theorem dL_law_253 : decode cL_law 253 = .ok (.aload_n 0, 1) := by decide +kernel
theorem dL_law_254 : decode cL_law 254 = .ok (.iload_n 3, 1) := by decide +kernel
theorem dL_law_255 : decode cL_law 255 = .ok (.iconst 1, 1) := by decide +kernel
theorem dL_law_256 : decode cL_law 256 = .ok (.iadd, 1) := by decide +kernel
theorem dL_law_257 : decode cL_law 257 = .ok (.iaload, 1) := by decide +kernel
theorem dL_law_258 : decode cL_law 258 = .ok (.aload_n 0, 1) := by decide +kernel
theorem dL_law_259 : decode cL_law 259 = .ok (.iload_n 3, 1) := by decide +kernel
theorem dL_law_260 : decode cL_law 260 = .ok (.iconst 2, 1) := by decide +kernel
theorem dL_law_261 : decode cL_law 261 = .ok (.iadd, 1) := by decide +kernel
theorem dL_law_262 : decode cL_law 262 = .ok (.iaload, 1) := by decide +kernel
theorem dL_law_263 : decode cL_law 263 = .ok (.invokevirtual 27, 3) := by decide +kernel
theorem dL_law_266 : decode cL_law 266 = .ok (.if_icmp .eq 644, 3) := by decide +kernel
theorem dL_law_269 : decode cL_law 269 = .ok (.iconst 0, 1) := by decide +kernel
theorem dL_law_270 : decode cL_law 270 = .ok (.ireturn, 1) := by decide +kernel
theorem dL_law_271 : decode cL_law 271 = .ok (.aload_n 1, 1) := by decide +kernel
theorem dL_law_272 : decode cL_law 272 = .ok (.aload_n 0, 1) := by decide +kernel
theorem dL_law_273 : decode cL_law 273 = .ok (.iload_n 3, 1) := by decide +kernel
theorem dL_law_274 : decode cL_law 274 = .ok (.iconst 1, 1) := by decide +kernel
theorem dL_law_275 : decode cL_law 275 = .ok (.iadd, 1) := by decide +kernel
theorem dL_law_276 : decode cL_law 276 = .ok (.iaload, 1) := by decide +kernel
theorem dL_law_277 : decode cL_law 277 = .ok (.aload_n 0, 1) := by decide +kernel
theorem dL_law_278 : decode cL_law 278 = .ok (.iload_n 3, 1) := by decide +kernel
theorem dL_law_279 : decode cL_law 279 = .ok (.iconst 2, 1) := by decide +kernel
theorem dL_law_280 : decode cL_law 280 = .ok (.iadd, 1) := by decide +kernel
theorem dL_law_281 : decode cL_law 281 = .ok (.iaload, 1) := by decide +kernel
theorem dL_law_282 : decode cL_law 282 = .ok (.invokevirtual 28, 3) := by decide +kernel
theorem dL_law_285 : decode cL_law 285 = .ok (.aload_n 2, 1) := by decide +kernel
theorem dL_law_286 : decode cL_law 286 = .ok (.aload_n 0, 1) := by decide +kernel
theorem dL_law_287 : decode cL_law 287 = .ok (.iload_n 3, 1) := by decide +kernel
theorem dL_law_288 : decode cL_law 288 = .ok (.iconst 1, 1) := by decide +kernel
theorem dL_law_289 : decode cL_law 289 = .ok (.iadd, 1) := by decide +kernel
theorem dL_law_290 : decode cL_law 290 = .ok (.iaload, 1) := by decide +kernel
theorem dL_law_291 : decode cL_law 291 = .ok (.aload_n 0, 1) := by decide +kernel
theorem dL_law_292 : decode cL_law 292 = .ok (.iload_n 3, 1) := by decide +kernel
theorem dL_law_293 : decode cL_law 293 = .ok (.iconst 2, 1) := by decide +kernel
theorem dL_law_294 : decode cL_law 294 = .ok (.iadd, 1) := by decide +kernel
theorem dL_law_295 : decode cL_law 295 = .ok (.iaload, 1) := by decide +kernel
theorem dL_law_296 : decode cL_law 296 = .ok (.invokevirtual 31, 3) := by decide +kernel
theorem dL_law_299 : decode cL_law 299 = .ok (.if_icmp .eq 611, 3) := by decide +kernel
theorem dL_law_302 : decode cL_law 302 = .ok (.iconst 0, 1) := by decide +kernel
theorem dL_law_303 : decode cL_law 303 = .ok (.ireturn, 1) := by decide +kernel
theorem dL_law_304 : decode cL_law 304 = .ok (.aload_n 1, 1) := by decide +kernel
theorem dL_law_305 : decode cL_law 305 = .ok (.aload_n 0, 1) := by decide +kernel
theorem dL_law_306 : decode cL_law 306 = .ok (.iload_n 3, 1) := by decide +kernel
theorem dL_law_307 : decode cL_law 307 = .ok (.iconst 1, 1) := by decide +kernel
theorem dL_law_308 : decode cL_law 308 = .ok (.iadd, 1) := by decide +kernel
theorem dL_law_309 : decode cL_law 309 = .ok (.iaload, 1) := by decide +kernel
theorem dL_law_310 : decode cL_law 310 = .ok (.aload_n 0, 1) := by decide +kernel
theorem dL_law_311 : decode cL_law 311 = .ok (.iload_n 3, 1) := by decide +kernel
theorem dL_law_312 : decode cL_law 312 = .ok (.iconst 2, 1) := by decide +kernel
theorem dL_law_313 : decode cL_law 313 = .ok (.iadd, 1) := by decide +kernel
theorem dL_law_314 : decode cL_law 314 = .ok (.iaload, 1) := by decide +kernel
theorem dL_law_315 : decode cL_law 315 = .ok (.aload_n 0, 1) := by decide +kernel
theorem dL_law_316 : decode cL_law 316 = .ok (.iload_n 3, 1) := by decide +kernel
theorem dL_law_317 : decode cL_law 317 = .ok (.iconst 3, 1) := by decide +kernel
theorem dL_law_318 : decode cL_law 318 = .ok (.iadd, 1) := by decide +kernel
theorem dL_law_319 : decode cL_law 319 = .ok (.iaload, 1) := by decide +kernel
theorem dL_law_320 : decode cL_law 320 = .ok (.invokevirtual 32, 3) := by decide +kernel
theorem dL_law_323 : decode cL_law 323 = .ok (.aload_n 2, 1) := by decide +kernel
theorem dL_law_324 : decode cL_law 324 = .ok (.aload_n 0, 1) := by decide +kernel
theorem dL_law_325 : decode cL_law 325 = .ok (.iload_n 3, 1) := by decide +kernel
theorem dL_law_326 : decode cL_law 326 = .ok (.iconst 1, 1) := by decide +kernel
theorem dL_law_327 : decode cL_law 327 = .ok (.iadd, 1) := by decide +kernel
theorem dL_law_328 : decode cL_law 328 = .ok (.iaload, 1) := by decide +kernel
theorem dL_law_329 : decode cL_law 329 = .ok (.aload_n 0, 1) := by decide +kernel
theorem dL_law_330 : decode cL_law 330 = .ok (.iload_n 3, 1) := by decide +kernel
theorem dL_law_331 : decode cL_law 331 = .ok (.iconst 2, 1) := by decide +kernel
theorem dL_law_332 : decode cL_law 332 = .ok (.iadd, 1) := by decide +kernel
theorem dL_law_333 : decode cL_law 333 = .ok (.iaload, 1) := by decide +kernel
theorem dL_law_334 : decode cL_law 334 = .ok (.aload_n 0, 1) := by decide +kernel
theorem dL_law_335 : decode cL_law 335 = .ok (.iload_n 3, 1) := by decide +kernel
theorem dL_law_336 : decode cL_law 336 = .ok (.iconst 3, 1) := by decide +kernel
theorem dL_law_337 : decode cL_law 337 = .ok (.iadd, 1) := by decide +kernel
theorem dL_law_338 : decode cL_law 338 = .ok (.iaload, 1) := by decide +kernel
theorem dL_law_339 : decode cL_law 339 = .ok (.invokevirtual 36, 3) := by decide +kernel
theorem dL_law_342 : decode cL_law 342 = .ok (.if_icmp .eq 568, 3) := by decide +kernel
theorem dL_law_345 : decode cL_law 345 = .ok (.iconst 0, 1) := by decide +kernel
theorem dL_law_346 : decode cL_law 346 = .ok (.ireturn, 1) := by decide +kernel
theorem dL_law_347 : decode cL_law 347 = .ok (.aload_n 1, 1) := by decide +kernel
theorem dL_law_348 : decode cL_law 348 = .ok (.aload_n 0, 1) := by decide +kernel
theorem dL_law_349 : decode cL_law 349 = .ok (.iload_n 3, 1) := by decide +kernel
theorem dL_law_350 : decode cL_law 350 = .ok (.iconst 1, 1) := by decide +kernel
theorem dL_law_351 : decode cL_law 351 = .ok (.iadd, 1) := by decide +kernel
theorem dL_law_352 : decode cL_law 352 = .ok (.iaload, 1) := by decide +kernel
theorem dL_law_353 : decode cL_law 353 = .ok (.aload_n 0, 1) := by decide +kernel
theorem dL_law_354 : decode cL_law 354 = .ok (.iload_n 3, 1) := by decide +kernel
theorem dL_law_355 : decode cL_law 355 = .ok (.iconst 2, 1) := by decide +kernel
theorem dL_law_356 : decode cL_law 356 = .ok (.iadd, 1) := by decide +kernel
theorem dL_law_357 : decode cL_law 357 = .ok (.iaload, 1) := by decide +kernel
theorem dL_law_358 : decode cL_law 358 = .ok (.aload_n 0, 1) := by decide +kernel
theorem dL_law_359 : decode cL_law 359 = .ok (.iload_n 3, 1) := by decide +kernel
theorem dL_law_360 : decode cL_law 360 = .ok (.iconst 3, 1) := by decide +kernel
theorem dL_law_361 : decode cL_law 361 = .ok (.iadd, 1) := by decide +kernel
theorem dL_law_362 : decode cL_law 362 = .ok (.iaload, 1) := by decide +kernel
theorem dL_law_363 : decode cL_law 363 = .ok (.invokevirtual 37, 3) := by decide +kernel
theorem dL_law_366 : decode cL_law 366 = .ok (.aload_n 2, 1) := by decide +kernel
theorem dL_law_367 : decode cL_law 367 = .ok (.aload_n 0, 1) := by decide +kernel
theorem dL_law_368 : decode cL_law 368 = .ok (.iload_n 3, 1) := by decide +kernel
theorem dL_law_369 : decode cL_law 369 = .ok (.iconst 1, 1) := by decide +kernel
theorem dL_law_370 : decode cL_law 370 = .ok (.iadd, 1) := by decide +kernel
theorem dL_law_371 : decode cL_law 371 = .ok (.iaload, 1) := by decide +kernel
theorem dL_law_372 : decode cL_law 372 = .ok (.aload_n 0, 1) := by decide +kernel
theorem dL_law_373 : decode cL_law 373 = .ok (.iload_n 3, 1) := by decide +kernel
theorem dL_law_374 : decode cL_law 374 = .ok (.iconst 2, 1) := by decide +kernel
theorem dL_law_375 : decode cL_law 375 = .ok (.iadd, 1) := by decide +kernel
theorem dL_law_376 : decode cL_law 376 = .ok (.iaload, 1) := by decide +kernel
theorem dL_law_377 : decode cL_law 377 = .ok (.aload_n 0, 1) := by decide +kernel
theorem dL_law_378 : decode cL_law 378 = .ok (.iload_n 3, 1) := by decide +kernel
theorem dL_law_379 : decode cL_law 379 = .ok (.iconst 3, 1) := by decide +kernel
theorem dL_law_380 : decode cL_law 380 = .ok (.iadd, 1) := by decide +kernel
theorem dL_law_381 : decode cL_law 381 = .ok (.iaload, 1) := by decide +kernel
theorem dL_law_382 : decode cL_law 382 = .ok (.invokevirtual 40, 3) := by decide +kernel
theorem dL_law_385 : decode cL_law 385 = .ok (.if_icmp .eq 525, 3) := by decide +kernel
theorem dL_law_388 : decode cL_law 388 = .ok (.iconst 0, 1) := by decide +kernel
theorem dL_law_389 : decode cL_law 389 = .ok (.ireturn, 1) := by decide +kernel
theorem dL_law_390 : decode cL_law 390 = .ok (.aload_n 1, 1) := by decide +kernel
theorem dL_law_391 : decode cL_law 391 = .ok (.aload_n 0, 1) := by decide +kernel
theorem dL_law_392 : decode cL_law 392 = .ok (.iload_n 3, 1) := by decide +kernel
theorem dL_law_393 : decode cL_law 393 = .ok (.iconst 1, 1) := by decide +kernel
theorem dL_law_394 : decode cL_law 394 = .ok (.iadd, 1) := by decide +kernel
theorem dL_law_395 : decode cL_law 395 = .ok (.iaload, 1) := by decide +kernel
theorem dL_law_396 : decode cL_law 396 = .ok (.aload_n 0, 1) := by decide +kernel
theorem dL_law_397 : decode cL_law 397 = .ok (.iload_n 3, 1) := by decide +kernel
theorem dL_law_398 : decode cL_law 398 = .ok (.iconst 2, 1) := by decide +kernel
theorem dL_law_399 : decode cL_law 399 = .ok (.iadd, 1) := by decide +kernel
theorem dL_law_400 : decode cL_law 400 = .ok (.iaload, 1) := by decide +kernel
theorem dL_law_401 : decode cL_law 401 = .ok (.aload_n 0, 1) := by decide +kernel
theorem dL_law_402 : decode cL_law 402 = .ok (.iload_n 3, 1) := by decide +kernel
theorem dL_law_403 : decode cL_law 403 = .ok (.iconst 3, 1) := by decide +kernel
theorem dL_law_404 : decode cL_law 404 = .ok (.iadd, 1) := by decide +kernel
theorem dL_law_405 : decode cL_law 405 = .ok (.iaload, 1) := by decide +kernel
theorem dL_law_406 : decode cL_law 406 = .ok (.invokevirtual 41, 3) := by decide +kernel
theorem dL_law_409 : decode cL_law 409 = .ok (.aload_n 2, 1) := by decide +kernel
theorem dL_law_410 : decode cL_law 410 = .ok (.aload_n 0, 1) := by decide +kernel
theorem dL_law_411 : decode cL_law 411 = .ok (.iload_n 3, 1) := by decide +kernel
theorem dL_law_412 : decode cL_law 412 = .ok (.iconst 1, 1) := by decide +kernel
theorem dL_law_413 : decode cL_law 413 = .ok (.iadd, 1) := by decide +kernel
theorem dL_law_414 : decode cL_law 414 = .ok (.iaload, 1) := by decide +kernel
theorem dL_law_415 : decode cL_law 415 = .ok (.aload_n 0, 1) := by decide +kernel
theorem dL_law_416 : decode cL_law 416 = .ok (.iload_n 3, 1) := by decide +kernel
theorem dL_law_417 : decode cL_law 417 = .ok (.iconst 2, 1) := by decide +kernel
theorem dL_law_418 : decode cL_law 418 = .ok (.iadd, 1) := by decide +kernel
theorem dL_law_419 : decode cL_law 419 = .ok (.iaload, 1) := by decide +kernel
theorem dL_law_420 : decode cL_law 420 = .ok (.aload_n 0, 1) := by decide +kernel
theorem dL_law_421 : decode cL_law 421 = .ok (.iload_n 3, 1) := by decide +kernel
theorem dL_law_422 : decode cL_law 422 = .ok (.iconst 3, 1) := by decide +kernel
theorem dL_law_423 : decode cL_law 423 = .ok (.iadd, 1) := by decide +kernel
theorem dL_law_424 : decode cL_law 424 = .ok (.iaload, 1) := by decide +kernel
theorem dL_law_425 : decode cL_law 425 = .ok (.invokevirtual 44, 3) := by decide +kernel
theorem dL_law_428 : decode cL_law 428 = .ok (.if_icmp .eq 482, 3) := by decide +kernel
theorem dL_law_431 : decode cL_law 431 = .ok (.iconst 0, 1) := by decide +kernel
theorem dL_law_432 : decode cL_law 432 = .ok (.ireturn, 1) := by decide +kernel
theorem dL_law_433 : decode cL_law 433 = .ok (.aload_n 1, 1) := by decide +kernel
theorem dL_law_434 : decode cL_law 434 = .ok (.aload_n 0, 1) := by decide +kernel
theorem dL_law_435 : decode cL_law 435 = .ok (.iload_n 3, 1) := by decide +kernel
theorem dL_law_436 : decode cL_law 436 = .ok (.iconst 1, 1) := by decide +kernel
theorem dL_law_437 : decode cL_law 437 = .ok (.iadd, 1) := by decide +kernel
theorem dL_law_438 : decode cL_law 438 = .ok (.iaload, 1) := by decide +kernel
theorem dL_law_439 : decode cL_law 439 = .ok (.aload_n 0, 1) := by decide +kernel
theorem dL_law_440 : decode cL_law 440 = .ok (.iload_n 3, 1) := by decide +kernel
theorem dL_law_441 : decode cL_law 441 = .ok (.iconst 2, 1) := by decide +kernel
theorem dL_law_442 : decode cL_law 442 = .ok (.iadd, 1) := by decide +kernel
theorem dL_law_443 : decode cL_law 443 = .ok (.iaload, 1) := by decide +kernel
theorem dL_law_444 : decode cL_law 444 = .ok (.invokevirtual 45, 3) := by decide +kernel
theorem dL_law_447 : decode cL_law 447 = .ok (.aload_n 2, 1) := by decide +kernel
theorem dL_law_448 : decode cL_law 448 = .ok (.aload_n 0, 1) := by decide +kernel
theorem dL_law_449 : decode cL_law 449 = .ok (.iload_n 3, 1) := by decide +kernel
theorem dL_law_450 : decode cL_law 450 = .ok (.iconst 1, 1) := by decide +kernel
theorem dL_law_451 : decode cL_law 451 = .ok (.iadd, 1) := by decide +kernel
theorem dL_law_452 : decode cL_law 452 = .ok (.iaload, 1) := by decide +kernel
theorem dL_law_453 : decode cL_law 453 = .ok (.aload_n 0, 1) := by decide +kernel
theorem dL_law_454 : decode cL_law 454 = .ok (.iload_n 3, 1) := by decide +kernel
theorem dL_law_455 : decode cL_law 455 = .ok (.iconst 2, 1) := by decide +kernel
theorem dL_law_456 : decode cL_law 456 = .ok (.iadd, 1) := by decide +kernel
theorem dL_law_457 : decode cL_law 457 = .ok (.iaload, 1) := by decide +kernel
theorem dL_law_458 : decode cL_law 458 = .ok (.invokevirtual 48, 3) := by decide +kernel
theorem dL_law_461 : decode cL_law 461 = .ok (.if_icmp .eq 449, 3) := by decide +kernel
theorem dL_law_464 : decode cL_law 464 = .ok (.iconst 0, 1) := by decide +kernel
theorem dL_law_465 : decode cL_law 465 = .ok (.ireturn, 1) := by decide +kernel
theorem dL_law_466 : decode cL_law 466 = .ok (.aload_n 1, 1) := by decide +kernel
theorem dL_law_467 : decode cL_law 467 = .ok (.aload_n 0, 1) := by decide +kernel
theorem dL_law_468 : decode cL_law 468 = .ok (.iload_n 3, 1) := by decide +kernel
theorem dL_law_469 : decode cL_law 469 = .ok (.iconst 1, 1) := by decide +kernel
theorem dL_law_470 : decode cL_law 470 = .ok (.iadd, 1) := by decide +kernel
theorem dL_law_471 : decode cL_law 471 = .ok (.iaload, 1) := by decide +kernel
theorem dL_law_472 : decode cL_law 472 = .ok (.invokevirtual 49, 3) := by decide +kernel
theorem dL_law_475 : decode cL_law 475 = .ok (.aload_n 2, 1) := by decide +kernel
theorem dL_law_476 : decode cL_law 476 = .ok (.aload_n 0, 1) := by decide +kernel
theorem dL_law_477 : decode cL_law 477 = .ok (.iload_n 3, 1) := by decide +kernel
theorem dL_law_478 : decode cL_law 478 = .ok (.iconst 1, 1) := by decide +kernel
theorem dL_law_479 : decode cL_law 479 = .ok (.iadd, 1) := by decide +kernel
theorem dL_law_480 : decode cL_law 480 = .ok (.iaload, 1) := by decide +kernel
theorem dL_law_481 : decode cL_law 481 = .ok (.invokevirtual 52, 3) := by decide +kernel
theorem dL_law_484 : decode cL_law 484 = .ok (.if_icmp .eq 426, 3) := by decide +kernel
theorem dL_law_487 : decode cL_law 487 = .ok (.iconst 0, 1) := by decide +kernel
theorem dL_law_488 : decode cL_law 488 = .ok (.ireturn, 1) := by decide +kernel
theorem dL_law_489 : decode cL_law 489 = .ok (.aload_n 1, 1) := by decide +kernel
theorem dL_law_490 : decode cL_law 490 = .ok (.aload_n 0, 1) := by decide +kernel
theorem dL_law_491 : decode cL_law 491 = .ok (.iload_n 3, 1) := by decide +kernel
theorem dL_law_492 : decode cL_law 492 = .ok (.iconst 1, 1) := by decide +kernel
theorem dL_law_493 : decode cL_law 493 = .ok (.iadd, 1) := by decide +kernel
theorem dL_law_494 : decode cL_law 494 = .ok (.iaload, 1) := by decide +kernel
theorem dL_law_495 : decode cL_law 495 = .ok (.invokevirtual 53, 3) := by decide +kernel
theorem dL_law_498 : decode cL_law 498 = .ok (.aload_n 2, 1) := by decide +kernel
theorem dL_law_499 : decode cL_law 499 = .ok (.aload_n 0, 1) := by decide +kernel
theorem dL_law_500 : decode cL_law 500 = .ok (.iload_n 3, 1) := by decide +kernel
theorem dL_law_501 : decode cL_law 501 = .ok (.iconst 1, 1) := by decide +kernel
theorem dL_law_502 : decode cL_law 502 = .ok (.iadd, 1) := by decide +kernel
theorem dL_law_503 : decode cL_law 503 = .ok (.iaload, 1) := by decide +kernel
theorem dL_law_504 : decode cL_law 504 = .ok (.invokevirtual 56, 3) := by decide +kernel
theorem dL_law_507 : decode cL_law 507 = .ok (.if_icmp .eq 403, 3) := by decide +kernel
theorem dL_law_510 : decode cL_law 510 = .ok (.iconst 0, 1) := by decide +kernel
theorem dL_law_511 : decode cL_law 511 = .ok (.ireturn, 1) := by decide +kernel
theorem dL_law_512 : decode cL_law 512 = .ok (.aload_n 1, 1) := by decide +kernel
theorem dL_law_513 : decode cL_law 513 = .ok (.aload_n 0, 1) := by decide +kernel
theorem dL_law_514 : decode cL_law 514 = .ok (.iload_n 3, 1) := by decide +kernel
theorem dL_law_515 : decode cL_law 515 = .ok (.iconst 1, 1) := by decide +kernel
theorem dL_law_516 : decode cL_law 516 = .ok (.iadd, 1) := by decide +kernel
theorem dL_law_517 : decode cL_law 517 = .ok (.iaload, 1) := by decide +kernel
theorem dL_law_518 : decode cL_law 518 = .ok (.aload_n 0, 1) := by decide +kernel
theorem dL_law_519 : decode cL_law 519 = .ok (.iload_n 3, 1) := by decide +kernel
theorem dL_law_520 : decode cL_law 520 = .ok (.iconst 2, 1) := by decide +kernel
theorem dL_law_521 : decode cL_law 521 = .ok (.iadd, 1) := by decide +kernel
theorem dL_law_522 : decode cL_law 522 = .ok (.iaload, 1) := by decide +kernel
theorem dL_law_523 : decode cL_law 523 = .ok (.invokevirtual 57, 3) := by decide +kernel
theorem dL_law_526 : decode cL_law 526 = .ok (.aload_n 2, 1) := by decide +kernel
theorem dL_law_527 : decode cL_law 527 = .ok (.aload_n 0, 1) := by decide +kernel
theorem dL_law_528 : decode cL_law 528 = .ok (.iload_n 3, 1) := by decide +kernel
theorem dL_law_529 : decode cL_law 529 = .ok (.iconst 1, 1) := by decide +kernel
theorem dL_law_530 : decode cL_law 530 = .ok (.iadd, 1) := by decide +kernel
theorem dL_law_531 : decode cL_law 531 = .ok (.iaload, 1) := by decide +kernel
theorem dL_law_532 : decode cL_law 532 = .ok (.aload_n 0, 1) := by decide +kernel
theorem dL_law_533 : decode cL_law 533 = .ok (.iload_n 3, 1) := by decide +kernel
theorem dL_law_534 : decode cL_law 534 = .ok (.iconst 2, 1) := by decide +kernel
theorem dL_law_535 : decode cL_law 535 = .ok (.iadd, 1) := by decide +kernel
theorem dL_law_536 : decode cL_law 536 = .ok (.iaload, 1) := by decide +kernel
theorem dL_law_537 : decode cL_law 537 = .ok (.invokevirtual 60, 3) := by decide +kernel
theorem dL_law_540 : decode cL_law 540 = .ok (.if_icmp .eq 370, 3) := by decide +kernel
theorem dL_law_543 : decode cL_law 543 = .ok (.iconst 0, 1) := by decide +kernel
theorem dL_law_544 : decode cL_law 544 = .ok (.ireturn, 1) := by decide +kernel
theorem dL_law_545 : decode cL_law 545 = .ok (.aload_n 1, 1) := by decide +kernel
theorem dL_law_546 : decode cL_law 546 = .ok (.aload_n 0, 1) := by decide +kernel
theorem dL_law_547 : decode cL_law 547 = .ok (.iload_n 3, 1) := by decide +kernel
theorem dL_law_548 : decode cL_law 548 = .ok (.iconst 1, 1) := by decide +kernel
theorem dL_law_549 : decode cL_law 549 = .ok (.iadd, 1) := by decide +kernel
theorem dL_law_550 : decode cL_law 550 = .ok (.iaload, 1) := by decide +kernel
theorem dL_law_551 : decode cL_law 551 = .ok (.invokevirtual 61, 3) := by decide +kernel
theorem dL_law_554 : decode cL_law 554 = .ok (.aload_n 2, 1) := by decide +kernel
theorem dL_law_555 : decode cL_law 555 = .ok (.aload_n 0, 1) := by decide +kernel
theorem dL_law_556 : decode cL_law 556 = .ok (.iload_n 3, 1) := by decide +kernel
theorem dL_law_557 : decode cL_law 557 = .ok (.iconst 1, 1) := by decide +kernel
theorem dL_law_558 : decode cL_law 558 = .ok (.iadd, 1) := by decide +kernel
theorem dL_law_559 : decode cL_law 559 = .ok (.iaload, 1) := by decide +kernel
theorem dL_law_560 : decode cL_law 560 = .ok (.invokevirtual 64, 3) := by decide +kernel
theorem dL_law_563 : decode cL_law 563 = .ok (.if_icmp .eq 347, 3) := by decide +kernel
theorem dL_law_566 : decode cL_law 566 = .ok (.iconst 0, 1) := by decide +kernel
theorem dL_law_567 : decode cL_law 567 = .ok (.ireturn, 1) := by decide +kernel
theorem dL_law_568 : decode cL_law 568 = .ok (.aload_n 1, 1) := by decide +kernel
theorem dL_law_569 : decode cL_law 569 = .ok (.aload_n 0, 1) := by decide +kernel
theorem dL_law_570 : decode cL_law 570 = .ok (.iload_n 3, 1) := by decide +kernel
theorem dL_law_571 : decode cL_law 571 = .ok (.iconst 1, 1) := by decide +kernel
theorem dL_law_572 : decode cL_law 572 = .ok (.iadd, 1) := by decide +kernel
theorem dL_law_573 : decode cL_law 573 = .ok (.iaload, 1) := by decide +kernel
theorem dL_law_574 : decode cL_law 574 = .ok (.aload_n 0, 1) := by decide +kernel
theorem dL_law_575 : decode cL_law 575 = .ok (.iload_n 3, 1) := by decide +kernel
theorem dL_law_576 : decode cL_law 576 = .ok (.iconst 2, 1) := by decide +kernel
theorem dL_law_577 : decode cL_law 577 = .ok (.iadd, 1) := by decide +kernel
theorem dL_law_578 : decode cL_law 578 = .ok (.iaload, 1) := by decide +kernel
theorem dL_law_579 : decode cL_law 579 = .ok (.invokevirtual 65, 3) := by decide +kernel
theorem dL_law_582 : decode cL_law 582 = .ok (.aload_n 2, 1) := by decide +kernel
theorem dL_law_583 : decode cL_law 583 = .ok (.aload_n 0, 1) := by decide +kernel
theorem dL_law_584 : decode cL_law 584 = .ok (.iload_n 3, 1) := by decide +kernel
theorem dL_law_585 : decode cL_law 585 = .ok (.iconst 1, 1) := by decide +kernel
theorem dL_law_586 : decode cL_law 586 = .ok (.iadd, 1) := by decide +kernel
theorem dL_law_587 : decode cL_law 587 = .ok (.iaload, 1) := by decide +kernel
theorem dL_law_588 : decode cL_law 588 = .ok (.aload_n 0, 1) := by decide +kernel
theorem dL_law_589 : decode cL_law 589 = .ok (.iload_n 3, 1) := by decide +kernel
theorem dL_law_590 : decode cL_law 590 = .ok (.iconst 2, 1) := by decide +kernel
theorem dL_law_591 : decode cL_law 591 = .ok (.iadd, 1) := by decide +kernel
theorem dL_law_592 : decode cL_law 592 = .ok (.iaload, 1) := by decide +kernel
theorem dL_law_593 : decode cL_law 593 = .ok (.invokevirtual 68, 3) := by decide +kernel
theorem dL_law_596 : decode cL_law 596 = .ok (.if_icmp .eq 314, 3) := by decide +kernel
theorem dL_law_599 : decode cL_law 599 = .ok (.iconst 0, 1) := by decide +kernel
theorem dL_law_600 : decode cL_law 600 = .ok (.ireturn, 1) := by decide +kernel
theorem dL_law_601 : decode cL_law 601 = .ok (.aload_n 1, 1) := by decide +kernel
theorem dL_law_602 : decode cL_law 602 = .ok (.aload_n 0, 1) := by decide +kernel
theorem dL_law_603 : decode cL_law 603 = .ok (.iload_n 3, 1) := by decide +kernel
theorem dL_law_604 : decode cL_law 604 = .ok (.iconst 1, 1) := by decide +kernel
theorem dL_law_605 : decode cL_law 605 = .ok (.iadd, 1) := by decide +kernel
theorem dL_law_606 : decode cL_law 606 = .ok (.iaload, 1) := by decide +kernel
theorem dL_law_607 : decode cL_law 607 = .ok (.aload_n 0, 1) := by decide +kernel
theorem dL_law_608 : decode cL_law 608 = .ok (.iload_n 3, 1) := by decide +kernel
theorem dL_law_609 : decode cL_law 609 = .ok (.iconst 2, 1) := by decide +kernel
theorem dL_law_610 : decode cL_law 610 = .ok (.iadd, 1) := by decide +kernel
theorem dL_law_611 : decode cL_law 611 = .ok (.iaload, 1) := by decide +kernel
theorem dL_law_612 : decode cL_law 612 = .ok (.invokevirtual 69, 3) := by decide +kernel
theorem dL_law_615 : decode cL_law 615 = .ok (.aload_n 2, 1) := by decide +kernel
theorem dL_law_616 : decode cL_law 616 = .ok (.aload_n 0, 1) := by decide +kernel
theorem dL_law_617 : decode cL_law 617 = .ok (.iload_n 3, 1) := by decide +kernel
theorem dL_law_618 : decode cL_law 618 = .ok (.iconst 1, 1) := by decide +kernel
theorem dL_law_619 : decode cL_law 619 = .ok (.iadd, 1) := by decide +kernel
theorem dL_law_620 : decode cL_law 620 = .ok (.iaload, 1) := by decide +kernel
theorem dL_law_621 : decode cL_law 621 = .ok (.aload_n 0, 1) := by decide +kernel
theorem dL_law_622 : decode cL_law 622 = .ok (.iload_n 3, 1) := by decide +kernel
theorem dL_law_623 : decode cL_law 623 = .ok (.iconst 2, 1) := by decide +kernel
theorem dL_law_624 : decode cL_law 624 = .ok (.iadd, 1) := by decide +kernel
theorem dL_law_625 : decode cL_law 625 = .ok (.iaload, 1) := by decide +kernel
theorem dL_law_626 : decode cL_law 626 = .ok (.invokevirtual 72, 3) := by decide +kernel
theorem dL_law_629 : decode cL_law 629 = .ok (.if_icmp .eq 281, 3) := by decide +kernel
theorem dL_law_632 : decode cL_law 632 = .ok (.iconst 0, 1) := by decide +kernel
theorem dL_law_633 : decode cL_law 633 = .ok (.ireturn, 1) := by decide +kernel
theorem dL_law_634 : decode cL_law 634 = .ok (.aload_n 1, 1) := by decide +kernel
theorem dL_law_635 : decode cL_law 635 = .ok (.aload_n 0, 1) := by decide +kernel
theorem dL_law_636 : decode cL_law 636 = .ok (.iload_n 3, 1) := by decide +kernel
theorem dL_law_637 : decode cL_law 637 = .ok (.iconst 1, 1) := by decide +kernel
theorem dL_law_638 : decode cL_law 638 = .ok (.iadd, 1) := by decide +kernel
theorem dL_law_639 : decode cL_law 639 = .ok (.iaload, 1) := by decide +kernel
theorem dL_law_640 : decode cL_law 640 = .ok (.aload_n 0, 1) := by decide +kernel
theorem dL_law_641 : decode cL_law 641 = .ok (.iload_n 3, 1) := by decide +kernel
theorem dL_law_642 : decode cL_law 642 = .ok (.iconst 2, 1) := by decide +kernel
theorem dL_law_643 : decode cL_law 643 = .ok (.iadd, 1) := by decide +kernel
theorem dL_law_644 : decode cL_law 644 = .ok (.iaload, 1) := by decide +kernel
theorem dL_law_645 : decode cL_law 645 = .ok (.invokevirtual 73, 3) := by decide +kernel
theorem dL_law_648 : decode cL_law 648 = .ok (.aload_n 2, 1) := by decide +kernel
theorem dL_law_649 : decode cL_law 649 = .ok (.aload_n 0, 1) := by decide +kernel
theorem dL_law_650 : decode cL_law 650 = .ok (.iload_n 3, 1) := by decide +kernel
theorem dL_law_651 : decode cL_law 651 = .ok (.iconst 1, 1) := by decide +kernel
theorem dL_law_652 : decode cL_law 652 = .ok (.iadd, 1) := by decide +kernel
theorem dL_law_653 : decode cL_law 653 = .ok (.iaload, 1) := by decide +kernel
theorem dL_law_654 : decode cL_law 654 = .ok (.aload_n 0, 1) := by decide +kernel
theorem dL_law_655 : decode cL_law 655 = .ok (.iload_n 3, 1) := by decide +kernel
theorem dL_law_656 : decode cL_law 656 = .ok (.iconst 2, 1) := by decide +kernel
theorem dL_law_657 : decode cL_law 657 = .ok (.iadd, 1) := by decide +kernel
theorem dL_law_658 : decode cL_law 658 = .ok (.iaload, 1) := by decide +kernel
theorem dL_law_659 : decode cL_law 659 = .ok (.invokevirtual 76, 3) := by decide +kernel
theorem dL_law_662 : decode cL_law 662 = .ok (.if_icmp .eq 248, 3) := by decide +kernel
theorem dL_law_665 : decode cL_law 665 = .ok (.iconst 0, 1) := by decide +kernel
theorem dL_law_666 : decode cL_law 666 = .ok (.ireturn, 1) := by decide +kernel
theorem dL_law_667 : decode cL_law 667 = .ok (.aload_n 1, 1) := by decide +kernel
theorem dL_law_668 : decode cL_law 668 = .ok (.aload_n 0, 1) := by decide +kernel
theorem dL_law_669 : decode cL_law 669 = .ok (.iload_n 3, 1) := by decide +kernel
theorem dL_law_670 : decode cL_law 670 = .ok (.iconst 1, 1) := by decide +kernel
theorem dL_law_671 : decode cL_law 671 = .ok (.iadd, 1) := by decide +kernel
theorem dL_law_672 : decode cL_law 672 = .ok (.iaload, 1) := by decide +kernel
theorem dL_law_673 : decode cL_law 673 = .ok (.aload_n 0, 1) := by decide +kernel
theorem dL_law_674 : decode cL_law 674 = .ok (.iload_n 3, 1) := by decide +kernel
theorem dL_law_675 : decode cL_law 675 = .ok (.iconst 2, 1) := by decide +kernel
theorem dL_law_676 : decode cL_law 676 = .ok (.iadd, 1) := by decide +kernel
theorem dL_law_677 : decode cL_law 677 = .ok (.iaload, 1) := by decide +kernel
theorem dL_law_678 : decode cL_law 678 = .ok (.invokevirtual 77, 3) := by decide +kernel
theorem dL_law_681 : decode cL_law 681 = .ok (.aload_n 2, 1) := by decide +kernel
theorem dL_law_682 : decode cL_law 682 = .ok (.aload_n 0, 1) := by decide +kernel
theorem dL_law_683 : decode cL_law 683 = .ok (.iload_n 3, 1) := by decide +kernel
theorem dL_law_684 : decode cL_law 684 = .ok (.iconst 1, 1) := by decide +kernel
theorem dL_law_685 : decode cL_law 685 = .ok (.iadd, 1) := by decide +kernel
theorem dL_law_686 : decode cL_law 686 = .ok (.iaload, 1) := by decide +kernel
theorem dL_law_687 : decode cL_law 687 = .ok (.aload_n 0, 1) := by decide +kernel
theorem dL_law_688 : decode cL_law 688 = .ok (.iload_n 3, 1) := by decide +kernel
theorem dL_law_689 : decode cL_law 689 = .ok (.iconst 2, 1) := by decide +kernel
theorem dL_law_690 : decode cL_law 690 = .ok (.iadd, 1) := by decide +kernel
theorem dL_law_691 : decode cL_law 691 = .ok (.iaload, 1) := by decide +kernel
theorem dL_law_692 : decode cL_law 692 = .ok (.invokevirtual 80, 3) := by decide +kernel
theorem dL_law_695 : decode cL_law 695 = .ok (.if_icmp .eq 215, 3) := by decide +kernel
theorem dL_law_698 : decode cL_law 698 = .ok (.iconst 0, 1) := by decide +kernel
theorem dL_law_699 : decode cL_law 699 = .ok (.ireturn, 1) := by decide +kernel
theorem dL_law_700 : decode cL_law 700 = .ok (.aload_n 1, 1) := by decide +kernel
theorem dL_law_701 : decode cL_law 701 = .ok (.aload_n 0, 1) := by decide +kernel
theorem dL_law_702 : decode cL_law 702 = .ok (.iload_n 3, 1) := by decide +kernel
theorem dL_law_703 : decode cL_law 703 = .ok (.iconst 1, 1) := by decide +kernel
theorem dL_law_704 : decode cL_law 704 = .ok (.iadd, 1) := by decide +kernel
theorem dL_law_705 : decode cL_law 705 = .ok (.iaload, 1) := by decide +kernel
theorem dL_law_706 : decode cL_law 706 = .ok (.invokevirtual 81, 3) := by decide +kernel
theorem dL_law_709 : decode cL_law 709 = .ok (.aload_n 2, 1) := by decide +kernel
theorem dL_law_710 : decode cL_law 710 = .ok (.aload_n 0, 1) := by decide +kernel
theorem dL_law_711 : decode cL_law 711 = .ok (.iload_n 3, 1) := by decide +kernel
theorem dL_law_712 : decode cL_law 712 = .ok (.iconst 1, 1) := by decide +kernel
theorem dL_law_713 : decode cL_law 713 = .ok (.iadd, 1) := by decide +kernel
theorem dL_law_714 : decode cL_law 714 = .ok (.iaload, 1) := by decide +kernel
theorem dL_law_715 : decode cL_law 715 = .ok (.invokevirtual 84, 3) := by decide +kernel
theorem dL_law_718 : decode cL_law 718 = .ok (.if_icmp .eq 192, 3) := by decide +kernel
theorem dL_law_721 : decode cL_law 721 = .ok (.iconst 0, 1) := by decide +kernel
theorem dL_law_722 : decode cL_law 722 = .ok (.ireturn, 1) := by decide +kernel
theorem dL_law_723 : decode cL_law 723 = .ok (.aload_n 1, 1) := by decide +kernel
theorem dL_law_724 : decode cL_law 724 = .ok (.aload_n 0, 1) := by decide +kernel
theorem dL_law_725 : decode cL_law 725 = .ok (.iload_n 3, 1) := by decide +kernel
theorem dL_law_726 : decode cL_law 726 = .ok (.iconst 1, 1) := by decide +kernel
theorem dL_law_727 : decode cL_law 727 = .ok (.iadd, 1) := by decide +kernel
theorem dL_law_728 : decode cL_law 728 = .ok (.iaload, 1) := by decide +kernel
theorem dL_law_729 : decode cL_law 729 = .ok (.invokevirtual 85, 3) := by decide +kernel
theorem dL_law_732 : decode cL_law 732 = .ok (.aload_n 2, 1) := by decide +kernel
theorem dL_law_733 : decode cL_law 733 = .ok (.aload_n 0, 1) := by decide +kernel
theorem dL_law_734 : decode cL_law 734 = .ok (.iload_n 3, 1) := by decide +kernel
theorem dL_law_735 : decode cL_law 735 = .ok (.iconst 1, 1) := by decide +kernel
theorem dL_law_736 : decode cL_law 736 = .ok (.iadd, 1) := by decide +kernel
theorem dL_law_737 : decode cL_law 737 = .ok (.iaload, 1) := by decide +kernel
theorem dL_law_738 : decode cL_law 738 = .ok (.invokevirtual 88, 3) := by decide +kernel
theorem dL_law_741 : decode cL_law 741 = .ok (.if_icmp .eq 169, 3) := by decide +kernel
theorem dL_law_744 : decode cL_law 744 = .ok (.iconst 0, 1) := by decide +kernel
theorem dL_law_745 : decode cL_law 745 = .ok (.ireturn, 1) := by decide +kernel
theorem dL_law_746 : decode cL_law 746 = .ok (.aload_n 1, 1) := by decide +kernel
theorem dL_law_747 : decode cL_law 747 = .ok (.aload_n 0, 1) := by decide +kernel
theorem dL_law_748 : decode cL_law 748 = .ok (.iload_n 3, 1) := by decide +kernel
theorem dL_law_749 : decode cL_law 749 = .ok (.iconst 1, 1) := by decide +kernel
theorem dL_law_750 : decode cL_law 750 = .ok (.iadd, 1) := by decide +kernel
theorem dL_law_751 : decode cL_law 751 = .ok (.iaload, 1) := by decide +kernel
theorem dL_law_752 : decode cL_law 752 = .ok (.aload_n 0, 1) := by decide +kernel
theorem dL_law_753 : decode cL_law 753 = .ok (.iload_n 3, 1) := by decide +kernel
theorem dL_law_754 : decode cL_law 754 = .ok (.iconst 2, 1) := by decide +kernel
theorem dL_law_755 : decode cL_law 755 = .ok (.iadd, 1) := by decide +kernel
theorem dL_law_756 : decode cL_law 756 = .ok (.iaload, 1) := by decide +kernel
theorem dL_law_757 : decode cL_law 757 = .ok (.invokevirtual 89, 3) := by decide +kernel
theorem dL_law_760 : decode cL_law 760 = .ok (.aload_n 2, 1) := by decide +kernel
theorem dL_law_761 : decode cL_law 761 = .ok (.aload_n 0, 1) := by decide +kernel
theorem dL_law_762 : decode cL_law 762 = .ok (.iload_n 3, 1) := by decide +kernel
theorem dL_law_763 : decode cL_law 763 = .ok (.iconst 1, 1) := by decide +kernel
theorem dL_law_764 : decode cL_law 764 = .ok (.iadd, 1) := by decide +kernel
theorem dL_law_765 : decode cL_law 765 = .ok (.iaload, 1) := by decide +kernel
theorem dL_law_766 : decode cL_law 766 = .ok (.aload_n 0, 1) := by decide +kernel
theorem dL_law_767 : decode cL_law 767 = .ok (.iload_n 3, 1) := by decide +kernel
theorem dL_law_768 : decode cL_law 768 = .ok (.iconst 2, 1) := by decide +kernel
theorem dL_law_769 : decode cL_law 769 = .ok (.iadd, 1) := by decide +kernel
theorem dL_law_770 : decode cL_law 770 = .ok (.iaload, 1) := by decide +kernel
theorem dL_law_771 : decode cL_law 771 = .ok (.invokevirtual 92, 3) := by decide +kernel
theorem dL_law_774 : decode cL_law 774 = .ok (.if_icmp .eq 136, 3) := by decide +kernel
theorem dL_law_777 : decode cL_law 777 = .ok (.iconst 0, 1) := by decide +kernel
theorem dL_law_778 : decode cL_law 778 = .ok (.ireturn, 1) := by decide +kernel
theorem dL_law_779 : decode cL_law 779 = .ok (.aload_n 1, 1) := by decide +kernel
theorem dL_law_780 : decode cL_law 780 = .ok (.aload_n 0, 1) := by decide +kernel
theorem dL_law_781 : decode cL_law 781 = .ok (.iload_n 3, 1) := by decide +kernel
theorem dL_law_782 : decode cL_law 782 = .ok (.iconst 1, 1) := by decide +kernel
theorem dL_law_783 : decode cL_law 783 = .ok (.iadd, 1) := by decide +kernel
theorem dL_law_784 : decode cL_law 784 = .ok (.iaload, 1) := by decide +kernel
theorem dL_law_785 : decode cL_law 785 = .ok (.invokevirtual 93, 3) := by decide +kernel
theorem dL_law_788 : decode cL_law 788 = .ok (.aload_n 2, 1) := by decide +kernel
theorem dL_law_789 : decode cL_law 789 = .ok (.aload_n 0, 1) := by decide +kernel
theorem dL_law_790 : decode cL_law 790 = .ok (.iload_n 3, 1) := by decide +kernel
theorem dL_law_791 : decode cL_law 791 = .ok (.iconst 1, 1) := by decide +kernel
theorem dL_law_792 : decode cL_law 792 = .ok (.iadd, 1) := by decide +kernel
theorem dL_law_793 : decode cL_law 793 = .ok (.iaload, 1) := by decide +kernel
theorem dL_law_794 : decode cL_law 794 = .ok (.invokevirtual 96, 3) := by decide +kernel
theorem dL_law_797 : decode cL_law 797 = .ok (.if_icmp .eq 113, 3) := by decide +kernel
theorem dL_law_800 : decode cL_law 800 = .ok (.iconst 0, 1) := by decide +kernel
theorem dL_law_801 : decode cL_law 801 = .ok (.ireturn, 1) := by decide +kernel
theorem dL_law_802 : decode cL_law 802 = .ok (.aload_n 1, 1) := by decide +kernel
theorem dL_law_803 : decode cL_law 803 = .ok (.aload_n 0, 1) := by decide +kernel
theorem dL_law_804 : decode cL_law 804 = .ok (.iload_n 3, 1) := by decide +kernel
theorem dL_law_805 : decode cL_law 805 = .ok (.iconst 1, 1) := by decide +kernel
theorem dL_law_806 : decode cL_law 806 = .ok (.iadd, 1) := by decide +kernel
theorem dL_law_807 : decode cL_law 807 = .ok (.iaload, 1) := by decide +kernel
theorem dL_law_808 : decode cL_law 808 = .ok (.invokevirtual 97, 3) := by decide +kernel
theorem dL_law_811 : decode cL_law 811 = .ok (.aload_n 2, 1) := by decide +kernel
theorem dL_law_812 : decode cL_law 812 = .ok (.aload_n 0, 1) := by decide +kernel
theorem dL_law_813 : decode cL_law 813 = .ok (.iload_n 3, 1) := by decide +kernel
theorem dL_law_814 : decode cL_law 814 = .ok (.iconst 1, 1) := by decide +kernel
theorem dL_law_815 : decode cL_law 815 = .ok (.iadd, 1) := by decide +kernel
theorem dL_law_816 : decode cL_law 816 = .ok (.iaload, 1) := by decide +kernel
theorem dL_law_817 : decode cL_law 817 = .ok (.invokevirtual 100, 3) := by decide +kernel
theorem dL_law_820 : decode cL_law 820 = .ok (.if_icmp .eq 90, 3) := by decide +kernel
theorem dL_law_823 : decode cL_law 823 = .ok (.iconst 0, 1) := by decide +kernel
theorem dL_law_824 : decode cL_law 824 = .ok (.ireturn, 1) := by decide +kernel
theorem dL_law_825 : decode cL_law 825 = .ok (.aload_n 1, 1) := by decide +kernel
theorem dL_law_826 : decode cL_law 826 = .ok (.invokevirtual 101, 3) := by decide +kernel
theorem dL_law_829 : decode cL_law 829 = .ok (.aload_n 2, 1) := by decide +kernel
theorem dL_law_830 : decode cL_law 830 = .ok (.invokevirtual 105, 3) := by decide +kernel
theorem dL_law_833 : decode cL_law 833 = .ok (.if_icmp .eq 77, 3) := by decide +kernel
theorem dL_law_836 : decode cL_law 836 = .ok (.iconst 0, 1) := by decide +kernel
theorem dL_law_837 : decode cL_law 837 = .ok (.ireturn, 1) := by decide +kernel
theorem dL_law_838 : decode cL_law 838 = .ok (.aload_n 1, 1) := by decide +kernel
theorem dL_law_839 : decode cL_law 839 = .ok (.aload_n 0, 1) := by decide +kernel
theorem dL_law_840 : decode cL_law 840 = .ok (.iload_n 3, 1) := by decide +kernel
theorem dL_law_841 : decode cL_law 841 = .ok (.iconst 1, 1) := by decide +kernel
theorem dL_law_842 : decode cL_law 842 = .ok (.iadd, 1) := by decide +kernel
theorem dL_law_843 : decode cL_law 843 = .ok (.iaload, 1) := by decide +kernel
theorem dL_law_844 : decode cL_law 844 = .ok (.invokevirtual 106, 3) := by decide +kernel
theorem dL_law_847 : decode cL_law 847 = .ok (.aload_n 2, 1) := by decide +kernel
theorem dL_law_848 : decode cL_law 848 = .ok (.aload_n 0, 1) := by decide +kernel
theorem dL_law_849 : decode cL_law 849 = .ok (.iload_n 3, 1) := by decide +kernel
theorem dL_law_850 : decode cL_law 850 = .ok (.iconst 1, 1) := by decide +kernel
theorem dL_law_851 : decode cL_law 851 = .ok (.iadd, 1) := by decide +kernel
theorem dL_law_852 : decode cL_law 852 = .ok (.iaload, 1) := by decide +kernel
theorem dL_law_853 : decode cL_law 853 = .ok (.invokevirtual 109, 3) := by decide +kernel
theorem dL_law_856 : decode cL_law 856 = .ok (.if_icmp .eq 54, 3) := by decide +kernel
theorem dL_law_859 : decode cL_law 859 = .ok (.iconst 0, 1) := by decide +kernel
theorem dL_law_860 : decode cL_law 860 = .ok (.ireturn, 1) := by decide +kernel
theorem dL_law_861 : decode cL_law 861 = .ok (.aload_n 1, 1) := by decide +kernel
theorem dL_law_862 : decode cL_law 862 = .ok (.invokevirtual 110, 3) := by decide +kernel
theorem dL_law_865 : decode cL_law 865 = .ok (.aload_n 2, 1) := by decide +kernel
theorem dL_law_866 : decode cL_law 866 = .ok (.invokevirtual 113, 3) := by decide +kernel
theorem dL_law_869 : decode cL_law 869 = .ok (.if_icmp .eq 41, 3) := by decide +kernel
theorem dL_law_872 : decode cL_law 872 = .ok (.iconst 0, 1) := by decide +kernel
theorem dL_law_873 : decode cL_law 873 = .ok (.ireturn, 1) := by decide +kernel
theorem dL_law_874 : decode cL_law 874 = .ok (.aload_n 1, 1) := by decide +kernel
theorem dL_law_875 : decode cL_law 875 = .ok (.aload_n 0, 1) := by decide +kernel
theorem dL_law_876 : decode cL_law 876 = .ok (.iload_n 3, 1) := by decide +kernel
theorem dL_law_877 : decode cL_law 877 = .ok (.iconst 1, 1) := by decide +kernel
theorem dL_law_878 : decode cL_law 878 = .ok (.iadd, 1) := by decide +kernel
theorem dL_law_879 : decode cL_law 879 = .ok (.iaload, 1) := by decide +kernel
theorem dL_law_880 : decode cL_law 880 = .ok (.invokevirtual 114, 3) := by decide +kernel
theorem dL_law_883 : decode cL_law 883 = .ok (.aload_n 2, 1) := by decide +kernel
theorem dL_law_884 : decode cL_law 884 = .ok (.aload_n 0, 1) := by decide +kernel
theorem dL_law_885 : decode cL_law 885 = .ok (.iload_n 3, 1) := by decide +kernel
theorem dL_law_886 : decode cL_law 886 = .ok (.iconst 1, 1) := by decide +kernel
theorem dL_law_887 : decode cL_law 887 = .ok (.iadd, 1) := by decide +kernel
theorem dL_law_888 : decode cL_law 888 = .ok (.iaload, 1) := by decide +kernel
theorem dL_law_889 : decode cL_law 889 = .ok (.invokevirtual 117, 3) := by decide +kernel
theorem dL_law_892 : decode cL_law 892 = .ok (.if_icmp .eq 18, 3) := by decide +kernel
theorem dL_law_895 : decode cL_law 895 = .ok (.iconst 0, 1) := by decide +kernel
theorem dL_law_896 : decode cL_law 896 = .ok (.ireturn, 1) := by decide +kernel
theorem dL_law_897 : decode cL_law 897 = .ok (.aload_n 1, 1) := by decide +kernel
theorem dL_law_898 : decode cL_law 898 = .ok (.invokevirtual 118, 3) := by decide +kernel
theorem dL_law_901 : decode cL_law 901 = .ok (.aload_n 2, 1) := by decide +kernel
theorem dL_law_902 : decode cL_law 902 = .ok (.invokevirtual 121, 3) := by decide +kernel
theorem dL_law_905 : decode cL_law 905 = .ok (.if_icmp .eq 5, 3) := by decide +kernel
theorem dL_law_908 : decode cL_law 908 = .ok (.iconst 0, 1) := by decide +kernel
theorem dL_law_909 : decode cL_law 909 = .ok (.ireturn, 1) := by decide +kernel
theorem dL_law_910 : decode cL_law 910 = .ok (.iinc 3 6, 3) := by decide +kernel
theorem dL_law_913 : decode cL_law 913 = .ok (.goto (-895), 3) := by decide +kernel
theorem dL_law_916 : decode cL_law 916 = .ok (.iconst 1, 1) := by decide +kernel
theorem dL_law_917 : decode cL_law 917 = .ok (.ireturn, 1) := by decide +kernel
end
section
/-! THE SYSTEM's HEAP AS NUMBERS: cells at base + k; of each cell its shape, its references and its ints -/
/-- base; the arrays' types' numbers; the kit's D -/
abbrev BcG : Type := Nat × (Nat → ClassId) × va_G
/-- how many cells; each cell's shape (kind, length); references (cell, slot ↦ cell); ints -/
abbrev BcH : Type := (Nat × (Nat → Nat × Nat)) × (Nat → Nat → Option Nat) × (Nat → Nat → Int32)
/-- a method: name, bytes, locals, what it returns, frames, words, cells, slots -/
abbrev BcM : Type := MethodName × ByteArray × Nat × Option FieldType × Nat × Nat × Nat × Nat
def bc_rm (M : BcM) : Room := { frames := M.2.2.2.2.1, cells := M.2.2.2.2.2.2.1, slots := M.2.2.2.2.2.2.2, locals := M.2.2.2.2.2.1 }
def bc_cl : List vw_C := [(RX0, TX0, 13), (RX1, TX1, 3), (RX2, TX2, 4), (RX3, TX3, 16), (RX4, TX4, 3), (RX5, TX5, 5), (RX6, TX6, 4), (RX7, TX7, 5), (RX8, TX8, 7), (RX9, TX9, 11)]
/-- number of fields -/
def bc_nF (c : Nat) : Nat := match c with
  | 0 => 13 | 1 => 3 | 2 => 4 | 3 => 16 | 4 => 3 | 5 => 5 | 6 => 4 | 7 => 5 | 8 => 7 | _ => 11
/-- is the field a reference -/
def bc_iR (c j : Nat) : Bool := match c with
  | 1 => j == 0
  | 3 => j == 0 || j == 2 || j == 4 || j == 6 || j == 7 || j == 8 || j == 9
  | 4 => j == 2
  | 5 => j == 0 || j == 3
  | 8 => Nat.blt j 4
  | 9 => j == 0 || j == 1 || j == 2 || j == 5 || j == 10
  | _ => false
def bc_fv (G : BcG) (c : Nat) (r : Nat → Option Nat) (f : Nat → Int32) (j : Nat) : Value := if bc_iR c j = true then va_rf ((r j).map (G.1 + ·)) else .int (f j)
def bc_fs (G : BcG) (c : Nat) (r : Nat → Option Nat) (f : Nat → Int32) : List Value := (List.range (bc_nF c)).map (bc_fv G c r f)
def bc_ce (G : BcG) (sh : Nat × Nat) (r : Nat → Option Nat) (f : Nat → Int32) : va_E :=
  if sh.1 < 20 then .inr (sh.1, bc_fs G sh.1 r f)
  else if sh.1 < 22 then .inl (G.2.1 (sh.1 - 20), sh.2, .inl f)
  else .inl (G.2.1 (sh.1 - 20), sh.2, .inr (.inr (.inr (.inr (fun j => (r j).map (G.1 + ·))))))
def bc_wl (G : BcG) (h : BcH) : va_W := (List.range h.1.1).map fun k => (G.1 + k, bc_ce G (h.1.2 k) (h.2.1 k) (h.2.2 k))
def bc_ty (G : BcG) : List (ClassId × FieldType) := [(G.2.1 0, .int), (G.2.1 1, .char), (G.2.1 2, .object RX3), (G.2.1 3, .object RX4), (G.2.1 4, .object RX6), (G.2.1 5, .object RX7), (G.2.1 6, .object RX2), (G.2.1 7, .object RX0)]
def bc_A (G : BcG) : Nat → Prop := fun q => G.1 ≤ q
theorem bc_wl_get {G : BcG} {h : BcH} {k : Nat} (hk : k < h.1.1) : (bc_wl G h)[k]? = some (G.1 + k, bc_ce G (h.1.2 k) (h.2.1 k) (h.2.2 k)) := by
  simp [bc_wl, hk]
theorem bc_wl_inv {G : BcG} {h : BcH} {k : Nat} {q : Nat × va_E} (hq : (bc_wl G h)[k]? = some q) : k < h.1.1 ∧ q = (G.1 + k, bc_ce G (h.1.2 k) (h.2.1 k) (h.2.2 k)) := by
  have hl : k < h.1.1 := by
    have h1 := (List.getElem?_eq_some_iff.mp hq).1
    simpa [bc_wl] using h1
  rw [bc_wl_get hl] at hq
  exact ⟨hl, (Option.some.inj hq).symm⟩
theorem bc_wl_len (G : BcG) (h : BcH) : (bc_wl G h).length = h.1.1 := by simp [bc_wl]
theorem bc_wl_D (G : BcG) (h : BcH) : va_D (bc_A G) (bc_wl G h) := by
  refine ⟨fun i j p q hi hj e => ?_, fun k q hq => ?_⟩
  · obtain ⟨-, rfl⟩ := bc_wl_inv hi
    obtain ⟨-, rfl⟩ := bc_wl_inv hj
    have e' : G.1 + i = G.1 + j := e
    omega
  · obtain ⟨-, rfl⟩ := bc_wl_inv hq
    exact Nat.le_add_right _ _
/-- an int is written -/
def bc_si (h : BcH) (k j : Nat) (v : Int32) : BcH := (h.1, h.2.1, va_up h.2.2 k (upd (h.2.2 k) j v))
/-- a whole row of ints is written -/
def bc_sa (h : BcH) (k : Nat) (f : Nat → Int32) : BcH := (h.1, h.2.1, va_up h.2.2 k f)
/-- a reference is written -/
def bc_sr (h : BcH) (k j : Nat) (v : Option Nat) : BcH := (h.1, va_up h.2.1 k (va_up (h.2.1 k) j v), h.2.2)
/-- a cell is made -/
def bc_nw (h : BcH) (sh : Nat × Nat) : BcH := ((h.1.1 + 1, va_up h.1.2 h.1.1 sh), va_up h.2.1 h.1.1 (fun _ => none), va_up h.2.2 h.1.1 (fun _ => 0))
theorem bc_wl_put {G : BcG} {h : BcH} {k : Nat} (hk : k < h.1.1) (r : Nat → Option Nat) (f : Nat → Int32) : (bc_wl G h).set k (G.1 + k, bc_ce G (h.1.2 k) r f) = bc_wl G (h.1, va_up h.2.1 k r, va_up h.2.2 k f) := by
  apply List.ext_getElem?
  intro i
  by_cases hi : i < h.1.1
  · by_cases e : i = k
    · subst e
      rw [List.getElem?_set_self (by rw [bc_wl_len]; exact hi), bc_wl_get (h := (h.1, va_up h.2.1 i r, va_up h.2.2 i f)) hi]
      simp [va_up]
    · rw [List.getElem?_set_ne (Ne.symm e), bc_wl_get hi, bc_wl_get (h := (h.1, va_up h.2.1 k r, va_up h.2.2 k f)) hi]
      simp [va_up, e]
  · rw [List.getElem?_eq_none (by rw [List.length_set, bc_wl_len]; omega), List.getElem?_eq_none (by rw [bc_wl_len]; exact Nat.le_of_not_lt hi)]
theorem bc_up_self {α : Type} (f : Nat → α) (k : Nat) : va_up f k (f k) = f := by
  funext j
  unfold va_up
  by_cases e : j = k
  · rw [if_pos e, e]
  · rw [if_neg e]
theorem bc_wl_sa {G : BcG} {h : BcH} {k : Nat} (hk : k < h.1.1) (f : Nat → Int32) : (bc_wl G h).set k (G.1 + k, bc_ce G (h.1.2 k) (h.2.1 k) f) = bc_wl G (bc_sa h k f) := by
  rw [bc_wl_put hk, bc_up_self]; rfl
theorem bc_wl_sr {G : BcG} {h : BcH} {k : Nat} (hk : k < h.1.1) (j : Nat) (v : Option Nat) : (bc_wl G h).set k (G.1 + k, bc_ce G (h.1.2 k) (va_up (h.2.1 k) j v) (h.2.2 k)) = bc_wl G (bc_sr h k j v) := by
  rw [bc_wl_put hk, bc_up_self]; rfl
theorem bc_wl_nw (G : BcG) (h : BcH) (sh : Nat × Nat) : bc_wl G h ++ [(G.1 + h.1.1, bc_ce G sh (fun _ => none) (fun _ => 0))] = bc_wl G (bc_nw h sh) := by
  apply List.ext_getElem?
  intro i
  rcases Nat.lt_trichotomy i h.1.1 with hi | hi | hi
  · rw [List.getElem?_append_left (by rw [bc_wl_len]; exact hi), bc_wl_get hi, bc_wl_get (h := bc_nw h sh) (Nat.lt_succ_of_lt hi)]
    simp [bc_nw, va_up, Nat.ne_of_lt hi]
  · subst hi
    rw [List.getElem?_append_right (by rw [bc_wl_len]; exact Nat.le_refl _), bc_wl_len, Nat.sub_self, bc_wl_get (h := bc_nw h sh) (Nat.lt_succ_self _)]
    simp [bc_nw, va_up]
  · rw [List.getElem?_eq_none (by rw [List.length_append, bc_wl_len]; simp; omega), List.getElem?_eq_none (by rw [bc_wl_len]; exact hi)]
/-! THE WORDS: all of the tables' words that every method may hand on -/
def lwG : List Cond := lw_tbl.filter goodWord
theorem lwG_of {w : Cond} (h : w ∈ lw_tbl) (g : goodWord w = true) : w ∈ lwG := List.mem_filter.mpr ⟨h, g⟩
theorem lwG_tbl {w : Cond} (h : w ∈ lwG) : w ∈ lw_tbl := (List.mem_filter.mp h).1
theorem lwG_good {ws : List Cond} (h : ∀ w ∈ ws, w ∈ lwG) : GoodIn lwG ws := fun w hw => ⟨h w hw, good_of_word (List.mem_filter.mp (h w hw)).2⟩
theorem lwT_1 {w : Cond} (h : w ∈ tables_1_1) : w ∈ lw_tbl := List.mem_append_right _ (List.mem_append_left _ h)
theorem lwT_2 {w : Cond} (h : w ∈ tables_1_2) : w ∈ lw_tbl := List.mem_append_right _ (List.mem_append_right _ (List.mem_append_left _ h))
theorem lwT_3 {w : Cond} (h : w ∈ tables_1_3) : w ∈ lw_tbl := List.mem_append_right _ (List.mem_append_right _ (List.mem_append_right _ (List.mem_append_left _ h)))
theorem lwT_4 {w : Cond} (h : w ∈ tables_1_4) : w ∈ lw_tbl := List.mem_append_right _ (List.mem_append_right _ (List.mem_append_right _ (List.mem_append_right _ (List.mem_append_left _ h))))
theorem lwT_5 {w : Cond} (h : w ∈ tables_1_5) : w ∈ lw_tbl := List.mem_append_right _ (List.mem_append_right _ (List.mem_append_right _ (List.mem_append_right _ (List.mem_append_right _ h))))
/-- the calls of nest mates' private members: caller, entry, callee -/
def bc_nx : List (String × Nat × MethodName) := [(RX4, 17, yX6_init), (RX3, 46, yX7_init), (RX3, 47, yX2_init), (RX3, 48, yX0_init), (RX3, 49, yX8_putEntry), (RX8, 28, yX5_init), (RX3, 57, yX8_copyEntries), (RX3, 106, yX8_isWithin), (RX3, 168, yX8_entryAt), (RX5, 19, yX8_isWithin), (RX5, 46, yX8_putEntry)]
def bc_ao : List String := [RX3, RX4, RX6, RX7, RX2, RX0]
def bc_K (G : BcG) (U : State) : Prop := va_K G.2.2 bc_cl (bc_ty G) U ∧ (∀ q ∈ bc_nx, va_Nw (.methodLinkNest q.1 q.2.1 q.2.2 RX8) U) ∧ (∀ C ∈ bc_ao, va_AO C U)
theorem bc_K.warm {G : BcG} {s U : State} (hW : s.WarmedH U.vm) (h : bc_K G s) : bc_K G U := ⟨va_K.moved hW.alike h.1, fun q hq => va_Nw.warmM hW (h.2.1 q hq), fun C hC => va_AO.moved hW.alike (h.2.2 C hC)⟩
theorem bc_K.calling {G : BcG} {U : State} {g : JFrame} {mk : MethodId} {a : Array Value} (h : bc_K G U) : bc_K G (U.calling g mk a) := ⟨va_K.moved (u := U) (U := U.calling g mk a) (Vm.Alike.refl U.vm) h.1, fun q hq => va_Nw.same rfl (u := U) rfl (h.2.1 q hq), fun C hC => va_AO.moved (u := U) (U := U.calling g mk a) (Vm.Alike.refl U.vm) (h.2.2 C hC)⟩
/-! THE LOCALS: a list, none where nothing is known -/
def bc_lv (la : Array Slot) (ls : List (Option Value)) : Prop := la.size = ls.length ∧ lv_wf la ∧ ∀ (i : Nat) (v : Value), ls[i]? = some (some v) → la[i]? = some (.val v) ∧ v.category = 1
def bc_pr (ls : List (Option Value)) : List (Nat × Value) := (List.range ls.length).filterMap fun i => (ls[i]?.join).map fun v => (i, v)
theorem bc_pr_mem {ls : List (Option Value)} {i : Nat} {v : Value} (h : ls[i]? = some (some v)) : (i, v) ∈ bc_pr ls := by
  refine List.mem_filterMap.mpr ⟨i, List.mem_range.mpr (List.getElem?_eq_some_iff.mp h).1, ?_⟩
  rw [h]; rfl
theorem bc_pr_inv {ls : List (Option Value)} {q : Nat × Value} (h : q ∈ bc_pr ls) : ls[q.1]? = some (some q.2) := by
  obtain ⟨i, hi, e⟩ := List.mem_filterMap.mp h
  have hl : i < ls.length := List.mem_range.mp hi
  rw [List.getElem?_eq_getElem hl] at e
  cases hx : ls[i] with
  | none => rw [hx] at e; simp at e
  | some v =>
    rw [hx] at e
    have e2 : (i, v) = q := by simpa using e
    subst e2
    rw [List.getElem?_eq_getElem hl, hx]
theorem bc_lv.has {la : Array Slot} {ls : List (Option Value)} (h : bc_lv la ls) : lv_has la ls.length (bc_pr ls) := ⟨h.1, h.2.1, fun q hq => (h.2.2 q.1 q.2 (bc_pr_inv hq)).1⟩
theorem bc_lv.get {la : Array Slot} {ls : List (Option Value)} (h : bc_lv la ls) {i : Nat} {v : Value} (hi : ls[i]? = some (some v)) : la[i]? = some (.val v) := (h.2.2 i v hi).1
/-- what the kit's stores hand on is the list with the new value -/
theorem bc_lv.put {la lb : Array Slot} {ls ls' : List (Option Value)} {i : Nat} {v : Value} (h : bc_lv la ls) (hv : v.category = 1) (e : ls.set i (some v) = ls') (hb : lv_has lb ls.length ((i, v) :: (bc_pr ls).filter (fun q => !(q.1 == i) && !(q.1 + 1 == i && q.2.category == 2)))) : bc_lv lb ls' := by
  subst e
  refine ⟨by rw [hb.1, List.length_set], hb.2.1, fun j w hj => ?_⟩
  by_cases hij : j = i
  · subst hij
    have hl : j < ls.length := by
      have := (List.getElem?_eq_some_iff.mp hj).1
      simpa using this
    rw [List.getElem?_set_self hl] at hj
    have e2 : v = w := Option.some.inj (Option.some.inj hj)
    subst e2
    exact ⟨hb.2.2 (j, v) List.mem_cons_self, hv⟩
  · rw [List.getElem?_set_ne (Ne.symm hij)] at hj
    have hc := (h.2.2 j w hj).2
    refine ⟨hb.2.2 (j, w) (List.mem_cons_of_mem _ (List.mem_filter.mpr ⟨bc_pr_mem hj, ?_⟩)), hc⟩
    simp [hij, hc]
theorem ls_0 {v : Value} {l : List (Option Value)} : (some v :: l)[0]? = some (some v) := rfl
theorem ls_s {i : Nat} {a : Option Value} {v : Value} {l : List (Option Value)} (h : l[i]? = some (some v)) : (a :: l)[i + 1]? = some (some v) := by rw [List.getElem?_cons_succ]; exact h
theorem st_0 {a : Option Value} {v : Value} {l : List (Option Value)} : (a :: l).set 0 (some v) = some v :: l := rfl
theorem st_s {i : Nat} {a : Option Value} {v : Value} {l l' : List (Option Value)} (h : l.set i (some v) = l') : (a :: l).set (i + 1) (some v) = a :: l' := by rw [List.set_cons_succ, h]
/-- less is known of the locals -/
def bc_le (ls ls' : List (Option Value)) : Prop := ls'.length = ls.length ∧ ∀ (i : Nat) (v : Value), ls'[i]? = some (some v) → ls[i]? = some (some v)
theorem bc_lv.less {la : Array Slot} {ls ls' : List (Option Value)} (h : bc_lv la ls) (hl : bc_le ls ls') : bc_lv la ls' := ⟨by rw [h.1, hl.1], h.2.1, fun i v hi => h.2.2 i v (hl.2 i v hi)⟩
theorem le_0 : bc_le [] [] := ⟨rfl, fun _ _ h => by simp at h⟩
theorem le_k {a : Option Value} {l l' : List (Option Value)} (h : bc_le l l') : bc_le (a :: l) (a :: l') := ⟨by simp [h.1], fun i v hi => by
  cases i with
  | zero => exact hi
  | succ i => rw [List.getElem?_cons_succ] at hi ⊢; exact h.2 i v hi⟩
theorem le_n {a : Option Value} {l l' : List (Option Value)} (h : bc_le l l') : bc_le (a :: l) (none :: l') := ⟨by simp [h.1], fun i v hi => by
  cases i with
  | zero => simp at hi
  | succ i => rw [List.getElem?_cons_succ] at hi ⊢; exact h.2 i v hi⟩
/-! WHERE THE WALK STANDS -/
def bc_Cx (G : BcG) (M : BcM) (p : Program) (s : State) (m : MethodId) (args : Array Value) (meth : Method) (c : Code) : Prop :=
  p.tables.exec = Jvm.exec ∧ c.code = M.2.1 ∧ c.maxLocals = M.2.2.1 ∧ s.vm.findClass M.1.cls = some m.cls ∧ (∀ w ∈ lwG, w.before args s = true) ∧ meth.sig.returnType = M.2.2.2.1 ∧ meth.locks = false ∧ meth.name = M.1.name ∧ G.1 ≤ s.heap.size ∧ bc_K G s
def bc_St (G : BcG) (M : BcM) (h : BcH) (k : Nat) (ls : List (Option Value)) (s : State) (H : Heap) (locs : List Loc) (la : Array Slot) : Prop :=
  s.heap.size + k = G.1 + h.1.1 ∧ va_P G.2.2 bc_cl (bc_wl G h) H ∧ va_S (bc_A G) s.heap H locs ∧ bc_lv la ls ∧ ls.length = M.2.2.1
abbrev BcK : Type := Program → Launch → Env → State → MethodId → Array Value → List Frame → Method → Code → (State → Prop) → Prop
/-- from here, with this heap, these locals and this stack, the method comes to its end as KQ wants it -/
def BGo (G : BcG) (M : BcM) (KQ : BcK) (h : BcH) (k n : Nat) (pc : Nat) (ls : List (Option Value)) (st : List Value) : Prop :=
  ∀ (p : Program) (l : Launch) (e : Env) (s : State) (m : MethodId) (args : Array Value) (below : List Frame) (meth : Method) (c : Code) (Q : State → Prop), KQ p l e s m args below meth c Q → bc_Cx G M p s m args meth c →
    ∀ (H : Heap) (locs : List Loc) (la : Array Slot), bc_St G M h k ls s H locs la → W p l e (bc_rm M) s m args below meth c H locs k n Q (F0 m pc la st)
/-- what a method leaves: its answer and the heap as post says -/
def bc_Q (G : BcG) (N : Nat) (post : Option Value → BcH → Prop) : Array Value → State → Outcome → State → Prop := fun _ st o t =>
  (∃ (v : Option Value) (h' : BcH), o = .returned v ∧ post v h' ∧ h'.1.1 = N ∧ va_P G.2.2 bc_cl (bc_wl G h') t.heap) ∧ va_F (bc_A G) st t
def bc_P (G : BcG) (h : BcH) (vs : List Value) : Array Value → State → Prop := va_Pc vs (fun U => U.heap.size = G.1 + h.1.1 ∧ va_P G.2.2 bc_cl (bc_wl G h) U.heap ∧ bc_K G U)
abbrev bc_ws (M : BcM) : List Cond := Cond.code M.1 M.2.1 M.2.2.1 M.2.2.2.1 :: lwG
/-- A METHOD's CONTRACT: called with vs over the heap h, it returns as post says -/
def Ct (G : BcG) (M : BcM) (vs : List Value) (h : BcH) (post : Option Value → BcH → Prop) : Prop :=
  ∀ l : Launch, Met l M.1 (bc_ws M) (bc_rm M) (bc_P G h vs) (bc_Q G (h.1.1 + M.2.2.2.2.2.2.1) post) M.2.2.2.2.2.2.1 M.2.2.2.2.2.2.2 (bc_A G)
def KM (G : BcG) (M : BcM) (N : Nat) (post : Option Value → BcH → Prop) : BcK := fun _ _ _ s _ args below _ _ Q =>
  s.heap.size = G.1 + N ∧ Q = MQ below (bc_Q G (N + M.2.2.2.2.2.2.1) post) args s M.2.2.2.2.2.2.1 M.2.2.2.2.2.2.2 (bc_A G)
theorem bc_sl (vs : List Value) (hc : ∀ v ∈ vs, v.category = 1) : lg_sl vs = vs.map Slot.val := by
  induction vs with
  | nil => rfl
  | cons v t ih =>
    have h1 : ¬ v.category = 2 := by rw [hc v List.mem_cons_self]; decide
    have h2 := ih (fun w hw => hc w (List.mem_cons_of_mem _ hw))
    simp only [lg_sl, List.flatMap_cons, h1, if_false, List.map_cons] at h2 ⊢
    rw [h2]; rfl
theorem bc_ar (vs : List Value) (hc : ∀ v ∈ vs, v.category = 1) : ∀ (a i : Nat) (v : Value), vs[i]? = some v → (a + i, v) ∈ lv_args a vs := by
  induction vs with
  | nil => intro a i v h; simp at h
  | cons w t ih =>
    intro a i v h
    have h1 : ¬ w.category = 2 := by rw [hc w List.mem_cons_self]; decide
    cases i with
    | zero =>
      have e : w = v := by simpa using h
      subst e
      unfold lv_args
      exact List.mem_cons_self
    | succ i =>
      rw [List.getElem?_cons_succ] at h
      have h2 := ih (fun u hu => hc u (List.mem_cons_of_mem _ hu)) (a + 1) i v h
      unfold lv_args
      rw [if_neg h1]
      rw [show a + (i + 1) = a + 1 + i by omega]
      exact List.mem_cons_of_mem _ h2
theorem Ct.of {G : BcG} {M : BcM} {vs : List Value} {h : BcH} {post : Option Value → BcH → Prop} (hp : plainName M.1.cls = true) (hc : ∀ v ∈ vs, v.category = 1) (hn : vs.length ≤ M.2.2.1) (hb : Cond.initialized M.1.cls ∈ lwG)
    (go : BGo G M (KM G M h.1.1 post) h 0 0 0 (vs.map some ++ List.replicate (M.2.2.1 - vs.length) none) []) : Ct G M vs h post := by
  intro l
  refine Met.ofW (cc := M.2.1) (maxL := M.2.2.1) (ret := M.2.2.2.1) hp rfl ?_
  intro p e s m args below meth c s₁ B hml hv
  obtain ⟨rfl, hsz, hP, hK⟩ := hv
  have hts := atoms_spec (ws := bc_ws M) B.pre
  have hown : s.vm.findClass M.1.cls = some m.cls := findClass_of_methodNamed B.named
  have hnm := (name_of_methodNamed B.named B.method).1
  have hl := lv_entry vs (n := M.2.2.1) (by rw [bc_sl vs hc, List.length_map]; exact hn)
  rw [lg_entry_eq]
  generalize (lg_sl vs ++ List.replicate (M.2.2.1 - (lg_sl vs).length) Slot.unset).toArray = la at hl ⊢
  refine go p l e s m vs.toArray below meth c _ ⟨hsz, rfl⟩ ⟨B.exec, B.bytes, hml, hown, fun w hw => hts w (List.mem_cons_of_mem _ hw), B.returns, B.notSynchronized, hnm, by omega, hK⟩ s.heap [] la ⟨by omega, hP, va_S.rf, ⟨?_, hl.2.1, ?_⟩, ?_⟩
  · rw [hl.1]; simp; try omega
  · intro i v hi
    by_cases h1 : i < vs.length
    · have h2 : (vs.map some ++ List.replicate (M.2.2.1 - vs.length) none)[i]? = some (vs[i]?) := by
        rw [List.getElem?_append_left (by rw [List.length_map]; exact h1), List.getElem?_map, List.getElem?_eq_getElem h1]; rfl
      rw [h2] at hi
      have h3 : vs[i]? = some v := Option.some.inj hi
      have h4 := bc_ar vs hc 0 i v h3
      rw [Nat.zero_add] at h4
      exact ⟨hl.2.2 (i, v) h4, hc v (List.mem_of_getElem? h3)⟩
    · rw [List.getElem?_append_right (by rw [List.length_map]; omega)] at hi
      have := List.eq_of_mem_replicate (List.mem_of_getElem? hi)
      cases this
  · simp; try omega
theorem bc_blind {G : BcG} {h : BcH} {vs : List Value} : FrameBlind (bc_P G h vs) := fun _ _ _ _ hp => ⟨hp.1, hp.2.1, hp.2.2.1, bc_K.calling hp.2.2.2⟩
/-- how large the heap is, by what the walk carries -/
theorem bc_size {G : BcG} {M : BcM} {h : BcH} {k : Nat} {ls : List (Option Value)} {p : Program} {l : Launch} {e : Env} {R : Room} {s : State} {m : MethodId} {args : Array Value} {below : List Frame} {meth : Method} {c : Code} {T : State} {locs locs' : List Loc} {n : Nat} {la : Array Slot}
    (hg : G.1 ≤ s.heap.size) (S : bc_St G M h k ls s T.heap locs' la) (X : Stand p l e R s m args below meth c T locs k n) : T.heap.size = G.1 + h.1.1 := by
  have h1 := X.heapSize
  have h2 := S.2.2.1.1
  have h3 := S.1
  rcases Nat.eq_zero_or_pos h.1.1 with h0 | h0
  · omega
  · have h4 := (S.2.1 (h.1.1 - 1) _ (bc_wl_get (by omega))).lt
    have h5 : G.1 + (h.1.1 - 1) < T.heap.size := h4
    omega
section BCROWS
variable {G : BcG} {M : BcM} {KQ : BcK} {h : BcH} {k n pc : Nat} {ls ls' : List (Option Value)} {st : List Value} {x y : Int32}
theorem go_less (hl : bc_le ls ls') (kk : BGo G M KQ h k n pc ls' st) : BGo G M KQ h k n pc ls st := fun p l e s m args below meth c Q q C H locs la S => kk p l e s m args below meth c Q q C H locs la ⟨S.1, S.2.1, S.2.2.1, S.2.2.2.1.less hl, hl.1.trans S.2.2.2.2⟩
/-- the heap may be told otherwise, where nobody can see it -/
theorem go_eqv {h2 : BcH} (hn : h2.1.1 = h.1.1) (he : ∀ a, a < h.1.1 → bc_ce G (h2.1.2 a) (h2.2.1 a) (h2.2.2 a) = bc_ce G (h.1.2 a) (h.2.1 a) (h.2.2 a)) (kk : BGo G M KQ h2 k n pc ls st) : BGo G M KQ h k n pc ls st := by
  have e : bc_wl G h2 = bc_wl G h := by
    apply List.ext_getElem?
    intro i
    by_cases hi : i < h.1.1
    · rw [bc_wl_get hi, bc_wl_get (by rw [hn]; exact hi), he i hi]
    · rw [List.getElem?_eq_none (by rw [bc_wl_len, hn]; omega), List.getElem?_eq_none (by rw [bc_wl_len]; omega)]
  exact fun p l e' s m args below meth c Q q C H locs la S => kk p l e' s m args below meth c Q q C H locs la ⟨by rw [hn]; exact S.1, by rw [e]; exact S.2.1, S.2.2⟩
theorem go_iconst (q : Nat) {z : Int} {v : Int32} (hd : decode M.2.1 pc = .ok (.iconst z, 1)) (e : pc + 1 = q) (hv : Int32.ofInt z = v) (kk : BGo G M KQ h k n q ls (.int v :: st)) : BGo G M KQ h k n pc ls st := by
  subst e
  exact fun p l e s m args below meth c Q q C H locs la S => lv_iconst C.1 C.2.1 hd hv (kk p l e s m args below meth c Q q C H locs la S)
theorem go_bipush (q : Nat) {z : Int} {v : Int32} (hd : decode M.2.1 pc = .ok (.bipush z, 2)) (e : pc + 2 = q) (hv : (Int8.ofInt z).toInt32 = v) (kk : BGo G M KQ h k n q ls (.int v :: st)) : BGo G M KQ h k n pc ls st := by
  subst e
  exact fun p l e s m args below meth c Q q C H locs la S => lv_bipush C.1 C.2.1 hd hv (kk p l e s m args below meth c Q q C H locs la S)
theorem go_sipush (q : Nat) {z : Int} {v : Int32} (hd : decode M.2.1 pc = .ok (.sipush z, 3)) (e : pc + 3 = q) (hv : (Int16.ofInt z).toInt32 = v) (kk : BGo G M KQ h k n q ls (.int v :: st)) : BGo G M KQ h k n pc ls st := by
  subst e
  exact fun p l e s m args below meth c Q q C H locs la S => lv_sipush C.1 C.2.1 hd hv (kk p l e s m args below meth c Q q C H locs la S)
theorem go_iload_n (q : Nat) {f : Fin 4} {i : Nat} (hd : decode M.2.1 pc = .ok (.iload_n f, 1)) (e : pc + 1 = q) (hi : (f : Nat) = i) (hl : ls[i]? = some (some (.int x))) (kk : BGo G M KQ h k n q ls (.int x :: st)) : BGo G M KQ h k n pc ls st := by
  subst e
  exact fun p l e s m args below meth c Q q C H locs la S => lv_iload_n C.1 C.2.1 hd hi (S.2.2.2.1.get hl) (kk p l e s m args below meth c Q q C H locs la S)
theorem go_iload (q : Nat) {i : Nat} (hd : decode M.2.1 pc = .ok (.iload i, 2)) (e : pc + 2 = q) (hl : ls[i]? = some (some (.int x))) (kk : BGo G M KQ h k n q ls (.int x :: st)) : BGo G M KQ h k n pc ls st := by
  subst e
  exact fun p l e s m args below meth c Q q C H locs la S => lv_iload C.1 C.2.1 hd (S.2.2.2.1.get hl) (kk p l e s m args below meth c Q q C H locs la S)
theorem go_aload_n (q : Nat) {f : Fin 4} {i a : Nat} (hd : decode M.2.1 pc = .ok (.aload_n f, 1)) (e : pc + 1 = q) (hi : (f : Nat) = i) (hl : ls[i]? = some (some (.ref a))) (kk : BGo G M KQ h k n q ls (.ref a :: st)) : BGo G M KQ h k n pc ls st := by
  subst e
  exact fun p l e s m args below meth c Q q C H locs la S => lv_aload_n C.1 C.2.1 hd hi (S.2.2.2.1.get hl) (kk p l e s m args below meth c Q q C H locs la S)
theorem go_aload (q : Nat) {i a : Nat} (hd : decode M.2.1 pc = .ok (.aload i, 2)) (e : pc + 2 = q) (hl : ls[i]? = some (some (.ref a))) (kk : BGo G M KQ h k n q ls (.ref a :: st)) : BGo G M KQ h k n pc ls st := by
  subst e
  exact fun p l e s m args below meth c Q q C H locs la S => lv_aload C.1 C.2.1 hd (S.2.2.2.1.get hl) (kk p l e s m args below meth c Q q C H locs la S)
theorem go_aload_nN (q : Nat) {f : Fin 4} {i : Nat} (hd : decode M.2.1 pc = .ok (.aload_n f, 1)) (e : pc + 1 = q) (hi : (f : Nat) = i) (hl : ls[i]? = some (some .null)) (kk : BGo G M KQ h k n q ls (.null :: st)) : BGo G M KQ h k n pc ls st := by
  subst e
  exact fun p l e s m args below meth c Q q C H locs la S => lv_aload_nN C.1 C.2.1 hd hi (S.2.2.2.1.get hl) (kk p l e s m args below meth c Q q C H locs la S)
theorem go_aloadN (q : Nat) {i : Nat} (hd : decode M.2.1 pc = .ok (.aload i, 2)) (e : pc + 2 = q) (hl : ls[i]? = some (some .null)) (kk : BGo G M KQ h k n q ls (.null :: st)) : BGo G M KQ h k n pc ls st := by
  subst e
  exact fun p l e s m args below meth c Q q C H locs la S => lv_aloadN C.1 C.2.1 hd (S.2.2.2.1.get hl) (kk p l e s m args below meth c Q q C H locs la S)
theorem go_istore_n (q : Nat) {f : Fin 4} {i : Nat} (hd : decode M.2.1 pc = .ok (.istore_n f, 1)) (e : pc + 1 = q) (hi : (f : Nat) = i) (hb : i < M.2.2.1) (hl : ls.set i (some (.int x)) = ls') (kk : BGo G M KQ h k n q ls' st) : BGo G M KQ h k n pc ls (.int x :: st) := by
  subst e
  exact fun p l e s m args below meth c Q q C H locs la S => lv_istore_n C.1 C.2.1 hd hi S.2.2.2.1.has (by rw [S.2.2.2.2]; exact hb) rfl (fun lb hlb => kk p l e s m args below meth c Q q C H locs lb ⟨S.1, S.2.1, S.2.2.1, S.2.2.2.1.put rfl hl hlb, by rw [← hl, List.length_set]; exact S.2.2.2.2⟩)
theorem go_istore (q : Nat) {i : Nat} (hd : decode M.2.1 pc = .ok (.istore i, 2)) (e : pc + 2 = q) (hb : i < M.2.2.1) (hl : ls.set i (some (.int x)) = ls') (kk : BGo G M KQ h k n q ls' st) : BGo G M KQ h k n pc ls (.int x :: st) := by
  subst e
  exact fun p l e s m args below meth c Q q C H locs la S => lv_istore C.1 C.2.1 hd S.2.2.2.1.has (by rw [S.2.2.2.2]; exact hb) rfl (fun lb hlb => kk p l e s m args below meth c Q q C H locs lb ⟨S.1, S.2.1, S.2.2.1, S.2.2.2.1.put rfl hl hlb, by rw [← hl, List.length_set]; exact S.2.2.2.2⟩)
theorem go_astore_n (q : Nat) {f : Fin 4} {i a : Nat} (hd : decode M.2.1 pc = .ok (.astore_n f, 1)) (e : pc + 1 = q) (hi : (f : Nat) = i) (hb : i < M.2.2.1) (hl : ls.set i (some (.ref a)) = ls') (kk : BGo G M KQ h k n q ls' st) : BGo G M KQ h k n pc ls (.ref a :: st) := by
  subst e
  exact fun p l e s m args below meth c Q q C H locs la S => lv_astore_n C.1 C.2.1 hd hi S.2.2.2.1.has (by rw [S.2.2.2.2]; exact hb) rfl (fun lb hlb => kk p l e s m args below meth c Q q C H locs lb ⟨S.1, S.2.1, S.2.2.1, S.2.2.2.1.put rfl hl hlb, by rw [← hl, List.length_set]; exact S.2.2.2.2⟩)
theorem go_astore (q : Nat) {i a : Nat} (hd : decode M.2.1 pc = .ok (.astore i, 2)) (e : pc + 2 = q) (hb : i < M.2.2.1) (hl : ls.set i (some (.ref a)) = ls') (kk : BGo G M KQ h k n q ls' st) : BGo G M KQ h k n pc ls (.ref a :: st) := by
  subst e
  exact fun p l e s m args below meth c Q q C H locs la S => lv_astore C.1 C.2.1 hd S.2.2.2.1.has (by rw [S.2.2.2.2]; exact hb) rfl (fun lb hlb => kk p l e s m args below meth c Q q C H locs lb ⟨S.1, S.2.1, S.2.2.1, S.2.2.2.1.put rfl hl hlb, by rw [← hl, List.length_set]; exact S.2.2.2.2⟩)
theorem go_astore_nN (q : Nat) {f : Fin 4} {i : Nat} (hd : decode M.2.1 pc = .ok (.astore_n f, 1)) (e : pc + 1 = q) (hi : (f : Nat) = i) (hb : i < M.2.2.1) (hl : ls.set i (some .null) = ls') (kk : BGo G M KQ h k n q ls' st) : BGo G M KQ h k n pc ls (.null :: st) := by
  subst e
  exact fun p l e s m args below meth c Q q C H locs la S => lv_astore_nN C.1 C.2.1 hd hi S.2.2.2.1.has (by rw [S.2.2.2.2]; exact hb) rfl (fun lb hlb => kk p l e s m args below meth c Q q C H locs lb ⟨S.1, S.2.1, S.2.2.1, S.2.2.2.1.put rfl hl hlb, by rw [← hl, List.length_set]; exact S.2.2.2.2⟩)
theorem go_astoreN (q : Nat) {i : Nat} (hd : decode M.2.1 pc = .ok (.astore i, 2)) (e : pc + 2 = q) (hb : i < M.2.2.1) (hl : ls.set i (some .null) = ls') (kk : BGo G M KQ h k n q ls' st) : BGo G M KQ h k n pc ls (.null :: st) := by
  subst e
  exact fun p l e s m args below meth c Q q C H locs la S => lv_astoreN C.1 C.2.1 hd S.2.2.2.1.has (by rw [S.2.2.2.2]; exact hb) rfl (fun lb hlb => kk p l e s m args below meth c Q q C H locs lb ⟨S.1, S.2.1, S.2.2.1, S.2.2.2.1.put rfl hl hlb, by rw [← hl, List.length_set]; exact S.2.2.2.2⟩)
theorem go_iinc (q : Nat) {i : Nat} {z : Int} {v : Int32} (hd : decode M.2.1 pc = .ok (.iinc i z, 3)) (e : pc + 3 = q) (hx : ls[i]? = some (some (.int x))) (hv : x + Int32.ofInt z = v) (hb : i < M.2.2.1) (hl : ls.set i (some (.int v)) = ls') (kk : BGo G M KQ h k n q ls' st) : BGo G M KQ h k n pc ls st := by
  subst e
  intro p l e s m args below meth c Q q C H locs la S
  obtain ⟨j, hj⟩ := List.getElem?_of_mem (bc_pr_mem hx)
  exact lv_iinc C.1 C.2.1 hd S.2.2.2.1.has hj hv (by rw [S.2.2.2.2]; exact hb) rfl (fun lb hlb => kk p l e s m args below meth c Q q C H locs lb ⟨S.1, S.2.1, S.2.2.1, S.2.2.2.1.put rfl hl hlb, by rw [← hl, List.length_set]; exact S.2.2.2.2⟩)
theorem go_iadd (q : Nat) (hd : decode M.2.1 pc = .ok (.iadd, 1)) (e : pc + 1 = q) (kk : BGo G M KQ h k n q ls (.int (x + y) :: st)) : BGo G M KQ h k n pc ls (.int y :: .int x :: st) := by
  subst e
  exact fun p l e s m args below meth c Q q C H locs la S => lv_iadd C.1 C.2.1 hd (kk p l e s m args below meth c Q q C H locs la S)
theorem go_isub (q : Nat) (hd : decode M.2.1 pc = .ok (.isub, 1)) (e : pc + 1 = q) (kk : BGo G M KQ h k n q ls (.int (x - y) :: st)) : BGo G M KQ h k n pc ls (.int y :: .int x :: st) := by
  subst e
  exact fun p l e s m args below meth c Q q C H locs la S => lv_isub C.1 C.2.1 hd (kk p l e s m args below meth c Q q C H locs la S)
theorem go_imul (q : Nat) (hd : decode M.2.1 pc = .ok (.imul, 1)) (e : pc + 1 = q) (kk : BGo G M KQ h k n q ls (.int (x * y) :: st)) : BGo G M KQ h k n pc ls (.int y :: .int x :: st) := by
  subst e
  exact fun p l e s m args below meth c Q q C H locs la S => lv_imul C.1 C.2.1 hd (kk p l e s m args below meth c Q q C H locs la S)
theorem go_iand (q : Nat) (hd : decode M.2.1 pc = .ok (.iand, 1)) (e : pc + 1 = q) (kk : BGo G M KQ h k n q ls (.int (x &&& y) :: st)) : BGo G M KQ h k n pc ls (.int y :: .int x :: st) := by
  subst e
  exact fun p l e s m args below meth c Q q C H locs la S => lv_iand C.1 C.2.1 hd (kk p l e s m args below meth c Q q C H locs la S)
theorem go_ior (q : Nat) (hd : decode M.2.1 pc = .ok (.ior, 1)) (e : pc + 1 = q) (kk : BGo G M KQ h k n q ls (.int (x ||| y) :: st)) : BGo G M KQ h k n pc ls (.int y :: .int x :: st) := by
  subst e
  exact fun p l e s m args below meth c Q q C H locs la S => lv_ior C.1 C.2.1 hd (kk p l e s m args below meth c Q q C H locs la S)
theorem go_ixor (q : Nat) (hd : decode M.2.1 pc = .ok (.ixor, 1)) (e : pc + 1 = q) (kk : BGo G M KQ h k n q ls (.int (x ^^^ y) :: st)) : BGo G M KQ h k n pc ls (.int y :: .int x :: st) := by
  subst e
  exact fun p l e s m args below meth c Q q C H locs la S => lv_ixor C.1 C.2.1 hd (kk p l e s m args below meth c Q q C H locs la S)
theorem go_ishl (q : Nat) (hd : decode M.2.1 pc = .ok (.ishl, 1)) (e : pc + 1 = q) (kk : BGo G M KQ h k n q ls (.int (x <<< (y &&& 31)) :: st)) : BGo G M KQ h k n pc ls (.int y :: .int x :: st) := by
  subst e
  exact fun p l e s m args below meth c Q q C H locs la S => lv_ishl C.1 C.2.1 hd (kk p l e s m args below meth c Q q C H locs la S)
theorem go_ishr (q : Nat) (hd : decode M.2.1 pc = .ok (.ishr, 1)) (e : pc + 1 = q) (kk : BGo G M KQ h k n q ls (.int (x >>> (y &&& 31)) :: st)) : BGo G M KQ h k n pc ls (.int y :: .int x :: st) := by
  subst e
  exact fun p l e s m args below meth c Q q C H locs la S => lv_ishr C.1 C.2.1 hd (kk p l e s m args below meth c Q q C H locs la S)
theorem go_idiv (q : Nat) (hd : decode M.2.1 pc = .ok (.idiv, 1)) (e : pc + 1 = q) (hy : ¬ y = 0) (kk : BGo G M KQ h k n q ls (.int (x / y) :: st)) : BGo G M KQ h k n pc ls (.int y :: .int x :: st) := by
  subst e
  exact fun p l e s m args below meth c Q q C H locs la S => lv_idiv C.1 C.2.1 hd hy (kk p l e s m args below meth c Q q C H locs la S)
theorem go_irem (q : Nat) (hd : decode M.2.1 pc = .ok (.irem, 1)) (e : pc + 1 = q) (hy : ¬ y = 0) (kk : BGo G M KQ h k n q ls (.int (x - x / y * y) :: st)) : BGo G M KQ h k n pc ls (.int y :: .int x :: st) := by
  subst e
  exact fun p l e s m args below meth c Q q C H locs la S => lv_irem C.1 C.2.1 hd hy (kk p l e s m args below meth c Q q C H locs la S)
theorem go_iushr (q : Nat) {v : Int32} (hd : decode M.2.1 pc = .ok (.iushr, 1)) (e : pc + 1 = q) (hv : (x.toUInt32 >>> (y.toUInt32 &&& Int32.toUInt32 31)).toInt32 = v) (kk : BGo G M KQ h k n q ls (.int v :: st)) : BGo G M KQ h k n pc ls (.int y :: .int x :: st) := by
  subst e
  exact fun p l e s m args below meth c Q q C H locs la S => lv_iushr C.1 C.2.1 hd hv (kk p l e s m args below meth c Q q C H locs la S)
theorem go_ineg (q : Nat) (hd : decode M.2.1 pc = .ok (.ineg, 1)) (e : pc + 1 = q) (kk : BGo G M KQ h k n q ls (.int (-x) :: st)) : BGo G M KQ h k n pc ls (.int x :: st) := by
  subst e
  exact fun p l e s m args below meth c Q q C H locs la S => lv_ineg C.1 C.2.1 hd (kk p l e s m args below meth c Q q C H locs la S)
theorem go_i2c (q : Nat) {v : Int32} (hd : decode M.2.1 pc = .ok (.i2c, 1)) (e : pc + 1 = q) (hv : (x.toUInt32 % 65536).toInt32 = v) (kk : BGo G M KQ h k n q ls (.int v :: st)) : BGo G M KQ h k n pc ls (.int x :: st) := by
  subst e
  exact fun p l e s m args below meth c Q q C H locs la S => lv_i2c C.1 C.2.1 hd hv (kk p l e s m args below meth c Q q C H locs la S)
theorem go_dup (q : Nat) {v : Value} (hd : decode M.2.1 pc = .ok (.dup, 1)) (e : pc + 1 = q) (hv : v.category = 1) (kk : BGo G M KQ h k n q ls (v :: v :: st)) : BGo G M KQ h k n pc ls (v :: st) := by
  subst e
  exact fun p l e s m args below meth c Q q C H locs la S => lv_dup C.1 C.2.1 hd hv (kk p l e s m args below meth c Q q C H locs la S)
theorem go_dup2 (q : Nat) {v w : Value} (hd : decode M.2.1 pc = .ok (.dup2, 1)) (e : pc + 1 = q) (hv : v.category = 1) (hw : w.category = 1) (kk : BGo G M KQ h k n q ls (v :: w :: v :: w :: st)) : BGo G M KQ h k n pc ls (v :: w :: st) := by
  subst e
  exact fun p l e s m args below meth c Q q C H locs la S => lv_dup2_11 C.1 C.2.1 hd hv hw (kk p l e s m args below meth c Q q C H locs la S)
theorem go_pop (q : Nat) {v : Value} (hd : decode M.2.1 pc = .ok (.pop, 1)) (e : pc + 1 = q) (hv : v.category = 1) (kk : BGo G M KQ h k n q ls st) : BGo G M KQ h k n pc ls (v :: st) := by
  subst e
  exact fun p l e s m args below meth c Q q C H locs la S => lv_pop C.1 C.2.1 hd hv (kk p l e s m args below meth c Q q C H locs la S)
theorem go_null (q : Nat) (hd : decode M.2.1 pc = .ok (.aconst_null, 1)) (e : pc + 1 = q) (kk : BGo G M KQ h k n q ls (.null :: st)) : BGo G M KQ h k n pc ls st := by
  subst e
  exact fun p l e s m args below meth c Q q C H locs la S => lv_null C.1 C.2.1 hd (kk p l e s m args below meth c Q q C H locs la S)
theorem go_goto (tgt : Nat) {off : Int} (hd : decode M.2.1 pc = .ok (.goto off, 3)) (ht : (pc : Int) + off = (tgt : Int)) (kk : BGo G M KQ h k n tgt ls st) : BGo G M KQ h k n pc ls st :=
  fun p l e s m args below meth c Q q C H locs la S => lv_goto C.1 C.2.1 hd ht (kk p l e s m args below meth c Q q C H locs la S)
theorem go_ldc_w (q : Nat) {idx : Nat} {v : Int32} (hd : decode M.2.1 pc = .ok (.ldc_w idx, 3)) (e : pc + 3 = q) (hw : Cond.constant M.1.cls idx v ∈ lwG) (kk : BGo G M KQ h k n q ls (.int v :: st)) : BGo G M KQ h k n pc ls st := by
  subst e
  exact fun p l e s m args below meth c Q q C H locs la S => lv_ldcw C.1 C.2.1 C.2.2.2.1 (C.2.2.2.2.1 _ hw) hd (kk p l e s m args below meth c Q q C H locs la S)
theorem go_ifnull (q : Nat) {a : Nat} {off : Int} (hd : decode M.2.1 pc = .ok (.ifnull off, 3)) (e : pc + 3 = q) (kk : BGo G M KQ h k n q ls st) : BGo G M KQ h k n pc ls (.ref a :: st) := by
  subst e
  exact fun p l e s m args below meth c Q q C H locs la S => lv_ifnull C.1 C.2.1 hd (kk p l e s m args below meth c Q q C H locs la S)
theorem go_ifnullN (tgt : Nat) {off : Int} (hd : decode M.2.1 pc = .ok (.ifnull off, 3)) (ht : (pc : Int) + off = (tgt : Int)) (kk : BGo G M KQ h k n tgt ls st) : BGo G M KQ h k n pc ls (.null :: st) :=
  fun p l e s m args below meth c Q q C H locs la S => lv_ifnullN C.1 C.2.1 hd ht (kk p l e s m args below meth c Q q C H locs la S)
theorem go_ifnonnull (tgt : Nat) {a : Nat} {off : Int} (hd : decode M.2.1 pc = .ok (.ifnonnull off, 3)) (ht : (pc : Int) + off = (tgt : Int)) (kk : BGo G M KQ h k n tgt ls st) : BGo G M KQ h k n pc ls (.ref a :: st) :=
  fun p l e s m args below meth c Q q C H locs la S => lv_ifnonnull C.1 C.2.1 hd ht (kk p l e s m args below meth c Q q C H locs la S)
theorem go_ifnonnullN (q : Nat) {off : Int} (hd : decode M.2.1 pc = .ok (.ifnonnull off, 3)) (e : pc + 3 = q) (kk : BGo G M KQ h k n q ls st) : BGo G M KQ h k n pc ls (.null :: st) := by
  subst e
  exact fun p l e s m args below meth c Q q C H locs la S => lv_ifnonnullN C.1 C.2.1 hd (kk p l e s m args below meth c Q q C H locs la S)
theorem go_if_eq (tgt q : Nat) {off : Int} (hd : decode M.2.1 pc = .ok (.ifCond .eq off, 3)) (ht : (pc : Int) + off = (tgt : Int)) (e : pc + 3 = q) (kt : x = 0 → BGo G M KQ h k n tgt ls st) (kf : ¬ x = 0 → BGo G M KQ h k n q ls st) : BGo G M KQ h k n pc ls (.int x :: st) := by
  subst e
  exact fun p l e s m args below meth c Q q C H locs la S => lv_if_eq C.1 C.2.1 hd ht (fun z => kt z p l e s m args below meth c Q q C H locs la S) (fun z => kf z p l e s m args below meth c Q q C H locs la S)
theorem go_icmp_eq (tgt q : Nat) {off : Int} (hd : decode M.2.1 pc = .ok (.if_icmp .eq off, 3)) (ht : (pc : Int) + off = (tgt : Int)) (e : pc + 3 = q) (kt : x = y → BGo G M KQ h k n tgt ls st) (kf : ¬ x = y → BGo G M KQ h k n q ls st) : BGo G M KQ h k n pc ls (.int y :: .int x :: st) := by
  subst e
  exact fun p l e s m args below meth c Q q C H locs la S => lv_icmp_eq C.1 C.2.1 hd ht (fun z => kt z p l e s m args below meth c Q q C H locs la S) (fun z => kf z p l e s m args below meth c Q q C H locs la S)
theorem go_if_ne (tgt q : Nat) {off : Int} (hd : decode M.2.1 pc = .ok (.ifCond .ne off, 3)) (ht : (pc : Int) + off = (tgt : Int)) (e : pc + 3 = q) (kt : ¬ x = 0 → BGo G M KQ h k n tgt ls st) (kf : x = 0 → BGo G M KQ h k n q ls st) : BGo G M KQ h k n pc ls (.int x :: st) := by
  subst e
  exact fun p l e s m args below meth c Q q C H locs la S => lv_if_ne C.1 C.2.1 hd ht (fun z => kt z p l e s m args below meth c Q q C H locs la S) (fun z => kf z p l e s m args below meth c Q q C H locs la S)
theorem go_icmp_ne (tgt q : Nat) {off : Int} (hd : decode M.2.1 pc = .ok (.if_icmp .ne off, 3)) (ht : (pc : Int) + off = (tgt : Int)) (e : pc + 3 = q) (kt : ¬ x = y → BGo G M KQ h k n tgt ls st) (kf : x = y → BGo G M KQ h k n q ls st) : BGo G M KQ h k n pc ls (.int y :: .int x :: st) := by
  subst e
  exact fun p l e s m args below meth c Q q C H locs la S => lv_icmp_ne C.1 C.2.1 hd ht (fun z => kt z p l e s m args below meth c Q q C H locs la S) (fun z => kf z p l e s m args below meth c Q q C H locs la S)
theorem go_if_lt (tgt q : Nat) {off : Int} (hd : decode M.2.1 pc = .ok (.ifCond .lt off, 3)) (ht : (pc : Int) + off = (tgt : Int)) (e : pc + 3 = q) (kt : x < 0 → BGo G M KQ h k n tgt ls st) (kf : ¬ x < 0 → BGo G M KQ h k n q ls st) : BGo G M KQ h k n pc ls (.int x :: st) := by
  subst e
  exact fun p l e s m args below meth c Q q C H locs la S => lv_if_lt C.1 C.2.1 hd ht (fun z => kt z p l e s m args below meth c Q q C H locs la S) (fun z => kf z p l e s m args below meth c Q q C H locs la S)
theorem go_icmp_lt (tgt q : Nat) {off : Int} (hd : decode M.2.1 pc = .ok (.if_icmp .lt off, 3)) (ht : (pc : Int) + off = (tgt : Int)) (e : pc + 3 = q) (kt : x < y → BGo G M KQ h k n tgt ls st) (kf : ¬ x < y → BGo G M KQ h k n q ls st) : BGo G M KQ h k n pc ls (.int y :: .int x :: st) := by
  subst e
  exact fun p l e s m args below meth c Q q C H locs la S => lv_icmp_lt C.1 C.2.1 hd ht (fun z => kt z p l e s m args below meth c Q q C H locs la S) (fun z => kf z p l e s m args below meth c Q q C H locs la S)
theorem go_if_ge (tgt q : Nat) {off : Int} (hd : decode M.2.1 pc = .ok (.ifCond .ge off, 3)) (ht : (pc : Int) + off = (tgt : Int)) (e : pc + 3 = q) (kt : 0 ≤ x → BGo G M KQ h k n tgt ls st) (kf : ¬ 0 ≤ x → BGo G M KQ h k n q ls st) : BGo G M KQ h k n pc ls (.int x :: st) := by
  subst e
  exact fun p l e s m args below meth c Q q C H locs la S => lv_if_ge C.1 C.2.1 hd ht (fun z => kt z p l e s m args below meth c Q q C H locs la S) (fun z => kf z p l e s m args below meth c Q q C H locs la S)
theorem go_icmp_ge (tgt q : Nat) {off : Int} (hd : decode M.2.1 pc = .ok (.if_icmp .ge off, 3)) (ht : (pc : Int) + off = (tgt : Int)) (e : pc + 3 = q) (kt : y ≤ x → BGo G M KQ h k n tgt ls st) (kf : ¬ y ≤ x → BGo G M KQ h k n q ls st) : BGo G M KQ h k n pc ls (.int y :: .int x :: st) := by
  subst e
  exact fun p l e s m args below meth c Q q C H locs la S => lv_icmp_ge C.1 C.2.1 hd ht (fun z => kt z p l e s m args below meth c Q q C H locs la S) (fun z => kf z p l e s m args below meth c Q q C H locs la S)
theorem go_if_gt (tgt q : Nat) {off : Int} (hd : decode M.2.1 pc = .ok (.ifCond .gt off, 3)) (ht : (pc : Int) + off = (tgt : Int)) (e : pc + 3 = q) (kt : 0 < x → BGo G M KQ h k n tgt ls st) (kf : ¬ 0 < x → BGo G M KQ h k n q ls st) : BGo G M KQ h k n pc ls (.int x :: st) := by
  subst e
  exact fun p l e s m args below meth c Q q C H locs la S => lv_if_gt C.1 C.2.1 hd ht (fun z => kt z p l e s m args below meth c Q q C H locs la S) (fun z => kf z p l e s m args below meth c Q q C H locs la S)
theorem go_icmp_gt (tgt q : Nat) {off : Int} (hd : decode M.2.1 pc = .ok (.if_icmp .gt off, 3)) (ht : (pc : Int) + off = (tgt : Int)) (e : pc + 3 = q) (kt : y < x → BGo G M KQ h k n tgt ls st) (kf : ¬ y < x → BGo G M KQ h k n q ls st) : BGo G M KQ h k n pc ls (.int y :: .int x :: st) := by
  subst e
  exact fun p l e s m args below meth c Q q C H locs la S => lv_icmp_gt C.1 C.2.1 hd ht (fun z => kt z p l e s m args below meth c Q q C H locs la S) (fun z => kf z p l e s m args below meth c Q q C H locs la S)
theorem go_if_le (tgt q : Nat) {off : Int} (hd : decode M.2.1 pc = .ok (.ifCond .le off, 3)) (ht : (pc : Int) + off = (tgt : Int)) (e : pc + 3 = q) (kt : x ≤ 0 → BGo G M KQ h k n tgt ls st) (kf : ¬ x ≤ 0 → BGo G M KQ h k n q ls st) : BGo G M KQ h k n pc ls (.int x :: st) := by
  subst e
  exact fun p l e s m args below meth c Q q C H locs la S => lv_if_le C.1 C.2.1 hd ht (fun z => kt z p l e s m args below meth c Q q C H locs la S) (fun z => kf z p l e s m args below meth c Q q C H locs la S)
theorem go_icmp_le (tgt q : Nat) {off : Int} (hd : decode M.2.1 pc = .ok (.if_icmp .le off, 3)) (ht : (pc : Int) + off = (tgt : Int)) (e : pc + 3 = q) (kt : x ≤ y → BGo G M KQ h k n tgt ls st) (kf : ¬ x ≤ y → BGo G M KQ h k n q ls st) : BGo G M KQ h k n pc ls (.int y :: .int x :: st) := by
  subst e
  exact fun p l e s m args below meth c Q q C H locs la S => lv_icmp_le C.1 C.2.1 hd ht (fun z => kt z p l e s m args below meth c Q q C H locs la S) (fun z => kf z p l e s m args below meth c Q q C H locs la S)
theorem go_tabIn (tgt : Nat) {dflt lo hi : Int} {offs : Array Int} {len : Nat} {off : Int} (hd : decode M.2.1 pc = .ok (.tableswitch dflt lo hi offs, len)) (h1 : ¬ x.toInt < lo) (h2 : ¬ hi < x.toInt) (ho : offs[(x.toInt - lo).toNat]? = some off) (ht : (pc : Int) + off = (tgt : Int)) (kk : BGo G M KQ h k n tgt ls st) : BGo G M KQ h k n pc ls (.int x :: st) :=
  fun p l e s m args below meth c Q q C H locs la S => lv_tableIn C.1 C.2.1 hd h1 h2 ho ht (kk p l e s m args below meth c Q q C H locs la S)
theorem go_tabOut (tgt : Nat) {dflt lo hi : Int} {offs : Array Int} {len : Nat} (hd : decode M.2.1 pc = .ok (.tableswitch dflt lo hi offs, len)) (h1 : x.toInt < lo ∨ hi < x.toInt) (ht : (pc : Int) + dflt = (tgt : Int)) (kk : BGo G M KQ h k n tgt ls st) : BGo G M KQ h k n pc ls (.int x :: st) :=
  fun p l e s m args below meth c Q q C H locs la S => lv_tableOut C.1 C.2.1 hd h1 ht (kk p l e s m args below meth c Q q C H locs la S)
theorem go_lookup (tgt : Nat) {dflt : Int} {ps : Array (Int × Int)} {len : Nat} {off : Int} (hd : decode M.2.1 pc = .ok (.lookupswitch dflt ps, len)) (hp : (ps.toList.zip (ps.toList.drop 1)).all (fun (a, next) => a.1 < next.1) = true) (ho : Op.lookupswitch.offset ps.toList dflt x.toInt = off) (ht : (pc : Int) + off = (tgt : Int)) (kk : BGo G M KQ h k n tgt ls st) : BGo G M KQ h k n pc ls (.int x :: st) :=
  fun p l e s m args below meth c Q q C H locs la S => lv_lookup C.1 C.2.1 hd hp ho ht (kk p l e s m args below meth c Q q C H locs la S)
end BCROWS
end
section
/-! CLASSES AND FIELDS -/
def bc_C (ci : Nat) (C : String) (T : u_T) (N : Nat) (ty : Nat → FieldType) : Prop :=
  bc_cl[ci]? = some (C, T, N) ∧ (∀ w ∈ u_ws C T N, w ∈ lwG) ∧ N = bc_nF ci ∧ ci < 20 ∧ (∀ k, k < N → parseFieldDescriptor (T k).2.2.1 = some (ty k)) ∧ (∀ a, a < N → ∀ b, b < N → a ≠ b → (T a).2.1 ≠ (T b).2.1) ∧ (∀ j, j < N → defaultValue (ty j) = if bc_iR ci j = true then .null else .int 0)
def bc_F (own : String) (idx ci j : Nat) (t : FieldType) (fin : Bool) : Prop :=
  ∃ (C : String) (T : u_T) (N : Nat) (ty : Nat → FieldType), bc_C ci C T N ty ∧ j < N ∧ Cond.fieldLink own idx (T j).1 (T j).2.1 (T j).2.2.1 ∈ lwG ∧ ty j = t ∧ (T j).2.2.2 = fin ∧ (T j).1 = C
/-- an object of the class ci; an array of the kind t and of length len -/
def bc_o (h : BcH) (k ci : Nat) : Prop := k < h.1.1 ∧ (h.1.2 k).1 = ci
def bc_a (h : BcH) (k t len : Nat) : Prop := k < h.1.1 ∧ h.1.2 k = (t, len)
theorem bc_fs_len (G : BcG) (c : Nat) (r : Nat → Option Nat) (f : Nat → Int32) : (bc_fs G c r f).length = bc_nF c := by simp [bc_fs]
theorem bc_fs_get {G : BcG} {c j : Nat} (r : Nat → Option Nat) (f : Nat → Int32) (hj : j < bc_nF c) : (bc_fs G c r f)[j]? = some (bc_fv G c r f j) := by simp [bc_fs, hj]
theorem bc_fs_put {G : BcG} {c j : Nat} {r r' : Nat → Option Nat} {f f' : Nat → Int32} (hj : j < bc_nF c) (hr : ∀ i, i ≠ j → r' i = r i) (hf : ∀ i, i ≠ j → f' i = f i) : (bc_fs G c r f).set j (bc_fv G c r' f' j) = bc_fs G c r' f' := by
  apply List.ext_getElem?
  intro i
  by_cases hi : i < bc_nF c
  · by_cases e : i = j
    · subst e
      rw [List.getElem?_set_self (by rw [bc_fs_len]; exact hi), bc_fs_get r' f' hi]
    · rw [List.getElem?_set_ne (Ne.symm e), bc_fs_get r f hi, bc_fs_get r' f' hi]
      unfold bc_fv
      rw [hr i e, hf i e]
  · rw [List.getElem?_eq_none (by rw [List.length_set, bc_fs_len]; omega), List.getElem?_eq_none (by rw [bc_fs_len]; omega)]
theorem bc_o_at {G : BcG} {h : BcH} {k ci : Nat} (hk : bc_o h k ci) (hc : ci < 20) : (bc_wl G h)[k]? = some (G.1 + k, .inr (ci, bc_fs G ci (h.2.1 k) (h.2.2 k))) := by
  rw [bc_wl_get hk.1, bc_ce, hk.2, if_pos hc]
theorem bc_a_at {G : BcG} {h : BcH} {k t len : Nat} (hk : bc_a h k t len) (h1 : 20 ≤ t) (h2 : t < 22) : (bc_wl G h)[k]? = some (G.1 + k, .inl (G.2.1 (t - 20), len, .inl (h.2.2 k))) := by
  rw [bc_wl_get hk.1, bc_ce, hk.2, if_neg (by show ¬ t < 20; omega), if_pos h2]
theorem bc_q_at {G : BcG} {h : BcH} {k t len : Nat} (hk : bc_a h k t len) (h2 : 22 ≤ t) : (bc_wl G h)[k]? = some (G.1 + k, .inl (G.2.1 (t - 20), len, .inr (.inr (.inr (.inr (fun j => (h.2.1 k j).map (G.1 + ·))))))) := by
  rw [bc_wl_get hk.1, bc_ce, hk.2, if_neg (by show ¬ t < 20; omega), if_neg (by show ¬ t < 22; omega)]
theorem bc_si_set {G : BcG} {h : BcH} {k ci j : Nat} {v : Int32} (hk : bc_o h k ci) (hc : ci < 20) (hi : bc_iR ci j = false) (hj : j < bc_nF ci) : (bc_wl G h).set k (G.1 + k, .inr (ci, (bc_fs G ci (h.2.1 k) (h.2.2 k)).set j (.int v))) = bc_wl G (bc_si h k j v) := by
  have e : bc_fv G ci (h.2.1 k) (upd (h.2.2 k) j v) j = .int v := by simp [bc_fv, hi, upd]
  rw [← e, bc_fs_put hj (fun i _ => rfl) (fun i hne => by simp [upd, hne])]
  have e2 : (Sum.inr (ci, bc_fs G ci (h.2.1 k) (upd (h.2.2 k) j v)) : va_E) = bc_ce G (h.1.2 k) (h.2.1 k) (upd (h.2.2 k) j v) := by rw [bc_ce, hk.2, if_pos hc]
  rw [e2, bc_wl_sa hk.1]; rfl
theorem bc_sr_set {G : BcG} {h : BcH} {k ci j kv : Nat} (hk : bc_o h k ci) (hc : ci < 20) (hi : bc_iR ci j = true) (hj : j < bc_nF ci) : (bc_wl G h).set k (G.1 + k, .inr (ci, (bc_fs G ci (h.2.1 k) (h.2.2 k)).set j (.ref (G.1 + kv)))) = bc_wl G (bc_sr h k j (some kv)) := by
  have e : bc_fv G ci (va_up (h.2.1 k) j (some kv)) (h.2.2 k) j = .ref (G.1 + kv) := by simp [bc_fv, hi, va_up, va_rf]
  rw [← e, bc_fs_put hj (fun i hne => by simp [va_up, hne]) (fun i _ => rfl)]
  have e2 : (Sum.inr (ci, bc_fs G ci (va_up (h.2.1 k) j (some kv)) (h.2.2 k)) : va_E) = bc_ce G (h.1.2 k) (va_up (h.2.1 k) j (some kv)) (h.2.2 k) := by rw [bc_ce, hk.2, if_pos hc]
  rw [e2, bc_wl_sr hk.1]
theorem bc_sa_set {G : BcG} {h : BcH} {k t len : Nat} (hk : bc_a h k t len) (h1 : 20 ≤ t) (h2 : t < 22) (f : Nat → Int32) : (bc_wl G h).set k (G.1 + k, .inl (G.2.1 (t - 20), len, .inl f)) = bc_wl G (bc_sa h k f) := by
  have e2 : (.inl (G.2.1 (t - 20), len, .inl f) : va_E) = bc_ce G (h.1.2 k) (h.2.1 k) f := by rw [bc_ce, hk.2, if_neg (by show ¬ t < 20; omega), if_pos h2]
  rw [e2, bc_wl_sa hk.1]
theorem bc_sq_set {G : BcG} {h : BcH} {k t len j kv : Nat} (hk : bc_a h k t len) (h2 : 22 ≤ t) : (bc_wl G h).set k (G.1 + k, .inl (G.2.1 (t - 20), len, .inr (.inr (.inr (.inr (va_up (fun j => (h.2.1 k j).map (G.1 + ·)) j (some (G.1 + kv)))))))) = bc_wl G (bc_sr h k j (some kv)) := by
  have e1 : va_up (fun j => (h.2.1 k j).map (G.1 + ·)) j (some (G.1 + kv)) = fun i => (va_up (h.2.1 k) j (some kv) i).map (G.1 + ·) := by
    funext i
    unfold va_up
    by_cases e : i = j
    · rw [if_pos e, if_pos e]; rfl
    · rw [if_neg e, if_neg e]
  have e2 : (.inl (G.2.1 (t - 20), len, .inr (.inr (.inr (.inr (fun i => (va_up (h.2.1 k) j (some kv) i).map (G.1 + ·)))))) : va_E) = bc_ce G (h.1.2 k) (va_up (h.2.1 k) j (some kv)) (h.2.2 k) := by rw [bc_ce, hk.2, if_neg (by show ¬ t < 20; omega), if_neg (by show ¬ t < 22; omega)]
  rw [e1, e2, bc_wl_sr hk.1]
/-- a new cell's address is the next one -/
theorem bc_next {G : BcG} {M : BcM} {h : BcH} {k n : Nat} {p : Program} {l : Launch} {e : Env} {R : Room} {s : State} {m : MethodId} {args : Array Value} {below : List Frame} {meth : Method} {c : Code} {T : State} {locs : List Loc} {q : Nat} {x : va_E} {cl : List vw_C}
    (hz : s.heap.size + k = G.1 + h.1.1) (hP : va_P G.2.2 cl (bc_wl G h ++ [(q, x)]) T.heap) (hD : va_D (bc_A G) (bc_wl G h ++ [(q, x)])) (X : Stand p l e R s m args below meth c T locs (k + 1) n) : q = G.1 + h.1.1 := by
  have hl : (bc_wl G h ++ [(q, x)])[h.1.1]? = some (q, x) := by
    rw [List.getElem?_append_right (by rw [bc_wl_len]; exact Nat.le_refl _), bc_wl_len, Nat.sub_self]; rfl
  have h1 := (hP h.1.1 _ hl).lt
  have h2 := X.heapSize
  have h3 : G.1 ≤ q := hD.2 h.1.1 _ hl
  have h4 : q < T.heap.size := h1
  rcases Nat.lt_or_ge q (G.1 + h.1.1) with h5 | h5
  · have hk : q - G.1 < h.1.1 := by omega
    have h6 : (bc_wl G h ++ [(q, x)])[q - G.1]? = some (G.1 + (q - G.1), bc_ce G (h.1.2 (q - G.1)) (h.2.1 (q - G.1)) (h.2.2 (q - G.1))) := by
      rw [List.getElem?_append_left (by rw [bc_wl_len]; exact hk), bc_wl_get hk]
    have h7 := hD.1 _ _ _ _ h6 hl (by show G.1 + (q - G.1) = q; omega)
    omega
  · omega
section BCHEAP
variable {G : BcG} {M : BcM} {KQ : BcK} {h : BcH} {k n pc : Nat} {ls ls' : List (Option Value)} {st : List Value} {x y : Int32}
theorem go_getI (q : Nat) {a idx ci j : Nat} {t : FieldType} {fin : Bool} (hd : decode M.2.1 pc = .ok (.getfield idx, 3)) (e : pc + 3 = q) (F : bc_F M.1.cls idx ci j t fin) (hi : bc_iR ci j = false) (ha : bc_o h a ci) (kk : BGo G M KQ h k n q ls (.int (h.2.2 a j) :: st)) : BGo G M KQ h k n pc ls (.ref (G.1 + a) :: st) := by
  subst e
  intro p l e s m args below meth c Q q C H locs la S
  obtain ⟨Cn, T, N, ty, ⟨hc, hin, hN, h20, hty, hnm, hdf⟩, hj, hlk, -, -, hC⟩ := F
  refine va_get (C := Cn) (T := T) (N := N) C.1 C.2.1 C.2.2.2.2.1 hin C.2.2.2.1 C.2.2.2.2.2.2.2.2.2.1 S.2.1 a (bc_o_at ha h20) hc j hj (C.2.2.2.2.1 _ hlk) (fun _ z => z) (v := .int (h.2.2 a j)) ?_ hd (kk p l e s m args below meth c Q q C H locs la S)
  rw [bc_fs_get _ _ (by rw [← hN]; exact hj), bc_fv, hi]; rfl
theorem go_getR (q : Nat) {a idx ci j a1 : Nat} {t : FieldType} {fin : Bool} (hd : decode M.2.1 pc = .ok (.getfield idx, 3)) (e : pc + 3 = q) (F : bc_F M.1.cls idx ci j t fin) (hi : bc_iR ci j = true) (ha : bc_o h a ci) (hr : h.2.1 a j = some a1) (kk : BGo G M KQ h k n q ls (.ref (G.1 + a1) :: st)) : BGo G M KQ h k n pc ls (.ref (G.1 + a) :: st) := by
  subst e
  intro p l e s m args below meth c Q q C H locs la S
  obtain ⟨Cn, T, N, ty, ⟨hc, hin, hN, h20, hty, hnm, hdf⟩, hj, hlk, -, -, hC⟩ := F
  refine va_get (C := Cn) (T := T) (N := N) C.1 C.2.1 C.2.2.2.2.1 hin C.2.2.2.1 C.2.2.2.2.2.2.2.2.2.1 S.2.1 a (bc_o_at ha h20) hc j hj (C.2.2.2.2.1 _ hlk) (fun _ z => z) (v := .ref (G.1 + a1)) ?_ hd (kk p l e s m args below meth c Q q C H locs la S)
  rw [bc_fs_get _ _ (by rw [← hN]; exact hj), bc_fv, hi, hr]; rfl
/-- an int field that isn't final -/
theorem go_putI (q : Nat) {a idx ci j : Nat} {t : FieldType} (hd : decode M.2.1 pc = .ok (.putfield idx, 3)) (e : pc + 3 = q) (F : bc_F M.1.cls idx ci j t false) (hi : bc_iR ci j = false) (ha : bc_o h a ci) (hn : narrow t (.int x) = .int x) (hf : fits t (.int x) = true) (kk : BGo G M KQ (bc_si h a j x) k n q ls st) : BGo G M KQ h k n pc ls (.int x :: .ref (G.1 + a) :: st) := by
  subst e
  intro p l e s m args below meth c Q q C H locs la S
  obtain ⟨Cn, T, N, ty, ⟨hc, hin, hN, h20, hty, hnm, hdf⟩, hj, hlk, htj, hfi, hC⟩ := F
  refine va_put (C := Cn) (T := T) (N := N) (ty := t) (v := .int x) C.1 C.2.1 C.2.2.2.2.1 hin ty hty hnm C.2.2.2.1 C.2.2.2.2.2.2.2.2.2.1 S.2.1 (bc_wl_D G h) S.2.2.1 a (bc_o_at ha h20) hc j hj (C.2.2.2.2.1 _ hlk) (fun _ z => z) hfi (by rw [hty j hj, htj]) hn hf (by rw [bc_fs_len, ← hN]; exact hj) hd (fun H1 locs1 hP hD hS => ?_)
  rw [bc_si_set ha h20 hi (by rw [← hN]; exact hj)] at hP
  exact kk p l e s m args below meth c Q q C H1 locs1 la ⟨S.1, hP, hS, S.2.2.2⟩
/-- a final field that holds a reference, in its constructor -/
theorem go_putF (q : Nat) {a idx ci j kv : Nat} {t : FieldType} (hd : decode M.2.1 pc = .ok (.putfield idx, 3)) (e : pc + 3 = q) (F : bc_F M.1.cls idx ci j t true) (hi : bc_iR ci j = true) (ha : bc_o h a ci) (hcls : (bc_cl[ci]?).map (fun r => r.1) = some M.1.cls) (hin2 : M.1.name = "<init>") (hn : narrow t (.ref (G.1 + kv)) = .ref (G.1 + kv)) (hf : fits t (.ref (G.1 + kv)) = true) (kk : BGo G M KQ (bc_sr h a j (some kv)) k n q ls st) : BGo G M KQ h k n pc ls (.ref (G.1 + kv) :: .ref (G.1 + a) :: st) := by
  subst e
  intro p l e s m args below meth c Q q C H locs la S
  obtain ⟨Cn, T, N, ty, ⟨hc, hin, hN, h20, hty, hnm, hdf⟩, hj, hlk, htj, hfi, hC⟩ := F
  have hCn : Cn = M.1.cls := by
    rw [hc] at hcls
    exact Option.some.inj hcls
  refine va_putF (C := Cn) (T := T) (N := N) (ty := t) (v := .ref (G.1 + kv)) C.1 C.2.1 C.2.2.2.2.1 hin ty hty hnm C.2.2.2.1 C.2.2.2.2.2.2.2.2.2.1 S.2.1 (bc_wl_D G h) S.2.2.1 a (bc_o_at ha h20) hc j hj (C.2.2.2.2.1 _ hlk) (fun _ z => z) hfi (by rw [C.2.2.2.2.2.2.2.1]; exact hin2) (by rw [hC, hCn]) (by rw [hty j hj, htj]) hn hf (by rw [bc_fs_len, ← hN]; exact hj) hd (fun H1 locs1 hP hD hS => ?_)
  rw [bc_sr_set ha h20 hi (by rw [← hN]; exact hj)] at hP
  exact kk p l e s m args below meth c Q q C H1 locs1 la ⟨S.1, hP, hS, S.2.2.2⟩
theorem go_iald (q : Nat) {a len : Nat} (hd : decode M.2.1 pc = .ok (.iaload, 1)) (e : pc + 1 = q) (ha : bc_a h a 20 len) (hin : vp_in x len) (kk : BGo G M KQ h k n q ls (.int (h.2.2 a x.toNatClampNeg) :: st)) : BGo G M KQ h k n pc ls (.int x :: .ref (G.1 + a) :: st) := by
  subst e
  exact fun p l e s m args below meth c Q q C H locs la S => va_iald C.1 C.2.1 C.2.2.2.2.2.2.2.2.2.1 S.2.1 a 0 (bc_a_at ha (by decide) (by decide)) rfl hin hd (kk p l e s m args below meth c Q q C H locs la S)
theorem go_cald (q : Nat) {a len : Nat} (hd : decode M.2.1 pc = .ok (.caload, 1)) (e : pc + 1 = q) (ha : bc_a h a 21 len) (hin : vp_in x len) (kk : BGo G M KQ h k n q ls (.int (h.2.2 a x.toNatClampNeg) :: st)) : BGo G M KQ h k n pc ls (.int x :: .ref (G.1 + a) :: st) := by
  subst e
  exact fun p l e s m args below meth c Q q C H locs la S => va_cald C.1 C.2.1 C.2.2.2.2.2.2.2.2.2.1 S.2.1 a 1 (bc_a_at ha (by decide) (by decide)) rfl hin hd (kk p l e s m args below meth c Q q C H locs la S)
theorem go_iast (q : Nat) {a len : Nat} (hd : decode M.2.1 pc = .ok (.iastore, 1)) (e : pc + 1 = q) (ha : bc_a h a 20 len) (hin : vp_in y len) (kk : BGo G M KQ (bc_si h a y.toNatClampNeg x) k n q ls st) : BGo G M KQ h k n pc ls (.int x :: .int y :: .ref (G.1 + a) :: st) := by
  subst e
  intro p l e s m args below meth c Q q C H locs la S
  refine va_iast C.1 C.2.1 C.2.2.2.2.2.2.2.2.2.1 S.2.1 (bc_wl_D G h) S.2.2.1 a 0 (bc_a_at ha (by decide) (by decide)) rfl hin hd (fun H1 locs1 hP hD hS => ?_)
  rw [bc_sa_set ha (by decide) (by decide)] at hP
  exact kk p l e s m args below meth c Q q C H1 locs1 la ⟨S.1, hP, hS, S.2.2.2⟩
theorem go_cast (q : Nat) {a len : Nat} (hd : decode M.2.1 pc = .ok (.castore, 1)) (e : pc + 1 = q) (ha : bc_a h a 21 len) (hin : vp_in y len) (kk : BGo G M KQ (bc_si h a y.toNatClampNeg (vp_nar .char x)) k n q ls st) : BGo G M KQ h k n pc ls (.int x :: .int y :: .ref (G.1 + a) :: st) := by
  subst e
  intro p l e s m args below meth c Q q C H locs la S
  refine va_cast C.1 C.2.1 C.2.2.2.2.2.2.2.2.2.1 S.2.1 (bc_wl_D G h) S.2.2.1 a 1 (bc_a_at ha (by decide) (by decide)) rfl hin hd (fun H1 locs1 hP hD hS => ?_)
  rw [bc_sa_set ha (by decide) (by decide)] at hP
  exact kk p l e s m args below meth c Q q C H1 locs1 la ⟨S.1, hP, hS, S.2.2.2⟩
theorem go_aald (q : Nat) {a len t a1 : Nat} {Cn : String} (hd : decode M.2.1 pc = .ok (.aaload, 1)) (e : pc + 1 = q) (ha : bc_a h a t len) (h2 : 22 ≤ t) (ht : (bc_ty G)[t - 20]? = some (G.2.1 (t - 20), .object Cn)) (hin : vp_in x len) (hr : h.2.1 a x.toNatClampNeg = some a1) (kk : BGo G M KQ h k n q ls (.ref (G.1 + a1) :: st)) : BGo G M KQ h k n pc ls (.int x :: .ref (G.1 + a) :: st) := by
  subst e
  intro p l e s m args below meth c Q q C H locs la S
  refine va_aldq C.1 C.2.1 C.2.2.2.2.2.2.2.2.2.1 S.2.1 a (t - 20) (bc_q_at ha h2) ht hin hd ?_
  have e3 : va_rf ((fun j => (h.2.1 a j).map (G.1 + ·)) x.toNatClampNeg) = .ref (G.1 + a1) := by
    show va_rf ((h.2.1 a x.toNatClampNeg).map (G.1 + ·)) = _
    rw [hr]; rfl
  rw [e3]
  exact kk p l e s m args below meth c Q q C H locs la S
theorem go_aast (q : Nat) {a len t kv cv : Nat} {r : vw_C} (hd : decode M.2.1 pc = .ok (.aastore, 1)) (e : pc + 1 = q) (ha : bc_a h a t len) (h2 : 22 ≤ t) (ht : (bc_ty G)[t - 20]? = some (G.2.1 (t - 20), .object r.1)) (hv : bc_o h kv cv) (hcv : cv < 20) (hr : bc_cl[cv]? = some r) (hin : vp_in y len) (kk : BGo G M KQ (bc_sr h a y.toNatClampNeg (some kv)) k n q ls st) : BGo G M KQ h k n pc ls (.ref (G.1 + kv) :: .int y :: .ref (G.1 + a) :: st) := by
  subst e
  intro p l e s m args below meth c Q q C H locs la S
  refine va_astq C.1 C.2.1 C.2.2.2.2.2.2.2.2.2.1 S.2.1 (bc_wl_D G h) S.2.2.1 a (t - 20) kv cv (bc_q_at ha h2) ht (bc_o_at hv hcv) hr hin hd (fun H1 locs1 hP hD hS => ?_)
  rw [bc_sq_set ha h2] at hP
  exact kk p l e s m args below meth c Q q C H1 locs1 la ⟨S.1, hP, hS, S.2.2.2⟩
theorem go_alen (q : Nat) {a len t : Nat} {v : Int32} (hd : decode M.2.1 pc = .ok (.arraylength, 1)) (e : pc + 1 = q) (ha : bc_a h a t len) (h1 : 20 ≤ t) (h2 : t < 28) (hv : Int32.ofNat len = v) (kk : BGo G M KQ h k n q ls (.int v :: st)) : BGo G M KQ h k n pc ls (.ref (G.1 + a) :: st) := by
  subst e
  intro p l e s m args below meth c Q q C H locs la S
  have ht : ∃ ty, (bc_ty G)[t - 20]? = some (G.2.1 (t - 20), ty) := by
    have : t = 20 ∨ t = 21 ∨ t = 22 ∨ t = 23 ∨ t = 24 ∨ t = 25 ∨ t = 26 ∨ t = 27 := by omega
    rcases this with rfl | rfl | rfl | rfl | rfl | rfl | rfl | rfl <;> exact ⟨_, rfl⟩
  obtain ⟨ty, ht⟩ := ht
  by_cases h3 : t < 22
  · exact va_alen C.1 C.2.1 C.2.2.2.2.2.2.2.2.2.1 S.2.1 a (t - 20) (bc_a_at ha h1 h3) ht hv hd (kk p l e s m args below meth c Q q C H locs la S)
  · exact va_alen C.1 C.2.1 C.2.2.2.2.2.2.2.2.2.1 S.2.1 a (t - 20) (bc_q_at ha (by omega)) ht hv hd (kk p l e s m args below meth c Q q C H locs la S)
theorem go_new (q : Nat) {idx ci : Nat} {Cn : String} {T : u_T} {N : Nat} {ty : Nat → FieldType} (hd : decode M.2.1 pc = .ok (.new idx, 3)) (e : pc + 3 = q) (K : bc_C ci Cn T N ty) (hcl : Cond.classLink M.1.cls idx Cn ∈ lwG) (hins : Cond.instantiable Cn N ∈ lwG) (hini : Cond.initialized Cn ∈ lwG) (hk : k + 1 ≤ M.2.2.2.2.2.2.1) (hn : n + N ≤ M.2.2.2.2.2.2.2) (kk : BGo G M KQ (bc_nw h (ci, 0)) (k + 1) (n + N) q ls (.ref (G.1 + h.1.1) :: st)) : BGo G M KQ h k n pc ls st := by
  subst e
  intro p l e s m args below meth c Q q C H locs la S
  obtain ⟨hc, hin, hN, h20, hty, hnm, hdf⟩ := K
  refine va_new (ci := ci) (fs := bc_fs G ci (fun _ => none) (fun _ => 0)) C.1 C.2.1 C.2.2.2.2.1 hin ty hty C.2.2.2.1 (C.2.2.2.2.1 _ hcl) (C.2.2.2.2.1 _ hins) (C.2.2.2.2.1 _ hini) C.2.2.2.2.2.2.2.2.2.1 S.2.1 (bc_wl_D G h) S.2.2.1 (fun q hq => Nat.le_trans C.2.2.2.2.2.2.2.2.1 hq) hc (fun j hj => ?_) hk hn hd (fun q1 H1 hP hD hS => ?_)
  · rw [hdf j hj]
    unfold vp_V
    rw [List.getD_eq_getElem?_getD, bc_fs_get _ _ (by rw [← hN]; exact hj)]
    by_cases hr : bc_iR ci j = true
    · rw [if_pos hr]; simp [bc_fv, hr, va_rf]
    · rw [if_neg hr]; simp [bc_fv, hr]
  · intro T1 hT X
    subst hT
    have e1 := bc_next (M := M) S.1 hP hD X
    subst e1
    have e2 : (Sum.inr (ci, bc_fs G ci (fun _ => none) (fun _ => 0)) : va_E) = bc_ce G (ci, 0) (fun _ => none) (fun _ => 0) := by rw [bc_ce, if_pos h20]
    rw [e2, bc_wl_nw] at hP
    exact kk p l e s m args below meth c Q q C T1.heap locs la ⟨by have := S.1; show s.heap.size + (k + 1) = G.1 + (h.1.1 + 1); omega, hP, hS, S.2.2.2⟩ T1 rfl X
theorem go_newA (q : Nat) {at0 : ArrayType} {t len : Nat} {ty : FieldType} (hd : decode M.2.1 pc = .ok (.newarray at0, 2)) (e : pc + 2 = q) (hty : newarray.typeOf at0 = ty) (ht : (t = 20 ∧ ty = .int) ∨ (t = 21 ∧ ty = .char)) (hw : Cond.arrayClass ty ∈ lwG) (hx : x = nI len) (hl : len < 100000) (hk : k + 1 ≤ M.2.2.2.2.2.2.1) (hn : n + len ≤ M.2.2.2.2.2.2.2) (kk : BGo G M KQ (bc_nw h (t, len)) (k + 1) (n + len) q ls (.ref (G.1 + h.1.1) :: st)) : BGo G M KQ h k n pc ls (.int x :: st) := by
  subst e
  intro p l e s m args below meth c Q q C H locs la S
  have hcb : len * componentBytes ty ≤ 536870912 := by
    rcases ht with ⟨-, rfl⟩ | ⟨-, rfl⟩
    · show len * 4 ≤ _; omega
    · show len * 2 ≤ _; omega
  refine va_newa (a0 := (len, .inl (fun _ => 0))) C.1 C.2.1 (by rw [hty]; exact C.2.2.2.2.1 _ hw) hty C.2.2.2.2.2.2.2.2.2.1 S.2.1 (bc_wl_D G h) S.2.2.1 (fun q hq => Nat.le_trans C.2.2.2.2.2.2.2.2.1 hq) (fun cA => ?_) (by rw [hx]; exact nI_pos (by omega)) (by rw [hx]; exact nI_clamp (by omega)) hcb hk hn hd (fun q1 cA H1 hK hP hD hS => ?_)
  · rcases ht with ⟨-, rfl⟩ | ⟨-, rfl⟩ <;> rfl
  · intro T1 hT X
    subst hT
    have e1 := bc_next (M := M) S.1 hP hD X
    subst e1
    have hnew : va_RA s cA ty := (hK.2 (bc_ty G).length _ (by rw [List.getElem?_append_right (Nat.le_refl _), Nat.sub_self]; rfl)).2
    have hold : (bc_ty G)[t - 20]? = some (G.2.1 (t - 20), ty) := by
      rcases ht with ⟨rfl, rfl⟩ | ⟨rfl, rfl⟩ <;> rfl
    have hol2 : va_RA s (G.2.1 (t - 20)) ty := (C.2.2.2.2.2.2.2.2.2.1.2 (t - 20) _ hold).2
    have e3 : cA = G.2.1 (t - 20) := by
      rcases ht with ⟨-, rfl⟩ | ⟨-, rfl⟩
      · exact Option.some.inj (Eq.trans (Eq.symm (show s.vm.findClass _ = some cA from hnew)) hol2)
      · exact Option.some.inj (Eq.trans (Eq.symm (show s.vm.findClass _ = some cA from hnew)) hol2)
    subst e3
    have e2 : (.inl (G.2.1 (t - 20), len, .inl (fun _ => 0)) : va_E) = bc_ce G (t, len) (fun _ => none) (fun _ => 0) := by
      rcases ht with ⟨rfl, -⟩ | ⟨rfl, -⟩ <;> rfl
    rw [e2, bc_wl_nw] at hP
    exact kk p l e s m args below meth c Q q C T1.heap locs la ⟨by have := S.1; show s.heap.size + (k + 1) = G.1 + (h.1.1 + 1); omega, hP, hS, S.2.2.2⟩ T1 rfl X
theorem go_newQ (q : Nat) {idx t len : Nat} {Cn : String} (hd : decode M.2.1 pc = .ok (.anewarray idx, 3)) (e : pc + 3 = q) (h2 : 22 ≤ t) (ht : (bc_ty G)[t - 20]? = some (G.2.1 (t - 20), .object Cn)) (hcl : Cond.classLink M.1.cls idx Cn ∈ lwG) (hao : Cn ∈ bc_ao) (hx : x = nI len) (hl : len < 100000) (hk : k + 1 ≤ M.2.2.2.2.2.2.1) (hn : n + len ≤ M.2.2.2.2.2.2.2) (kk : BGo G M KQ (bc_nw h (t, len)) (k + 1) (n + len) q ls (.ref (G.1 + h.1.1) :: st)) : BGo G M KQ h k n pc ls (.int x :: st) := by
  subst e
  intro p l e s m args below meth c Q q C H locs la S
  refine va_newq C.1 C.2.1 C.2.2.2.1 (C.2.2.2.2.1 _ hcl) (C.2.2.2.2.2.2.2.2.2.2.2 Cn hao) C.2.2.2.2.2.2.2.2.2.1 S.2.1 (bc_wl_D G h) S.2.2.1 (fun q hq => Nat.le_trans C.2.2.2.2.2.2.2.2.1 hq) (by rw [hx]; exact nI_pos (by omega)) (by rw [hx]; exact nI_clamp (by omega)) (by omega) hk hn hd (fun q1 cA H1 hK hP hD hS => ?_)
  intro T1 hT X
  subst hT
  have e1 := bc_next (M := M) S.1 hP hD X
  subst e1
  have hnew : va_RA s cA (.object Cn) := (hK.2 (bc_ty G).length _ (by rw [List.getElem?_append_right (Nat.le_refl _), Nat.sub_self]; rfl)).2
  have hol2 : va_RA s (G.2.1 (t - 20)) (.object Cn) := (C.2.2.2.2.2.2.2.2.2.1.2 (t - 20) _ ht).2
  have e3 : cA = G.2.1 (t - 20) := by
    obtain ⟨_, _, -, -, -, h5⟩ := hnew
    obtain ⟨_, _, -, -, -, h6⟩ := hol2
    exact Option.some.inj (h5.symm.trans h6)
  subst e3
  have e2 : (.inl (G.2.1 (t - 20), len, .inr (.inr (.inr (.inr (fun _ => none))))) : va_E) = bc_ce G (t, len) (fun _ => none) (fun _ => 0) := by
    rw [bc_ce, if_neg (by show ¬ t < 20; omega), if_neg (by show ¬ t < 22; omega)]; rfl
  rw [e2, bc_wl_nw] at hP
  exact kk p l e s m args below meth c Q q C T1.heap locs la ⟨by have := S.1; show s.heap.size + (k + 1) = G.1 + (h.1.1 + 1); omega, hP, hS, S.2.2.2⟩ T1 rfl X
theorem go_objInit (q : Nat) {idx a : Nat} (hd : decode M.2.1 pc = .ok (.invokespecial idx, 3)) (e : pc + 3 = q) (hm : Cond.methodLink M.1.cls idx Lib.objectInit ∈ lwG) (hi : Cond.instanceMethod Lib.objectInit ∈ lwG) (hc : Cond.code Lib.objectInit ⟨#[0xb1]⟩ 1 none ∈ lwG) (hf : 1 ≤ M.2.2.2.2.1) (hw : 12 ≤ M.2.2.2.2.2.1) (kk : BGo G M KQ h k n q ls []) : BGo G M KQ h k n pc ls [.ref a] := by
  subst e
  exact fun p l e s m args below meth c Q q C H locs la S => W.objInit C.1 C.2.1 C.2.2.2.1 (C.2.2.2.2.1 _ hm) (C.2.2.2.2.1 _ hi) (C.2.2.2.2.1 _ hc) rfl (by rw [C.2.2.1, ← S.2.2.2.2]; exact S.2.2.2.1.1) rfl hd hf hw (kk p l e s m args below meth c Q q C H locs la S)
end BCHEAP
end
section
/-! RETURNS AND CALLS -/
def OkM (M : BcM) (np : Nat) : Prop := Cond.code M.1 M.2.1 M.2.2.1 M.2.2.2.1 ∈ lwG ∧ Cond.initialized M.1.cls ∈ lwG ∧ M.1.cls ≠ "java/lang/invoke/MethodHandle" ∧ M.1.cls ≠ "java/lang/invoke/VarHandle" ∧ (parseMethodDescriptor M.1.desc).map (fun d => d.parameters.length) = some np
def OkV (M : BcM) (np : Nat) : Prop := OkM M np ∧ Cond.instanceMethod M.1 ∈ lwG ∧ Cond.selects M.1.cls M.1 M.1 ∈ lwG
def OkS (M : BcM) (np : Nat) : Prop := OkM M np ∧ Cond.static M.1 ∈ lwG
def OkI (M : BcM) (np : Nat) : Prop := OkM M np ∧ Cond.instanceMethod M.1 ∈ lwG ∧ M.1.name = "<init>" ∧ M.2.2.2.1 = none
/-- the callee's frames and words fit the caller's -/
def bc_fit (M' M : BcM) : Prop := M'.2.2.2.2.1 + 1 ≤ M.2.2.2.2.1 ∧ 8 + (M'.2.2.1 + 11) + M'.2.2.2.2.2.1 ≤ M.2.2.2.2.2.1
def pI (r : Int32) (h1 : BcH) : Option Value → BcH → Prop := fun v h' => v = some (.int r) ∧ h' = h1
def pA (a : Nat) (h1 : BcH) : Option Value → BcH → Prop := fun v h' => v = some (.ref a) ∧ h' = h1
def pZ (h1 : BcH) : Option Value → BcH → Prop := fun v h' => v = some .null ∧ h' = h1
def pV (h1 : BcH) : Option Value → BcH → Prop := fun v h' => v = none ∧ h' = h1
/-- 1 or 0 -/
noncomputable def bI (c : Prop) : Int32 := @ite Int32 c (Classical.propDecidable c) 1 0
theorem Ct.weak {G : BcG} {M : BcM} {vs : List Value} {h : BcH} {p1 p2 : Option Value → BcH → Prop} (hc : Ct G M vs h p1) (hp : ∀ v h', p1 v h' → p2 v h') : Ct G M vs h p2 := by
  intro l p e ha hc2 hk s m args below hf happ hP htr
  obtain ⟨n, o, b1, b2, b3, ⟨⟨⟨v, h', e1, e2, e3⟩, hF⟩, L⟩⟩ := hc l p e ha hc2 hk s m args below hf happ hP htr
  exact ⟨n, o, b1, b2, b3, ⟨⟨⟨v, h', e1, hp v h' e2, e3⟩, hF⟩, L⟩⟩
section BCCALL
variable {G : BcG} {M M' : BcM} {KQ : BcK} {h h1 : BcH} {k n pc N a r1 np ci idx : Nat} {ls ls' : List (Option Value)} {st rest As : List Value} {x y r : Int32} {post : Option Value → BcH → Prop}
theorem go_ret_i (hd : decode M.2.1 pc = .ok (.ireturn, 1)) (hr : M.2.2.2.1 = some .int) (hk : k = M.2.2.2.2.2.2.1) (hn : n = M.2.2.2.2.2.2.2) (hp : post (some (.int x)) h) : BGo G M (KM G M N post) h k n pc ls [.int x] := by
  intro p l e s m args below meth c Q q C H locs la S
  obtain ⟨hz, rfl⟩ := q
  subst hk
  subst hn
  exact W.iret C.1 C.2.1 (C.2.2.2.2.2.1.trans hr) (fun t ht hW => ⟨⟨some (.int x), h, rfl, hp, by have := S.1; omega, by rw [ht]; exact S.2.1⟩, S.2.2.1.F ht⟩) S.2.2.1.2.2 hd C.2.2.2.2.2.2.1
theorem go_ret_z {ty : FieldType} (hd : decode M.2.1 pc = .ok (.ireturn, 1)) (hr : M.2.2.2.1 = some ty) (hy : narrow ty (.int x) = .int x) (hk : k = M.2.2.2.2.2.2.1) (hn : n = M.2.2.2.2.2.2.2) (hp : post (some (.int x)) h) : BGo G M (KM G M N post) h k n pc ls [.int x] := by
  intro p l e s m args below meth c Q q C H locs la S
  obtain ⟨hz, rfl⟩ := q
  subst hk
  subst hn
  exact W.zret C.1 C.2.1 (C.2.2.2.2.2.1.trans hr) hy (fun t ht hW => ⟨⟨some (.int x), h, rfl, hp, by have := S.1; omega, by rw [ht]; exact S.2.1⟩, S.2.2.1.F ht⟩) S.2.2.1.2.2 hd C.2.2.2.2.2.2.1
theorem go_ret_v (hd : decode M.2.1 pc = .ok (.return_, 1)) (hr : M.2.2.2.1 = none) (hk : k = M.2.2.2.2.2.2.1) (hn : n = M.2.2.2.2.2.2.2) (hp : post none h) : BGo G M (KM G M N post) h k n pc ls [] := by
  intro p l e s m args below meth c Q q C H locs la S
  obtain ⟨hz, rfl⟩ := q
  subst hk
  subst hn
  exact W.vret C.1 C.2.1 (C.2.2.2.2.2.1.trans hr) (fun t ht hW => ⟨⟨none, h, rfl, hp, by have := S.1; omega, by rw [ht]; exact S.2.1⟩, S.2.2.1.F ht⟩) S.2.2.1.2.2 hd C.2.2.2.2.2.2.1
theorem go_ret_a {nm : String} (hd : decode M.2.1 pc = .ok (.areturn, 1)) (hr : M.2.2.2.1 = some (.object nm)) (hk : k = M.2.2.2.2.2.2.1) (hn : n = M.2.2.2.2.2.2.2) (hp : post (some (.ref a)) h) : BGo G M (KM G M N post) h k n pc ls [.ref a] := by
  intro p l e s m args below meth c Q q C H locs la S
  obtain ⟨hz, rfl⟩ := q
  subst hk
  subst hn
  exact W.aret C.1 C.2.1 (C.2.2.2.2.2.1.trans hr) (Or.inl ⟨nm, rfl⟩) (Or.inr ⟨a, rfl⟩) (fun t ht hW => ⟨⟨some (.ref a), h, rfl, hp, by have := S.1; omega, by rw [ht]; exact S.2.1⟩, S.2.2.1.F ht⟩) S.2.2.1.2.2 hd C.2.2.2.2.2.2.1
theorem go_ret_n {nm : String} (hd : decode M.2.1 pc = .ok (.areturn, 1)) (hr : M.2.2.2.1 = some (.object nm)) (hk : k = M.2.2.2.2.2.2.1) (hn : n = M.2.2.2.2.2.2.2) (hp : post (some .null) h) : BGo G M (KM G M N post) h k n pc ls [.null] := by
  intro p l e s m args below meth c Q q C H locs la S
  obtain ⟨hz, rfl⟩ := q
  subst hk
  subst hn
  exact W.aret C.1 C.2.1 (C.2.2.2.2.2.1.trans hr) (Or.inl ⟨nm, rfl⟩) (Or.inl rfl) (fun t ht hW => ⟨⟨some .null, h, rfl, hp, by have := S.1; omega, by rw [ht]; exact S.2.1⟩, S.2.2.1.F ht⟩) S.2.2.1.2.2 hd C.2.2.2.2.2.2.1
/-- behind a call -/
theorem bc_after {p : Program} {l : Launch} {e : Env} {s : State} {m : MethodId} {args : Array Value} {below : List Frame} {meth : Method} {c : Code} {Q : State → Prop} {H : Heap} {locs : List Loc} {la : Array Slot} {st0 : List Value} {mc ms : Nat} {aa : Array Value}
    (q : KQ p l e s m args below meth c Q) (C : bc_Cx G M p s m args meth c) (S : bc_St G M h k ls s H locs la) (hr : va_Run p l e (bc_rm M) s m args below meth c H locs k n mc ms (F0 m pc la st0) rest (bc_Q G (h.1.1 + mc) post aa) (bc_A G))
    (kk : ∀ v h', post v h' → BGo G M KQ h' (k + mc) (n + ms) (pc + 3) ls (v.toList ++ rest)) : W p l e (bc_rm M) s m args below meth c H locs k n Q (F0 m pc la st0) := by
  intro T hT X
  obtain ⟨v, st₀, t, T', L, h0, X', hL, e1, e2, ⟨⟨v', h', hv, hp, hN, hP'⟩, hz, hk⟩, st⟩ := hr T hT X
  cases hv
  rw [h0] at hz hk
  obtain ⟨t2, a1, b1⟩ := kk v h' hp p l e s m args below meth c Q q C T'.heap (locs ++ L) la ⟨by rw [hN]; have := S.1; omega, by rw [e1]; exact hP', ⟨by rw [e1]; exact Nat.le_trans S.2.2.1.1 hz, fun q h1 h2 => by rw [e1, hk q (Nat.lt_of_lt_of_le h1 S.2.2.1.1) h2]; exact S.2.2.1.2.1 q h1 h2, fun q hq => by
      rcases List.mem_append.mp hq with h | h
      · exact S.2.2.1.2.2 q h
      · exact hL q h⟩, S.2.2.2⟩ T' rfl X'
  exact ⟨t2, st t2 a1, b1⟩
theorem bc_wsin (M' : BcM) (hc : Cond.code M'.1 M'.2.1 M'.2.2.1 M'.2.2.2.1 ∈ lwG) : ∀ w ∈ bc_ws M', w ∈ lwG := by
  intro w hw
  rcases List.mem_cons.mp hw with rfl | hw
  · exact hc
  · exact hw
theorem bc_pre {p : Program} {l : Launch} {e : Env} {s : State} {m : MethodId} {args : Array Value} {below : List Frame} {meth : Method} {c : Code} {T : State} {locs : List Loc} {la : Array Slot} {vs : List Value} (C : bc_Cx G M p s m args meth c) (S : bc_St G M h k ls s T.heap locs la) (X : Stand p l e (bc_rm M) s m args below meth c T locs k n) :
    ∀ U : State, U.heap = T.heap → s.WarmedH U.vm → bc_P G h vs vs.toArray U := fun U hU hW => ⟨rfl, by rw [hU]; exact bc_size C.2.2.2.2.2.2.2.2.1 S X, by rw [hU]; exact S.2.1, bc_K.warm hW C.2.2.2.2.2.2.2.2.2⟩
theorem go_V (q : Nat) (hd : decode M.2.1 pc = .ok (.invokevirtual idx, 3)) (e : pc + 3 = q) (hl : Cond.methodLink M.1.cls idx M'.1 ∈ lwG) (ok : OkV M' np) (fit : bc_fit M' M) (z1 : M'.2.2.2.2.2.2.1 = 0) (z2 : M'.2.2.2.2.2.2.2 = 0) (hk : k ≤ M.2.2.2.2.2.2.1) (hn : n ≤ M.2.2.2.2.2.2.2) (ct : Ct G M' (.ref (G.1 + a) :: As) h post) (hst : st = As.reverse ++ .ref (G.1 + a) :: rest) (hlen : As.length = np) (hw : (rest.map fun v => v.category).sum ≤ 8) (ha : bc_o h a ci) (h20 : ci < 20) (hcn : (bc_cl[ci]?).map (fun r => r.1) = some M'.1.cls)
    (kk : ∀ v h', post v h' → BGo G M KQ h' k n q ls (v.toList ++ rest)) : BGo G M KQ h k n pc ls st := by
  subst e
  subst hst
  intro p l e s m args below meth c Q q C H locs la S T hT X
  subst hT
  obtain ⟨⟨hc, hin, hm⟩, hi, hs⟩ := ok
  obtain ⟨rr, hrr⟩ : ∃ rr, bc_cl[ci]? = some rr := by
    cases hx : bc_cl[ci]? with
    | none => rw [hx] at hcn; cases hcn
    | some rr => exact ⟨rr, rfl⟩
  have hnm : rr.1 = M'.1.cls := by rw [hrr] at hcn; exact Option.some.inj hcn
  have hrv := va_recv C.2.2.2.2.2.2.2.2.2.1 S.2.1 hrr (bc_o_at ha h20)
  rw [hnm] at hrv
  refine bc_after q C S (va_runV (C := M'.1.cls) (As := As) (rest := rest) ⟨C.1, C.2.1, C.2.2.1, C.2.2.2.1, C.2.2.2.2.1⟩ (ct l) (cwV np C.2.2.2.2.1 (lwG_good (ws := wsV M.1.cls idx M'.1.cls M'.1 (bc_ws M')) ?_) rfl rfl rfl ⟨rfl, hm⟩ ⟨fit.1, fit.2⟩) ⟨bc_blind, hrv, bc_pre C S X⟩ rfl hlen (by rw [← S.2.2.2.2]; exact S.2.2.2.1.1) rfl (lv_room hw) hd ⟨by rw [z1]; exact hk, by rw [z2]; exact hn⟩) (fun v h' hp => ?_) T rfl X
  · intro w hw
    rcases List.mem_append.mp hw with hw | hw
    · simp only [List.mem_cons, List.not_mem_nil, or_false] at hw
      rcases hw with rfl | rfl | rfl | rfl
      · exact hl
      · exact hi
      · exact hs
      · exact hin
    · exact bc_wsin M' hc w hw
  · rw [z1, z2]
    exact kk v h' hp
theorem go_S (q : Nat) (hd : decode M.2.1 pc = .ok (.invokestatic idx, 3)) (e : pc + 3 = q) (hl : Cond.methodLink M.1.cls idx M'.1 ∈ lwG) (ok : OkS M' np) (fit : bc_fit M' M) (z1 : M'.2.2.2.2.2.2.1 = 0) (z2 : M'.2.2.2.2.2.2.2 = 0) (hk : k ≤ M.2.2.2.2.2.2.1) (hn : n ≤ M.2.2.2.2.2.2.2) (ct : Ct G M' As h post) (hst : st = As.reverse ++ rest) (hlen : As.length = np) (hw : (rest.map fun v => v.category).sum ≤ 8)
    (kk : ∀ v h', post v h' → BGo G M KQ h' k n q ls (v.toList ++ rest)) : BGo G M KQ h k n pc ls st := by
  subst e
  subst hst
  intro p l e s m args below meth c Q q C H locs la S T hT X
  subst hT
  obtain ⟨⟨hc, hin, hm⟩, hs⟩ := ok
  refine bc_after q C S (va_runS (As := As) (rest := rest) ⟨C.1, C.2.1, C.2.2.1, C.2.2.2.1, C.2.2.2.2.1⟩ (ct l) (va_cwS np C.2.2.2.2.1 (lwG_good (ws := va_wsS M.1.cls idx M'.1 (bc_ws M')) ?_) rfl rfl rfl hm ⟨fit.1, fit.2⟩) ⟨bc_blind, bc_pre C S X⟩ rfl hlen (by rw [← S.2.2.2.2]; exact S.2.2.2.1.1) rfl (lv_room hw) hd ⟨by rw [z1]; exact hk, by rw [z2]; exact hn⟩) (fun v h' hp => ?_) T rfl X
  · intro w hw
    rcases List.mem_append.mp hw with hw | hw
    · simp only [List.mem_cons, List.not_mem_nil, or_false] at hw
      rcases hw with rfl | rfl | rfl
      · exact hl
      · exact hs
      · exact hin
    · exact bc_wsin M' hc w hw
  · rw [z1, z2]
    exact kk v h' hp
/-- a private static method of a nest mate -/
theorem go_T (q : Nat) (hd : decode M.2.1 pc = .ok (.invokestatic idx, 3)) (e : pc + 3 = q) (hl : (M.1.cls, idx, M'.1) ∈ bc_nx) (ok : OkS M' np) (fit : bc_fit M' M) (z1 : M'.2.2.2.2.2.2.1 = 0) (z2 : M'.2.2.2.2.2.2.2 = 0) (hk : k ≤ M.2.2.2.2.2.2.1) (hn : n ≤ M.2.2.2.2.2.2.2) (ct : Ct G M' As h post) (hst : st = As.reverse ++ rest) (hlen : As.length = np) (hw : (rest.map fun v => v.category).sum ≤ 8)
    (kk : ∀ v h', post v h' → BGo G M KQ h' k n q ls (v.toList ++ rest)) : BGo G M KQ h k n pc ls st := by
  subst e
  subst hst
  intro p l e s m args below meth c Q q C H locs la S T hT X
  subst hT
  obtain ⟨⟨hc, hin, hm⟩, hs⟩ := ok
  refine bc_after q C S (va_runSN (host := RX8) (As := As) (rest := rest) ⟨C.1, C.2.1, C.2.2.1, C.2.2.2.1, C.2.2.2.2.1⟩ (ct l) ⟨va_cnB np C.2.2.2.2.1 (lwG_good (bc_wsin M' hc)) rfl rfl rfl (C.2.2.2.2.2.2.2.2.2.2.1 _ hl) (C.2.2.2.2.1 _ hin) hm ⟨fit.1, fit.2⟩, C.2.2.2.2.1 _ hs, trivial⟩ ⟨bc_blind, bc_pre C S X⟩ rfl hlen (by rw [← S.2.2.2.2]; exact S.2.2.2.1.1) rfl (lv_room hw) hd ⟨by rw [z1]; exact hk, by rw [z2]; exact hn⟩) (fun v h' hp => ?_) T rfl X
  rw [z1, z2]
  exact kk v h' hp
/-- constructors, which may make cells -/
theorem go_I (q k2 n2 : Nat) (hd : decode M.2.1 pc = .ok (.invokespecial idx, 3)) (e : pc + 3 = q) (hl : Cond.methodLink M.1.cls idx M'.1 ∈ lwG) (ok : OkI M' np) (fit : bc_fit M' M) (z1 : k + M'.2.2.2.2.2.2.1 = k2) (z2 : n + M'.2.2.2.2.2.2.2 = n2) (hk : k2 ≤ M.2.2.2.2.2.2.1) (hn : n2 ≤ M.2.2.2.2.2.2.2) (ct : Ct G M' (.ref a :: As) h post) (hst : st = As.reverse ++ .ref a :: rest) (hlen : As.length = np) (hw : (rest.map fun v => v.category).sum ≤ 8)
    (kk : ∀ v h', post v h' → BGo G M KQ h' k2 n2 q ls (v.toList ++ rest)) : BGo G M KQ h k n pc ls st := by
  subst e
  subst hst
  subst z1
  subst z2
  intro p l e s m args below meth c Q q C H locs la S T hT X
  subst hT
  obtain ⟨⟨hc, hin, hm⟩, hi, hnm, hret⟩ := ok
  have hM := ct l
  unfold bc_ws at hM
  rw [hret] at hM hc
  refine bc_after q C S (va_runI (As := As) (rest := rest) ⟨C.1, C.2.1, C.2.2.1, C.2.2.2.1, C.2.2.2.2.1⟩ hM (cwI np C.2.2.2.2.1 (lwG_good ?_) rfl rfl rfl (C.2.2.2.2.1 _ hin) (C.2.2.2.2.1 _ hl) (C.2.2.2.2.1 _ hi) hnm hm ⟨fit.1, fit.2⟩) ⟨bc_blind, bc_pre C S X⟩ rfl hlen (by rw [← S.2.2.2.2]; exact S.2.2.2.1.1) rfl (lv_room hw) hd ⟨hk, hn⟩) kk T rfl X
  intro w hw
  rcases List.mem_cons.mp hw with rfl | hw
  · exact hc
  · exact hw
theorem go_IN (q k2 n2 : Nat) (hd : decode M.2.1 pc = .ok (.invokespecial idx, 3)) (e : pc + 3 = q) (hl : (M.1.cls, idx, M'.1) ∈ bc_nx) (ok : OkI M' np) (fit : bc_fit M' M) (z1 : k + M'.2.2.2.2.2.2.1 = k2) (z2 : n + M'.2.2.2.2.2.2.2 = n2) (hk : k2 ≤ M.2.2.2.2.2.2.1) (hn : n2 ≤ M.2.2.2.2.2.2.2) (ct : Ct G M' (.ref a :: As) h post) (hst : st = As.reverse ++ .ref a :: rest) (hlen : As.length = np) (hw : (rest.map fun v => v.category).sum ≤ 8)
    (kk : ∀ v h', post v h' → BGo G M KQ h' k2 n2 q ls (v.toList ++ rest)) : BGo G M KQ h k n pc ls st := by
  subst e
  subst hst
  subst z1
  subst z2
  intro p l e s m args below meth c Q q C H locs la S T hT X
  subst hT
  obtain ⟨⟨hc, hin, hm⟩, hi, hnm, hret⟩ := ok
  have hM := ct l
  unfold bc_ws at hM
  rw [hret] at hM hc
  refine bc_after q C S (va_runIN (host := RX8) (As := As) (rest := rest) ⟨C.1, C.2.1, C.2.2.1, C.2.2.2.1, C.2.2.2.2.1⟩ hM ⟨va_cnB np C.2.2.2.2.1 (lwG_good ?_) rfl rfl rfl (C.2.2.2.2.2.2.2.2.2.2.1 _ hl) (C.2.2.2.2.1 _ hin) hm ⟨fit.1, fit.2⟩, hnm, C.2.2.2.2.1 _ hi⟩ ⟨bc_blind, bc_pre C S X⟩ rfl hlen (by rw [← S.2.2.2.2]; exact S.2.2.2.1.1) rfl (lv_room hw) hd ⟨hk, hn⟩) kk T rfl X
  intro w hw
  rcases List.mem_cons.mp hw with rfl | hw
  · exact hc
  · exact hw
theorem go_mmax (q : Nat) (hd : decode M.2.1 pc = .ok (.invokestatic idx, 3)) (e : pc + 3 = q) (hl : Cond.methodLink M.1.cls idx Lib.Math.max.name ∈ lwG) (hs : Cond.static Lib.Math.max.name ∈ lwG) (hi : Cond.initialized "java/lang/Math" ∈ lwG) (hc : Cond.code Lib.Math.max.name Lib.Math.max.code 2 (some .int) ∈ lwG) (hf : 1 ≤ M.2.2.2.2.1) (hw : (st.map fun v => v.category).sum + 13 ≤ M.2.2.2.2.2.1) (hk : k ≤ M.2.2.2.2.2.2.1) (hn : n ≤ M.2.2.2.2.2.2.2) (kk : BGo G M KQ h k n q ls (.int (if x < y then y else x) :: st)) : BGo G M KQ h k n pc ls (.int y :: .int x :: st) := by
  subst e
  exact fun p l e s m args below meth c Q q C H locs la S => va_mmax C.1 C.2.1 (by rw [C.2.2.1, ← S.2.2.2.2]; exact S.2.2.2.1.1.symm) C.2.2.2.1 (C.2.2.2.2.1 _ hl) (C.2.2.2.2.1 _ hs) (C.2.2.2.2.1 _ hi) (C.2.2.2.2.1 _ hc) hf hw hk hn hd (kk p l e s m args below meth c Q q C H locs la S)
theorem go_mmin (q : Nat) (hd : decode M.2.1 pc = .ok (.invokestatic idx, 3)) (e : pc + 3 = q) (hl : Cond.methodLink M.1.cls idx Lib.Math.min.name ∈ lwG) (hs : Cond.static Lib.Math.min.name ∈ lwG) (hi : Cond.initialized "java/lang/Math" ∈ lwG) (hc : Cond.code Lib.Math.min.name Lib.Math.min.code 2 (some .int) ∈ lwG) (hf : 1 ≤ M.2.2.2.2.1) (hw : (st.map fun v => v.category).sum + 13 ≤ M.2.2.2.2.2.1) (hk : k ≤ M.2.2.2.2.2.2.1) (hn : n ≤ M.2.2.2.2.2.2.2) (kk : BGo G M KQ h k n q ls (.int (if y < x then y else x) :: st)) : BGo G M KQ h k n pc ls (.int y :: .int x :: st) := by
  subst e
  exact fun p l e s m args below meth c Q q C H locs la S => va_mmin C.1 C.2.1 (by rw [C.2.2.1, ← S.2.2.2.2]; exact S.2.2.2.1.1.symm) C.2.2.2.1 (C.2.2.2.2.1 _ hl) (C.2.2.2.2.1 _ hs) (C.2.2.2.2.1 _ hi) (C.2.2.2.2.1 _ hc) hf hw hk hn hd (kk p l e s m args below meth c Q q C H locs la S)
/-- System.arraycopy of a whole int array into another one, from 0 to 0 -/
theorem go_copy (q : Nat) {a0 a1 len0 len1 w : Nat} (hd : decode M.2.1 pc = .ok (.invokestatic idx, 3)) (e : pc + 3 = q) (hl : Cond.methodLink M.1.cls idx arraycopyName ∈ lwG) (hna : Cond.native arraycopyName ∈ lwG) (hs : Cond.static arraycopyName ∈ lwG) (hi : Cond.initialized "java/lang/System" ∈ lwG) (h0 : bc_a h a0 20 len0) (h1 : bc_a h a1 20 len1) (hx : x = nI w) (hw0 : w ≤ len0) (hw1 : w ≤ len1) (hw2 : w < 100000) (hf : 1 ≤ M.2.2.2.2.1) (hw : (st.map fun v => v.category).sum + (nativeFrameWords "java/lang/System" "arraycopy" 5 + 11) ≤ M.2.2.2.2.2.1) (kk : BGo G M KQ (bc_sa h a1 (va_cpy (h.2.2 a0) (h.2.2 a1) 0 0 w)) k n q ls st) : BGo G M KQ h k n pc ls (.int x :: .int 0 :: .ref (G.1 + a1) :: .int 0 :: .ref (G.1 + a0) :: st) := by
  subst e
  intro p l e s m args below meth c Q q C H locs la S
  have hc : x.toNatClampNeg = w := by rw [hx]; exact nI_clamp (by omega)
  refine va_copyi C.1 C.2.1 (by rw [C.2.2.1, ← S.2.2.2.2]; exact S.2.2.2.1.1.symm) C.2.2.2.1 (C.2.2.2.2.1 _ hl) (C.2.2.2.2.1 _ hna) (C.2.2.2.2.1 _ hs) (C.2.2.2.2.1 _ hi) C.2.2.2.2.2.2.2.2.2.1 S.2.1 (bc_wl_D G h) S.2.2.1 a0 a1 0 0 (bc_a_at h0 (by decide) (by decide)) (bc_a_at h1 (by decide) (by decide)) rfl rfl rfl (by decide) (by decide) (by rw [hx]; exact nI_pos (by omega)) (by rw [hc]; show 0 + w ≤ len0; omega) (by rw [hc]; show 0 + w ≤ len1; omega) (fun i hi => rfl) hf hw hd (fun H1 locs1 hP hD hS => ?_)
  rw [hc] at hP
  rw [bc_sa_set h1 (by decide) (by decide)] at hP
  exact kk p l e s m args below meth c Q q C H1 locs1 la ⟨S.1, hP, hS, S.2.2.2⟩
theorem go_ifeq_b (tgt q : Nat) {off : Int} {c : Prop} (hd : decode M.2.1 pc = .ok (.ifCond .eq off, 3)) (ht : (pc : Int) + off = (tgt : Int)) (e : pc + 3 = q) (kt : ¬ c → BGo G M KQ h k n tgt ls st) (kf : c → BGo G M KQ h k n q ls st) : BGo G M KQ h k n pc ls (.int (bI c) :: st) :=
  go_if_eq tgt q hd ht e (fun z => kt (fun hc => by rw [bI, if_pos hc] at z; exact absurd z (by decide))) (fun z => kf (Classical.byContradiction fun hc => z (by rw [bI, if_neg hc])))
theorem go_ifne_b (tgt q : Nat) {off : Int} {c : Prop} (hd : decode M.2.1 pc = .ok (.ifCond .ne off, 3)) (ht : (pc : Int) + off = (tgt : Int)) (e : pc + 3 = q) (kt : c → BGo G M KQ h k n tgt ls st) (kf : ¬ c → BGo G M KQ h k n q ls st) : BGo G M KQ h k n pc ls (.int (bI c) :: st) :=
  go_if_ne tgt q hd ht e (fun z => kt (Classical.byContradiction fun hc => z (by rw [bI, if_neg hc]))) (fun z => kf (fun hc => by rw [bI, if_pos hc] at z; exact absurd z (by decide)))
theorem bI_z (c : Prop) : narrow .boolean (.int (bI c)) = .int (bI c) := by
  by_cases hc : c
  · rw [bI, if_pos hc]; rfl
  · rw [bI, if_neg hc]; rfl
theorem go_VI (q : Nat) (hd : decode M.2.1 pc = .ok (.invokevirtual idx, 3)) (e : pc + 3 = q) (hl : Cond.methodLink M.1.cls idx M'.1 ∈ lwG) (ok : OkV M' np) (fit : bc_fit M' M) (ct : Ct G M' (.ref (G.1 + a) :: As) h (pI r h1)) (hst : st = As.reverse ++ .ref (G.1 + a) :: rest) (hlen : As.length = np) (ha : bc_o h a ci) (h20 : ci < 20) (hcn : (bc_cl[ci]?).map (fun r => r.1) = some M'.1.cls) (hw : (rest.map fun v => v.category).sum ≤ 8 := by exact Nat.le_of_ble_eq_true rfl) (z1 : M'.2.2.2.2.2.2.1 = 0 := by rfl) (z2 : M'.2.2.2.2.2.2.2 = 0 := by rfl) (hk : k ≤ M.2.2.2.2.2.2.1 := by exact Nat.le_of_ble_eq_true rfl) (hn : n ≤ M.2.2.2.2.2.2.2 := by exact Nat.le_of_ble_eq_true rfl)
    (kk : BGo G M KQ h1 k n q ls (.int r :: rest)) : BGo G M KQ h k n pc ls st :=
  go_V q hd e hl ok fit z1 z2 hk hn ct hst hlen hw ha h20 hcn (fun v h' hp => by obtain ⟨rfl, rfl⟩ := hp; exact kk)
theorem go_VA (q : Nat) (hd : decode M.2.1 pc = .ok (.invokevirtual idx, 3)) (e : pc + 3 = q) (hl : Cond.methodLink M.1.cls idx M'.1 ∈ lwG) (ok : OkV M' np) (fit : bc_fit M' M) (ct : Ct G M' (.ref (G.1 + a) :: As) h (pA r1 h1)) (hst : st = As.reverse ++ .ref (G.1 + a) :: rest) (hlen : As.length = np) (ha : bc_o h a ci) (h20 : ci < 20) (hcn : (bc_cl[ci]?).map (fun r => r.1) = some M'.1.cls) (hw : (rest.map fun v => v.category).sum ≤ 8 := by exact Nat.le_of_ble_eq_true rfl) (z1 : M'.2.2.2.2.2.2.1 = 0 := by rfl) (z2 : M'.2.2.2.2.2.2.2 = 0 := by rfl) (hk : k ≤ M.2.2.2.2.2.2.1 := by exact Nat.le_of_ble_eq_true rfl) (hn : n ≤ M.2.2.2.2.2.2.2 := by exact Nat.le_of_ble_eq_true rfl)
    (kk : BGo G M KQ h1 k n q ls (.ref r1 :: rest)) : BGo G M KQ h k n pc ls st :=
  go_V q hd e hl ok fit z1 z2 hk hn ct hst hlen hw ha h20 hcn (fun v h' hp => by obtain ⟨rfl, rfl⟩ := hp; exact kk)
theorem go_VZ (q : Nat) (hd : decode M.2.1 pc = .ok (.invokevirtual idx, 3)) (e : pc + 3 = q) (hl : Cond.methodLink M.1.cls idx M'.1 ∈ lwG) (ok : OkV M' np) (fit : bc_fit M' M) (ct : Ct G M' (.ref (G.1 + a) :: As) h (pZ h1)) (hst : st = As.reverse ++ .ref (G.1 + a) :: rest) (hlen : As.length = np) (ha : bc_o h a ci) (h20 : ci < 20) (hcn : (bc_cl[ci]?).map (fun r => r.1) = some M'.1.cls) (hw : (rest.map fun v => v.category).sum ≤ 8 := by exact Nat.le_of_ble_eq_true rfl) (z1 : M'.2.2.2.2.2.2.1 = 0 := by rfl) (z2 : M'.2.2.2.2.2.2.2 = 0 := by rfl) (hk : k ≤ M.2.2.2.2.2.2.1 := by exact Nat.le_of_ble_eq_true rfl) (hn : n ≤ M.2.2.2.2.2.2.2 := by exact Nat.le_of_ble_eq_true rfl)
    (kk : BGo G M KQ h1 k n q ls (.null :: rest)) : BGo G M KQ h k n pc ls st :=
  go_V q hd e hl ok fit z1 z2 hk hn ct hst hlen hw ha h20 hcn (fun v h' hp => by obtain ⟨rfl, rfl⟩ := hp; exact kk)
theorem go_VN (q : Nat) (hd : decode M.2.1 pc = .ok (.invokevirtual idx, 3)) (e : pc + 3 = q) (hl : Cond.methodLink M.1.cls idx M'.1 ∈ lwG) (ok : OkV M' np) (fit : bc_fit M' M) (ct : Ct G M' (.ref (G.1 + a) :: As) h (pV h1)) (hst : st = As.reverse ++ .ref (G.1 + a) :: rest) (hlen : As.length = np) (ha : bc_o h a ci) (h20 : ci < 20) (hcn : (bc_cl[ci]?).map (fun r => r.1) = some M'.1.cls) (hw : (rest.map fun v => v.category).sum ≤ 8 := by exact Nat.le_of_ble_eq_true rfl) (z1 : M'.2.2.2.2.2.2.1 = 0 := by rfl) (z2 : M'.2.2.2.2.2.2.2 = 0 := by rfl) (hk : k ≤ M.2.2.2.2.2.2.1 := by exact Nat.le_of_ble_eq_true rfl) (hn : n ≤ M.2.2.2.2.2.2.2 := by exact Nat.le_of_ble_eq_true rfl)
    (kk : BGo G M KQ h1 k n q ls rest) : BGo G M KQ h k n pc ls st :=
  go_V q hd e hl ok fit z1 z2 hk hn ct hst hlen hw ha h20 hcn (fun v h' hp => by obtain ⟨rfl, rfl⟩ := hp; exact kk)
theorem go_SI (q : Nat) (hd : decode M.2.1 pc = .ok (.invokestatic idx, 3)) (e : pc + 3 = q) (hl : Cond.methodLink M.1.cls idx M'.1 ∈ lwG) (ok : OkS M' np) (fit : bc_fit M' M) (ct : Ct G M' As h (pI r h1)) (hst : st = As.reverse ++ rest) (hlen : As.length = np)  (hw : (rest.map fun v => v.category).sum ≤ 8 := by exact Nat.le_of_ble_eq_true rfl) (z1 : M'.2.2.2.2.2.2.1 = 0 := by rfl) (z2 : M'.2.2.2.2.2.2.2 = 0 := by rfl) (hk : k ≤ M.2.2.2.2.2.2.1 := by exact Nat.le_of_ble_eq_true rfl) (hn : n ≤ M.2.2.2.2.2.2.2 := by exact Nat.le_of_ble_eq_true rfl)
    (kk : BGo G M KQ h1 k n q ls (.int r :: rest)) : BGo G M KQ h k n pc ls st :=
  go_S q hd e hl ok fit z1 z2 hk hn ct hst hlen hw  (fun v h' hp => by obtain ⟨rfl, rfl⟩ := hp; exact kk)
theorem go_SA (q : Nat) (hd : decode M.2.1 pc = .ok (.invokestatic idx, 3)) (e : pc + 3 = q) (hl : Cond.methodLink M.1.cls idx M'.1 ∈ lwG) (ok : OkS M' np) (fit : bc_fit M' M) (ct : Ct G M' As h (pA r1 h1)) (hst : st = As.reverse ++ rest) (hlen : As.length = np)  (hw : (rest.map fun v => v.category).sum ≤ 8 := by exact Nat.le_of_ble_eq_true rfl) (z1 : M'.2.2.2.2.2.2.1 = 0 := by rfl) (z2 : M'.2.2.2.2.2.2.2 = 0 := by rfl) (hk : k ≤ M.2.2.2.2.2.2.1 := by exact Nat.le_of_ble_eq_true rfl) (hn : n ≤ M.2.2.2.2.2.2.2 := by exact Nat.le_of_ble_eq_true rfl)
    (kk : BGo G M KQ h1 k n q ls (.ref r1 :: rest)) : BGo G M KQ h k n pc ls st :=
  go_S q hd e hl ok fit z1 z2 hk hn ct hst hlen hw  (fun v h' hp => by obtain ⟨rfl, rfl⟩ := hp; exact kk)
theorem go_SZ (q : Nat) (hd : decode M.2.1 pc = .ok (.invokestatic idx, 3)) (e : pc + 3 = q) (hl : Cond.methodLink M.1.cls idx M'.1 ∈ lwG) (ok : OkS M' np) (fit : bc_fit M' M) (ct : Ct G M' As h (pZ h1)) (hst : st = As.reverse ++ rest) (hlen : As.length = np)  (hw : (rest.map fun v => v.category).sum ≤ 8 := by exact Nat.le_of_ble_eq_true rfl) (z1 : M'.2.2.2.2.2.2.1 = 0 := by rfl) (z2 : M'.2.2.2.2.2.2.2 = 0 := by rfl) (hk : k ≤ M.2.2.2.2.2.2.1 := by exact Nat.le_of_ble_eq_true rfl) (hn : n ≤ M.2.2.2.2.2.2.2 := by exact Nat.le_of_ble_eq_true rfl)
    (kk : BGo G M KQ h1 k n q ls (.null :: rest)) : BGo G M KQ h k n pc ls st :=
  go_S q hd e hl ok fit z1 z2 hk hn ct hst hlen hw  (fun v h' hp => by obtain ⟨rfl, rfl⟩ := hp; exact kk)
theorem go_SN (q : Nat) (hd : decode M.2.1 pc = .ok (.invokestatic idx, 3)) (e : pc + 3 = q) (hl : Cond.methodLink M.1.cls idx M'.1 ∈ lwG) (ok : OkS M' np) (fit : bc_fit M' M) (ct : Ct G M' As h (pV h1)) (hst : st = As.reverse ++ rest) (hlen : As.length = np)  (hw : (rest.map fun v => v.category).sum ≤ 8 := by exact Nat.le_of_ble_eq_true rfl) (z1 : M'.2.2.2.2.2.2.1 = 0 := by rfl) (z2 : M'.2.2.2.2.2.2.2 = 0 := by rfl) (hk : k ≤ M.2.2.2.2.2.2.1 := by exact Nat.le_of_ble_eq_true rfl) (hn : n ≤ M.2.2.2.2.2.2.2 := by exact Nat.le_of_ble_eq_true rfl)
    (kk : BGo G M KQ h1 k n q ls rest) : BGo G M KQ h k n pc ls st :=
  go_S q hd e hl ok fit z1 z2 hk hn ct hst hlen hw  (fun v h' hp => by obtain ⟨rfl, rfl⟩ := hp; exact kk)
theorem go_TI (q : Nat) (hd : decode M.2.1 pc = .ok (.invokestatic idx, 3)) (e : pc + 3 = q) (hl : (M.1.cls, idx, M'.1) ∈ bc_nx) (ok : OkS M' np) (fit : bc_fit M' M) (ct : Ct G M' As h (pI r h1)) (hst : st = As.reverse ++ rest) (hlen : As.length = np)  (hw : (rest.map fun v => v.category).sum ≤ 8 := by exact Nat.le_of_ble_eq_true rfl) (z1 : M'.2.2.2.2.2.2.1 = 0 := by rfl) (z2 : M'.2.2.2.2.2.2.2 = 0 := by rfl) (hk : k ≤ M.2.2.2.2.2.2.1 := by exact Nat.le_of_ble_eq_true rfl) (hn : n ≤ M.2.2.2.2.2.2.2 := by exact Nat.le_of_ble_eq_true rfl)
    (kk : BGo G M KQ h1 k n q ls (.int r :: rest)) : BGo G M KQ h k n pc ls st :=
  go_T q hd e hl ok fit z1 z2 hk hn ct hst hlen hw  (fun v h' hp => by obtain ⟨rfl, rfl⟩ := hp; exact kk)
theorem go_TA (q : Nat) (hd : decode M.2.1 pc = .ok (.invokestatic idx, 3)) (e : pc + 3 = q) (hl : (M.1.cls, idx, M'.1) ∈ bc_nx) (ok : OkS M' np) (fit : bc_fit M' M) (ct : Ct G M' As h (pA r1 h1)) (hst : st = As.reverse ++ rest) (hlen : As.length = np)  (hw : (rest.map fun v => v.category).sum ≤ 8 := by exact Nat.le_of_ble_eq_true rfl) (z1 : M'.2.2.2.2.2.2.1 = 0 := by rfl) (z2 : M'.2.2.2.2.2.2.2 = 0 := by rfl) (hk : k ≤ M.2.2.2.2.2.2.1 := by exact Nat.le_of_ble_eq_true rfl) (hn : n ≤ M.2.2.2.2.2.2.2 := by exact Nat.le_of_ble_eq_true rfl)
    (kk : BGo G M KQ h1 k n q ls (.ref r1 :: rest)) : BGo G M KQ h k n pc ls st :=
  go_T q hd e hl ok fit z1 z2 hk hn ct hst hlen hw  (fun v h' hp => by obtain ⟨rfl, rfl⟩ := hp; exact kk)
theorem go_TZ (q : Nat) (hd : decode M.2.1 pc = .ok (.invokestatic idx, 3)) (e : pc + 3 = q) (hl : (M.1.cls, idx, M'.1) ∈ bc_nx) (ok : OkS M' np) (fit : bc_fit M' M) (ct : Ct G M' As h (pZ h1)) (hst : st = As.reverse ++ rest) (hlen : As.length = np)  (hw : (rest.map fun v => v.category).sum ≤ 8 := by exact Nat.le_of_ble_eq_true rfl) (z1 : M'.2.2.2.2.2.2.1 = 0 := by rfl) (z2 : M'.2.2.2.2.2.2.2 = 0 := by rfl) (hk : k ≤ M.2.2.2.2.2.2.1 := by exact Nat.le_of_ble_eq_true rfl) (hn : n ≤ M.2.2.2.2.2.2.2 := by exact Nat.le_of_ble_eq_true rfl)
    (kk : BGo G M KQ h1 k n q ls (.null :: rest)) : BGo G M KQ h k n pc ls st :=
  go_T q hd e hl ok fit z1 z2 hk hn ct hst hlen hw  (fun v h' hp => by obtain ⟨rfl, rfl⟩ := hp; exact kk)
theorem go_TN (q : Nat) (hd : decode M.2.1 pc = .ok (.invokestatic idx, 3)) (e : pc + 3 = q) (hl : (M.1.cls, idx, M'.1) ∈ bc_nx) (ok : OkS M' np) (fit : bc_fit M' M) (ct : Ct G M' As h (pV h1)) (hst : st = As.reverse ++ rest) (hlen : As.length = np)  (hw : (rest.map fun v => v.category).sum ≤ 8 := by exact Nat.le_of_ble_eq_true rfl) (z1 : M'.2.2.2.2.2.2.1 = 0 := by rfl) (z2 : M'.2.2.2.2.2.2.2 = 0 := by rfl) (hk : k ≤ M.2.2.2.2.2.2.1 := by exact Nat.le_of_ble_eq_true rfl) (hn : n ≤ M.2.2.2.2.2.2.2 := by exact Nat.le_of_ble_eq_true rfl)
    (kk : BGo G M KQ h1 k n q ls rest) : BGo G M KQ h k n pc ls st :=
  go_T q hd e hl ok fit z1 z2 hk hn ct hst hlen hw  (fun v h' hp => by obtain ⟨rfl, rfl⟩ := hp; exact kk)
end BCCALL
end
section
/-! THE WORDS BY THEIR PLACES; CLASSES, FIELDS, METHODS (by program) -/
theorem w_0 : Cond.initialized RL ∈ lwG := lwG_of (lwT_1 (List.mem_of_getElem? (i := 0) (by decide +kernel))) rfl
theorem w_1 : Cond.initialized RX8 ∈ lwG := lwG_of (lwT_1 (List.mem_of_getElem? (i := 1) (by decide +kernel))) rfl
theorem w_2 : Cond.initialized RX3 ∈ lwG := lwG_of (lwT_1 (List.mem_of_getElem? (i := 2) (by decide +kernel))) rfl
theorem w_3 : Cond.initialized RX4 ∈ lwG := lwG_of (lwT_1 (List.mem_of_getElem? (i := 3) (by decide +kernel))) rfl
theorem w_4 : Cond.initialized RX6 ∈ lwG := lwG_of (lwT_1 (List.mem_of_getElem? (i := 4) (by decide +kernel))) rfl
theorem w_5 : Cond.initialized RX7 ∈ lwG := lwG_of (lwT_1 (List.mem_of_getElem? (i := 5) (by decide +kernel))) rfl
theorem w_6 : Cond.initialized RX2 ∈ lwG := lwG_of (lwT_1 (List.mem_of_getElem? (i := 6) (by decide +kernel))) rfl
theorem w_7 : Cond.initialized RX0 ∈ lwG := lwG_of (lwT_1 (List.mem_of_getElem? (i := 7) (by decide +kernel))) rfl
theorem w_8 : Cond.initialized RX1 ∈ lwG := lwG_of (lwT_1 (List.mem_of_getElem? (i := 8) (by decide +kernel))) rfl
theorem w_9 : Cond.initialized RX5 ∈ lwG := lwG_of (lwT_1 (List.mem_of_getElem? (i := 9) (by decide +kernel))) rfl
theorem w_10 : Cond.initialized RX9 ∈ lwG := lwG_of (lwT_1 (List.mem_of_getElem? (i := 10) (by decide +kernel))) rfl
theorem w_11 : Cond.initialized RJ9 ∈ lwG := lwG_of (lwT_1 (List.mem_of_getElem? (i := 11) (by decide +kernel))) rfl
theorem w_12 : Cond.initialized RJ10 ∈ lwG := lwG_of (lwT_1 (List.mem_of_getElem? (i := 12) (by decide +kernel))) rfl
theorem w_13 : Cond.initialized RJ6 ∈ lwG := lwG_of (lwT_1 (List.mem_of_getElem? (i := 13) (by decide +kernel))) rfl
theorem w_14 : Cond.classLink RL 7 RX8 ∈ lwG := lwG_of (lwT_1 (List.mem_of_getElem? (i := 14) (by decide +kernel))) rfl
theorem w_15 : Cond.instantiable RX8 7 ∈ lwG := lwG_of (lwT_1 (List.mem_of_getElem? (i := 15) (by decide +kernel))) rfl
theorem w_16 : Cond.methodLink RL 9 yX8_init ∈ lwG := lwG_of (lwT_1 (List.mem_of_getElem? (i := 16) (by decide +kernel))) rfl
theorem w_17 : Cond.instanceMethod yX8_init ∈ lwG := lwG_of (lwT_1 (List.mem_of_getElem? (i := 17) (by decide +kernel))) rfl
theorem w_18 : Cond.code yX8_init cX8_init 1 (none) ∈ lwG := lwG_of (lwT_1 (List.mem_of_getElem? (i := 18) (by decide +kernel))) rfl
theorem w_19 : Cond.methodLink RX8 1 Lib.objectInit ∈ lwG := lwG_of (lwT_1 (List.mem_of_getElem? (i := 19) (by decide +kernel))) rfl
theorem w_20 : Cond.instanceMethod Lib.objectInit ∈ lwG := lwG_of (lwT_1 (List.mem_of_getElem? (i := 20) (by decide +kernel))) rfl
theorem w_21 : Cond.code Lib.objectInit ⟨#[0xb1]⟩ 1 none ∈ lwG := lwG_of (lwT_1 (List.mem_of_getElem? (i := 21) (by decide +kernel))) rfl
theorem w_22 : Cond.classLink RX8 7 RX3 ∈ lwG := lwG_of (lwT_1 (List.mem_of_getElem? (i := 22) (by decide +kernel))) rfl
theorem w_23 : Cond.instantiable RX3 16 ∈ lwG := lwG_of (lwT_1 (List.mem_of_getElem? (i := 23) (by decide +kernel))) rfl
theorem w_24 : Cond.methodLink RX8 9 yX3_init ∈ lwG := lwG_of (lwT_1 (List.mem_of_getElem? (i := 24) (by decide +kernel))) rfl
theorem w_25 : Cond.instanceMethod yX3_init ∈ lwG := lwG_of (lwT_1 (List.mem_of_getElem? (i := 25) (by decide +kernel))) rfl
theorem w_26 : Cond.code yX3_init cX3_init 2 (none) ∈ lwG := lwG_of (lwT_1 (List.mem_of_getElem? (i := 26) (by decide +kernel))) rfl
theorem w_27 : Cond.methodLink RX3 3 Lib.objectInit ∈ lwG := lwG_of (lwT_1 (List.mem_of_getElem? (i := 27) (by decide +kernel))) rfl
theorem w_28 : Cond.classLink RX3 9 RX4 ∈ lwG := lwG_of (lwT_1 (List.mem_of_getElem? (i := 28) (by decide +kernel))) rfl
theorem w_30 : Cond.classLink RX3 17 RX7 ∈ lwG := lwG_of (lwT_1 (List.mem_of_getElem? (i := 30) (by decide +kernel))) rfl
theorem w_32 : Cond.classLink RX3 23 RX2 ∈ lwG := lwG_of (lwT_1 (List.mem_of_getElem? (i := 32) (by decide +kernel))) rfl
theorem w_34 : Cond.classLink RX3 29 RX0 ∈ lwG := lwG_of (lwT_1 (List.mem_of_getElem? (i := 34) (by decide +kernel))) rfl
theorem w_36 : Cond.instantiable RX4 3 ∈ lwG := lwG_of (lwT_1 (List.mem_of_getElem? (i := 36) (by decide +kernel))) rfl
theorem w_37 : Cond.methodLink RX3 45 yX4_init ∈ lwG := lwG_of (lwT_1 (List.mem_of_getElem? (i := 37) (by decide +kernel))) rfl
theorem w_38 : Cond.instanceMethod yX4_init ∈ lwG := lwG_of (lwT_1 (List.mem_of_getElem? (i := 38) (by decide +kernel))) rfl
theorem w_39 : Cond.code yX4_init cX4_init 2 (none) ∈ lwG := lwG_of (lwT_1 (List.mem_of_getElem? (i := 39) (by decide +kernel))) rfl
theorem w_40 : Cond.methodLink RX4 3 Lib.objectInit ∈ lwG := lwG_of (lwT_1 (List.mem_of_getElem? (i := 40) (by decide +kernel))) rfl
theorem w_41 : Cond.classLink RX4 9 RX6 ∈ lwG := lwG_of (lwT_1 (List.mem_of_getElem? (i := 41) (by decide +kernel))) rfl
theorem w_43 : Cond.instantiable RX6 4 ∈ lwG := lwG_of (lwT_1 (List.mem_of_getElem? (i := 43) (by decide +kernel))) rfl
theorem w_45 : Cond.instanceMethod yX6_init ∈ lwG := lwG_of (lwT_1 (List.mem_of_getElem? (i := 45) (by decide +kernel))) rfl
theorem w_46 : Cond.code yX6_init cX6_init 1 (none) ∈ lwG := lwG_of (lwT_1 (List.mem_of_getElem? (i := 46) (by decide +kernel))) rfl
theorem w_47 : Cond.methodLink RX6 1 Lib.objectInit ∈ lwG := lwG_of (lwT_1 (List.mem_of_getElem? (i := 47) (by decide +kernel))) rfl
theorem w_48 : Cond.fieldLink RX6 7 "BatchCellars$Stage" "kind" "I" ∈ lwG := lwG_of (lwT_1 (List.mem_of_getElem? (i := 48) (by decide +kernel))) rfl
theorem w_49 : Cond.fieldLink RX3 128 "BatchCellars$Stage" "kind" "I" ∈ lwG := lwG_of (lwT_1 (List.mem_of_getElem? (i := 49) (by decide +kernel))) rfl
theorem w_50 : Cond.fieldLink RX6 13 "BatchCellars$Stage" "work" "I" ∈ lwG := lwG_of (lwT_1 (List.mem_of_getElem? (i := 50) (by decide +kernel))) rfl
theorem w_51 : Cond.fieldLink RX0 50 "BatchCellars$Stage" "work" "I" ∈ lwG := lwG_of (lwT_1 (List.mem_of_getElem? (i := 51) (by decide +kernel))) rfl
theorem w_52 : Cond.fieldLink RX3 133 "BatchCellars$Stage" "work" "I" ∈ lwG := lwG_of (lwT_1 (List.mem_of_getElem? (i := 52) (by decide +kernel))) rfl
theorem w_53 : Cond.fieldLink RX6 16 "BatchCellars$Stage" "least" "I" ∈ lwG := lwG_of (lwT_1 (List.mem_of_getElem? (i := 53) (by decide +kernel))) rfl
theorem w_54 : Cond.fieldLink RX0 55 "BatchCellars$Stage" "least" "I" ∈ lwG := lwG_of (lwT_1 (List.mem_of_getElem? (i := 54) (by decide +kernel))) rfl
theorem w_55 : Cond.fieldLink RX3 136 "BatchCellars$Stage" "least" "I" ∈ lwG := lwG_of (lwT_1 (List.mem_of_getElem? (i := 55) (by decide +kernel))) rfl
theorem w_56 : Cond.fieldLink RX6 19 "BatchCellars$Stage" "most" "I" ∈ lwG := lwG_of (lwT_1 (List.mem_of_getElem? (i := 56) (by decide +kernel))) rfl
theorem w_57 : Cond.fieldLink RX0 58 "BatchCellars$Stage" "most" "I" ∈ lwG := lwG_of (lwT_1 (List.mem_of_getElem? (i := 57) (by decide +kernel))) rfl
theorem w_58 : Cond.fieldLink RX3 139 "BatchCellars$Stage" "most" "I" ∈ lwG := lwG_of (lwT_1 (List.mem_of_getElem? (i := 58) (by decide +kernel))) rfl
theorem w_68 : Cond.arrayClass .int ∈ lwG := lwG_of (lwT_1 (List.mem_of_getElem? (i := 68) (by decide +kernel))) rfl
theorem w_69 : Cond.fieldLink RX4 18 "BatchCellars$Recipe" "product" "I" ∈ lwG := lwG_of (lwT_1 (List.mem_of_getElem? (i := 69) (by decide +kernel))) rfl
theorem w_70 : Cond.fieldLink RX8 73 "BatchCellars$Recipe" "product" "I" ∈ lwG := lwG_of (lwT_1 (List.mem_of_getElem? (i := 70) (by decide +kernel))) rfl
theorem w_71 : Cond.fieldLink RX3 114 "BatchCellars$Recipe" "product" "I" ∈ lwG := lwG_of (lwT_1 (List.mem_of_getElem? (i := 71) (by decide +kernel))) rfl
theorem w_72 : Cond.fieldLink RX4 22 "BatchCellars$Recipe" "stageCount" "I" ∈ lwG := lwG_of (lwT_1 (List.mem_of_getElem? (i := 72) (by decide +kernel))) rfl
theorem w_73 : Cond.fieldLink RX3 117 "BatchCellars$Recipe" "stageCount" "I" ∈ lwG := lwG_of (lwT_1 (List.mem_of_getElem? (i := 73) (by decide +kernel))) rfl
theorem w_74 : Cond.fieldLink RX4 11 "BatchCellars$Recipe" "stages" "[LBatchCellars$Stage;" ∈ lwG := lwG_of (lwT_1 (List.mem_of_getElem? (i := 74) (by decide +kernel))) rfl
theorem w_82 : Cond.instantiable RX7 5 ∈ lwG := lwG_of (lwT_1 (List.mem_of_getElem? (i := 82) (by decide +kernel))) rfl
theorem w_84 : Cond.instanceMethod yX7_init ∈ lwG := lwG_of (lwT_1 (List.mem_of_getElem? (i := 84) (by decide +kernel))) rfl
theorem w_85 : Cond.code yX7_init cX7_init 1 (none) ∈ lwG := lwG_of (lwT_1 (List.mem_of_getElem? (i := 85) (by decide +kernel))) rfl
theorem w_86 : Cond.methodLink RX7 3 Lib.objectInit ∈ lwG := lwG_of (lwT_1 (List.mem_of_getElem? (i := 86) (by decide +kernel))) rfl
theorem w_87 : Cond.fieldLink RX7 18 "BatchCellars$Vessel" "kind" "I" ∈ lwG := lwG_of (lwT_1 (List.mem_of_getElem? (i := 87) (by decide +kernel))) rfl
theorem w_88 : Cond.fieldLink RX3 149 "BatchCellars$Vessel" "kind" "I" ∈ lwG := lwG_of (lwT_1 (List.mem_of_getElem? (i := 88) (by decide +kernel))) rfl
theorem w_89 : Cond.fieldLink RX7 21 "BatchCellars$Vessel" "size" "I" ∈ lwG := lwG_of (lwT_1 (List.mem_of_getElem? (i := 89) (by decide +kernel))) rfl
theorem w_90 : Cond.fieldLink RX3 150 "BatchCellars$Vessel" "size" "I" ∈ lwG := lwG_of (lwT_1 (List.mem_of_getElem? (i := 90) (by decide +kernel))) rfl
theorem w_91 : Cond.fieldLink RX7 9 "BatchCellars$Vessel" "batch" "I" ∈ lwG := lwG_of (lwT_1 (List.mem_of_getElem? (i := 91) (by decide +kernel))) rfl
theorem w_92 : Cond.fieldLink RX3 199 "BatchCellars$Vessel" "batch" "I" ∈ lwG := lwG_of (lwT_1 (List.mem_of_getElem? (i := 92) (by decide +kernel))) rfl
theorem w_93 : Cond.fieldLink RX7 15 "BatchCellars$Vessel" "lastProduct" "I" ∈ lwG := lwG_of (lwT_1 (List.mem_of_getElem? (i := 93) (by decide +kernel))) rfl
theorem w_94 : Cond.fieldLink RX3 202 "BatchCellars$Vessel" "lastProduct" "I" ∈ lwG := lwG_of (lwT_1 (List.mem_of_getElem? (i := 94) (by decide +kernel))) rfl
theorem w_95 : Cond.fieldLink RX7 24 "BatchCellars$Vessel" "cleaned" "I" ∈ lwG := lwG_of (lwT_1 (List.mem_of_getElem? (i := 95) (by decide +kernel))) rfl
theorem w_96 : Cond.fieldLink RX3 196 "BatchCellars$Vessel" "cleaned" "I" ∈ lwG := lwG_of (lwT_1 (List.mem_of_getElem? (i := 96) (by decide +kernel))) rfl
theorem w_108 : Cond.instantiable RX2 4 ∈ lwG := lwG_of (lwT_1 (List.mem_of_getElem? (i := 108) (by decide +kernel))) rfl
theorem w_110 : Cond.instanceMethod yX2_init ∈ lwG := lwG_of (lwT_1 (List.mem_of_getElem? (i := 110) (by decide +kernel))) rfl
theorem w_111 : Cond.code yX2_init cX2_init 1 (none) ∈ lwG := lwG_of (lwT_1 (List.mem_of_getElem? (i := 111) (by decide +kernel))) rfl
theorem w_112 : Cond.methodLink RX2 1 Lib.objectInit ∈ lwG := lwG_of (lwT_1 (List.mem_of_getElem? (i := 112) (by decide +kernel))) rfl
theorem w_113 : Cond.fieldLink RX2 7 "BatchCellars$Line" "vessels" "I" ∈ lwG := lwG_of (lwT_1 (List.mem_of_getElem? (i := 113) (by decide +kernel))) rfl
theorem w_114 : Cond.fieldLink RX3 163 "BatchCellars$Line" "vessels" "I" ∈ lwG := lwG_of (lwT_1 (List.mem_of_getElem? (i := 114) (by decide +kernel))) rfl
theorem w_115 : Cond.fieldLink RX2 13 "BatchCellars$Line" "speed" "I" ∈ lwG := lwG_of (lwT_1 (List.mem_of_getElem? (i := 115) (by decide +kernel))) rfl
theorem w_116 : Cond.fieldLink RX3 165 "BatchCellars$Line" "speed" "I" ∈ lwG := lwG_of (lwT_1 (List.mem_of_getElem? (i := 116) (by decide +kernel))) rfl
theorem w_117 : Cond.fieldLink RX2 16 "BatchCellars$Line" "busyUntil" "I" ∈ lwG := lwG_of (lwT_1 (List.mem_of_getElem? (i := 117) (by decide +kernel))) rfl
theorem w_118 : Cond.fieldLink RX3 227 "BatchCellars$Line" "busyUntil" "I" ∈ lwG := lwG_of (lwT_1 (List.mem_of_getElem? (i := 118) (by decide +kernel))) rfl
theorem w_119 : Cond.fieldLink RX2 19 "BatchCellars$Line" "carried" "I" ∈ lwG := lwG_of (lwT_1 (List.mem_of_getElem? (i := 119) (by decide +kernel))) rfl
theorem w_120 : Cond.fieldLink RX3 230 "BatchCellars$Line" "carried" "I" ∈ lwG := lwG_of (lwT_1 (List.mem_of_getElem? (i := 120) (by decide +kernel))) rfl
theorem w_130 : Cond.instantiable RX0 13 ∈ lwG := lwG_of (lwT_1 (List.mem_of_getElem? (i := 130) (by decide +kernel))) rfl
theorem w_132 : Cond.instanceMethod yX0_init ∈ lwG := lwG_of (lwT_1 (List.mem_of_getElem? (i := 132) (by decide +kernel))) rfl
theorem w_133 : Cond.code yX0_init cX0_init 1 (none) ∈ lwG := lwG_of (lwT_1 (List.mem_of_getElem? (i := 133) (by decide +kernel))) rfl
theorem w_134 : Cond.methodLink RX0 1 Lib.objectInit ∈ lwG := lwG_of (lwT_1 (List.mem_of_getElem? (i := 134) (by decide +kernel))) rfl
theorem w_135 : Cond.fieldLink RX0 7 "BatchCellars$Batch" "there" "Z" ∈ lwG := lwG_of (lwT_1 (List.mem_of_getElem? (i := 135) (by decide +kernel))) rfl
theorem w_136 : Cond.fieldLink RX3 102 "BatchCellars$Batch" "there" "Z" ∈ lwG := lwG_of (lwT_1 (List.mem_of_getElem? (i := 136) (by decide +kernel))) rfl
theorem w_137 : Cond.fieldLink RX0 13 "BatchCellars$Batch" "recipe" "I" ∈ lwG := lwG_of (lwT_1 (List.mem_of_getElem? (i := 137) (by decide +kernel))) rfl
theorem w_138 : Cond.fieldLink RX3 142 "BatchCellars$Batch" "recipe" "I" ∈ lwG := lwG_of (lwT_1 (List.mem_of_getElem? (i := 138) (by decide +kernel))) rfl
theorem w_139 : Cond.fieldLink RX0 17 "BatchCellars$Batch" "product" "I" ∈ lwG := lwG_of (lwT_1 (List.mem_of_getElem? (i := 139) (by decide +kernel))) rfl
theorem w_140 : Cond.fieldLink RX3 220 "BatchCellars$Batch" "product" "I" ∈ lwG := lwG_of (lwT_1 (List.mem_of_getElem? (i := 140) (by decide +kernel))) rfl
theorem w_141 : Cond.fieldLink RX0 20 "BatchCellars$Batch" "firstMass" "I" ∈ lwG := lwG_of (lwT_1 (List.mem_of_getElem? (i := 141) (by decide +kernel))) rfl
theorem w_142 : Cond.fieldLink RX3 261 "BatchCellars$Batch" "firstMass" "I" ∈ lwG := lwG_of (lwT_1 (List.mem_of_getElem? (i := 142) (by decide +kernel))) rfl
theorem w_143 : Cond.fieldLink RX0 23 "BatchCellars$Batch" "mass" "I" ∈ lwG := lwG_of (lwT_1 (List.mem_of_getElem? (i := 143) (by decide +kernel))) rfl
theorem w_144 : Cond.fieldLink RX3 221 "BatchCellars$Batch" "mass" "I" ∈ lwG := lwG_of (lwT_1 (List.mem_of_getElem? (i := 144) (by decide +kernel))) rfl
theorem w_145 : Cond.fieldLink RX0 26 "BatchCellars$Batch" "blended" "I" ∈ lwG := lwG_of (lwT_1 (List.mem_of_getElem? (i := 145) (by decide +kernel))) rfl
theorem w_146 : Cond.fieldLink RX3 264 "BatchCellars$Batch" "blended" "I" ∈ lwG := lwG_of (lwT_1 (List.mem_of_getElem? (i := 146) (by decide +kernel))) rfl
theorem w_147 : Cond.fieldLink RX0 29 "BatchCellars$Batch" "spoiled" "Z" ∈ lwG := lwG_of (lwT_1 (List.mem_of_getElem? (i := 147) (by decide +kernel))) rfl
theorem w_148 : Cond.fieldLink RX3 251 "BatchCellars$Batch" "spoiled" "Z" ∈ lwG := lwG_of (lwT_1 (List.mem_of_getElem? (i := 148) (by decide +kernel))) rfl
theorem w_149 : Cond.fieldLink RX0 32 "BatchCellars$Batch" "stage" "I" ∈ lwG := lwG_of (lwT_1 (List.mem_of_getElem? (i := 149) (by decide +kernel))) rfl
theorem w_150 : Cond.fieldLink RX3 236 "BatchCellars$Batch" "stage" "I" ∈ lwG := lwG_of (lwT_1 (List.mem_of_getElem? (i := 150) (by decide +kernel))) rfl
theorem w_151 : Cond.fieldLink RX0 35 "BatchCellars$Batch" "vessel" "I" ∈ lwG := lwG_of (lwT_1 (List.mem_of_getElem? (i := 151) (by decide +kernel))) rfl
theorem w_152 : Cond.fieldLink RX3 245 "BatchCellars$Batch" "vessel" "I" ∈ lwG := lwG_of (lwT_1 (List.mem_of_getElem? (i := 152) (by decide +kernel))) rfl
theorem w_153 : Cond.fieldLink RX0 38 "BatchCellars$Batch" "workBegins" "I" ∈ lwG := lwG_of (lwT_1 (List.mem_of_getElem? (i := 153) (by decide +kernel))) rfl
theorem w_154 : Cond.fieldLink RX0 41 "BatchCellars$Batch" "workEnds" "I" ∈ lwG := lwG_of (lwT_1 (List.mem_of_getElem? (i := 154) (by decide +kernel))) rfl
theorem w_155 : Cond.fieldLink RX0 44 "BatchCellars$Batch" "ripeFrom" "I" ∈ lwG := lwG_of (lwT_1 (List.mem_of_getElem? (i := 155) (by decide +kernel))) rfl
theorem w_156 : Cond.fieldLink RX3 279 "BatchCellars$Batch" "ripeFrom" "I" ∈ lwG := lwG_of (lwT_1 (List.mem_of_getElem? (i := 156) (by decide +kernel))) rfl
theorem w_157 : Cond.fieldLink RX0 47 "BatchCellars$Batch" "goodUntil" "I" ∈ lwG := lwG_of (lwT_1 (List.mem_of_getElem? (i := 157) (by decide +kernel))) rfl
theorem w_158 : Cond.fieldLink RX3 267 "BatchCellars$Batch" "goodUntil" "I" ∈ lwG := lwG_of (lwT_1 (List.mem_of_getElem? (i := 158) (by decide +kernel))) rfl
theorem w_187 : Cond.static yX8_putEntry ∈ lwG := lwG_of (lwT_1 (List.mem_of_getElem? (i := 187) (by decide +kernel))) rfl
theorem w_188 : Cond.code yX8_putEntry cX8_putEntry 3 (none) ∈ lwG := lwG_of (lwT_1 (List.mem_of_getElem? (i := 188) (by decide +kernel))) rfl
theorem w_189 : Cond.fieldLink RX3 11 "BatchCellars$Plant" "recipes" "[LBatchCellars$Recipe;" ∈ lwG := lwG_of (lwT_1 (List.mem_of_getElem? (i := 189) (by decide +kernel))) rfl
theorem w_190 : Cond.fieldLink RX3 61 "BatchCellars$Plant" "recipeCount" "I" ∈ lwG := lwG_of (lwT_1 (List.mem_of_getElem? (i := 190) (by decide +kernel))) rfl
theorem w_191 : Cond.fieldLink RX3 19 "BatchCellars$Plant" "vessels" "[LBatchCellars$Vessel;" ∈ lwG := lwG_of (lwT_1 (List.mem_of_getElem? (i := 191) (by decide +kernel))) rfl
theorem w_192 : Cond.fieldLink RX3 65 "BatchCellars$Plant" "vesselCount" "I" ∈ lwG := lwG_of (lwT_1 (List.mem_of_getElem? (i := 192) (by decide +kernel))) rfl
theorem w_193 : Cond.fieldLink RX3 25 "BatchCellars$Plant" "lines" "[LBatchCellars$Line;" ∈ lwG := lwG_of (lwT_1 (List.mem_of_getElem? (i := 193) (by decide +kernel))) rfl
theorem w_194 : Cond.fieldLink RX3 68 "BatchCellars$Plant" "lineCount" "I" ∈ lwG := lwG_of (lwT_1 (List.mem_of_getElem? (i := 194) (by decide +kernel))) rfl
theorem w_195 : Cond.fieldLink RX3 31 "BatchCellars$Plant" "batches" "[LBatchCellars$Batch;" ∈ lwG := lwG_of (lwT_1 (List.mem_of_getElem? (i := 195) (by decide +kernel))) rfl
theorem w_196 : Cond.fieldLink RX3 35 "BatchCellars$Plant" "cleaningTable" "[I" ∈ lwG := lwG_of (lwT_1 (List.mem_of_getElem? (i := 196) (by decide +kernel))) rfl
theorem w_197 : Cond.fieldLink RX3 39 "BatchCellars$Plant" "settings" "[I" ∈ lwG := lwG_of (lwT_1 (List.mem_of_getElem? (i := 197) (by decide +kernel))) rfl
theorem w_198 : Cond.fieldLink RX8 134 "BatchCellars$Plant" "settings" "[I" ∈ lwG := lwG_of (lwT_1 (List.mem_of_getElem? (i := 198) (by decide +kernel))) rfl
theorem w_199 : Cond.fieldLink RX3 42 "BatchCellars$Plant" "offGrade" "[I" ∈ lwG := lwG_of (lwT_1 (List.mem_of_getElem? (i := 199) (by decide +kernel))) rfl
theorem w_200 : Cond.fieldLink RX8 142 "BatchCellars$Plant" "offGrade" "[I" ∈ lwG := lwG_of (lwT_1 (List.mem_of_getElem? (i := 200) (by decide +kernel))) rfl
theorem w_201 : Cond.fieldLink RX3 71 "BatchCellars$Plant" "time" "I" ∈ lwG := lwG_of (lwT_1 (List.mem_of_getElem? (i := 201) (by decide +kernel))) rfl
theorem w_202 : Cond.fieldLink RX8 107 "BatchCellars$Plant" "time" "I" ∈ lwG := lwG_of (lwT_1 (List.mem_of_getElem? (i := 202) (by decide +kernel))) rfl
theorem w_203 : Cond.fieldLink RX3 74 "BatchCellars$Plant" "begunMass" "I" ∈ lwG := lwG_of (lwT_1 (List.mem_of_getElem? (i := 203) (by decide +kernel))) rfl
theorem w_204 : Cond.fieldLink RX3 77 "BatchCellars$Plant" "madeMass" "I" ∈ lwG := lwG_of (lwT_1 (List.mem_of_getElem? (i := 204) (by decide +kernel))) rfl
theorem w_205 : Cond.fieldLink RX3 80 "BatchCellars$Plant" "lostMass" "I" ∈ lwG := lwG_of (lwT_1 (List.mem_of_getElem? (i := 205) (by decide +kernel))) rfl
theorem w_206 : Cond.fieldLink RX3 83 "BatchCellars$Plant" "madeBatches" "I" ∈ lwG := lwG_of (lwT_1 (List.mem_of_getElem? (i := 206) (by decide +kernel))) rfl
theorem w_207 : Cond.fieldLink RX3 86 "BatchCellars$Plant" "spoiledBatches" "I" ∈ lwG := lwG_of (lwT_1 (List.mem_of_getElem? (i := 207) (by decide +kernel))) rfl
theorem w_241 : Cond.classLink RX8 19 RX1 ∈ lwG := lwG_of (lwT_2 (List.mem_of_getElem? (i := 1) (by decide +kernel))) rfl
theorem w_242 : Cond.instantiable RX1 3 ∈ lwG := lwG_of (lwT_2 (List.mem_of_getElem? (i := 2) (by decide +kernel))) rfl
theorem w_243 : Cond.methodLink RX8 21 yX1_init ∈ lwG := lwG_of (lwT_2 (List.mem_of_getElem? (i := 3) (by decide +kernel))) rfl
theorem w_244 : Cond.instanceMethod yX1_init ∈ lwG := lwG_of (lwT_2 (List.mem_of_getElem? (i := 4) (by decide +kernel))) rfl
theorem w_245 : Cond.code yX1_init cX1_init 2 (none) ∈ lwG := lwG_of (lwT_2 (List.mem_of_getElem? (i := 5) (by decide +kernel))) rfl
theorem w_246 : Cond.methodLink RX1 3 Lib.objectInit ∈ lwG := lwG_of (lwT_2 (List.mem_of_getElem? (i := 6) (by decide +kernel))) rfl
theorem w_247 : Cond.classLink RX1 9 RX3 ∈ lwG := lwG_of (lwT_2 (List.mem_of_getElem? (i := 7) (by decide +kernel))) rfl
theorem w_249 : Cond.methodLink RX1 17 yX3_init ∈ lwG := lwG_of (lwT_2 (List.mem_of_getElem? (i := 9) (by decide +kernel))) rfl
theorem w_250 : Cond.fieldLink RX1 11 "BatchCellars$History" "rows" "[LBatchCellars$Plant;" ∈ lwG := lwG_of (lwT_2 (List.mem_of_getElem? (i := 10) (by decide +kernel))) rfl
theorem w_251 : Cond.fieldLink RX1 18 "BatchCellars$History" "open" "I" ∈ lwG := lwG_of (lwT_2 (List.mem_of_getElem? (i := 11) (by decide +kernel))) rfl
theorem w_252 : Cond.fieldLink RX1 26 "BatchCellars$History" "states" "I" ∈ lwG := lwG_of (lwT_2 (List.mem_of_getElem? (i := 12) (by decide +kernel))) rfl
theorem w_253 : Cond.fieldLink RX8 128 "BatchCellars$History" "states" "I" ∈ lwG := lwG_of (lwT_2 (List.mem_of_getElem? (i := 13) (by decide +kernel))) rfl
theorem w_261 : Cond.classLink RX8 26 RX5 ∈ lwG := lwG_of (lwT_2 (List.mem_of_getElem? (i := 21) (by decide +kernel))) rfl
theorem w_262 : Cond.instantiable RX5 5 ∈ lwG := lwG_of (lwT_2 (List.mem_of_getElem? (i := 22) (by decide +kernel))) rfl
theorem w_264 : Cond.instanceMethod yX5_init ∈ lwG := lwG_of (lwT_2 (List.mem_of_getElem? (i := 24) (by decide +kernel))) rfl
theorem w_265 : Cond.code yX5_init cX5_init 1 (none) ∈ lwG := lwG_of (lwT_2 (List.mem_of_getElem? (i := 25) (by decide +kernel))) rfl
theorem w_266 : Cond.methodLink RX5 3 Lib.objectInit ∈ lwG := lwG_of (lwT_2 (List.mem_of_getElem? (i := 26) (by decide +kernel))) rfl
theorem w_267 : Cond.fieldLink RX5 9 "BatchCellars$Script" "signs" "[C" ∈ lwG := lwG_of (lwT_2 (List.mem_of_getElem? (i := 27) (by decide +kernel))) rfl
theorem w_268 : Cond.fieldLink RX5 23 "BatchCellars$Script" "length" "I" ∈ lwG := lwG_of (lwT_2 (List.mem_of_getElem? (i := 28) (by decide +kernel))) rfl
theorem w_269 : Cond.fieldLink RX8 131 "BatchCellars$Script" "length" "I" ∈ lwG := lwG_of (lwT_2 (List.mem_of_getElem? (i := 29) (by decide +kernel))) rfl
theorem w_270 : Cond.fieldLink RX5 31 "BatchCellars$Script" "letter" "C" ∈ lwG := lwG_of (lwT_2 (List.mem_of_getElem? (i := 30) (by decide +kernel))) rfl
theorem w_271 : Cond.fieldLink RX8 204 "BatchCellars$Script" "letter" "C" ∈ lwG := lwG_of (lwT_2 (List.mem_of_getElem? (i := 31) (by decide +kernel))) rfl
theorem w_272 : Cond.fieldLink RX5 15 "BatchCellars$Script" "numbers" "[I" ∈ lwG := lwG_of (lwT_2 (List.mem_of_getElem? (i := 32) (by decide +kernel))) rfl
theorem w_273 : Cond.fieldLink RX8 201 "BatchCellars$Script" "numbers" "[I" ∈ lwG := lwG_of (lwT_2 (List.mem_of_getElem? (i := 33) (by decide +kernel))) rfl
theorem w_274 : Cond.fieldLink RX5 39 "BatchCellars$Script" "behind" "I" ∈ lwG := lwG_of (lwT_2 (List.mem_of_getElem? (i := 34) (by decide +kernel))) rfl
theorem w_275 : Cond.fieldLink RX8 198 "BatchCellars$Script" "behind" "I" ∈ lwG := lwG_of (lwT_2 (List.mem_of_getElem? (i := 35) (by decide +kernel))) rfl
theorem w_287 : Cond.arrayClass .char ∈ lwG := lwG_of (lwT_2 (List.mem_of_getElem? (i := 47) (by decide +kernel))) rfl
theorem w_288 : Cond.fieldLink RX8 10 "BatchCellars" "plant" "LBatchCellars$Plant;" ∈ lwG := lwG_of (lwT_2 (List.mem_of_getElem? (i := 48) (by decide +kernel))) rfl
theorem w_289 : Cond.fieldLink RX8 16 "BatchCellars" "rehearsal" "LBatchCellars$Plant;" ∈ lwG := lwG_of (lwT_2 (List.mem_of_getElem? (i := 49) (by decide +kernel))) rfl
theorem w_290 : Cond.fieldLink RX8 22 "BatchCellars" "history" "LBatchCellars$History;" ∈ lwG := lwG_of (lwT_2 (List.mem_of_getElem? (i := 50) (by decide +kernel))) rfl
theorem w_291 : Cond.fieldLink RX8 29 "BatchCellars" "script" "LBatchCellars$Script;" ∈ lwG := lwG_of (lwT_2 (List.mem_of_getElem? (i := 51) (by decide +kernel))) rfl
theorem w_292 : Cond.fieldLink RX8 175 "BatchCellars" "faultReason" "I" ∈ lwG := lwG_of (lwT_2 (List.mem_of_getElem? (i := 52) (by decide +kernel))) rfl
theorem w_293 : Cond.fieldLink RX8 178 "BatchCellars" "faultPlace" "I" ∈ lwG := lwG_of (lwT_2 (List.mem_of_getElem? (i := 53) (by decide +kernel))) rfl
theorem w_294 : Cond.fieldLink RX8 184 "BatchCellars" "commandsDone" "I" ∈ lwG := lwG_of (lwT_2 (List.mem_of_getElem? (i := 54) (by decide +kernel))) rfl
theorem w_310 : Cond.methodLink RL 13 yX8_recipe ∈ lwG := lwG_of (lwT_2 (List.mem_of_getElem? (i := 70) (by decide +kernel))) rfl
theorem w_311 : Cond.instanceMethod yX8_recipe ∈ lwG := lwG_of (lwT_2 (List.mem_of_getElem? (i := 71) (by decide +kernel))) rfl
theorem w_312 : Cond.selects RX8 yX8_recipe yX8_recipe ∈ lwG := lwG_of (lwT_2 (List.mem_of_getElem? (i := 72) (by decide +kernel))) rfl
theorem w_313 : Cond.code yX8_recipe cX8_recipe 2 (some .int) ∈ lwG := lwG_of (lwT_2 (List.mem_of_getElem? (i := 73) (by decide +kernel))) rfl
theorem w_314 : Cond.methodLink RX8 33 yX1_prepare ∈ lwG := lwG_of (lwT_2 (List.mem_of_getElem? (i := 74) (by decide +kernel))) rfl
theorem w_315 : Cond.instanceMethod yX1_prepare ∈ lwG := lwG_of (lwT_2 (List.mem_of_getElem? (i := 75) (by decide +kernel))) rfl
theorem w_316 : Cond.selects RX1 yX1_prepare yX1_prepare ∈ lwG := lwG_of (lwT_2 (List.mem_of_getElem? (i := 76) (by decide +kernel))) rfl
theorem w_317 : Cond.code yX1_prepare cX1_prepare 2 (none) ∈ lwG := lwG_of (lwT_2 (List.mem_of_getElem? (i := 77) (by decide +kernel))) rfl
theorem w_318 : Cond.methodLink RX1 22 yX3_copyFrom ∈ lwG := lwG_of (lwT_2 (List.mem_of_getElem? (i := 78) (by decide +kernel))) rfl
theorem w_319 : Cond.instanceMethod yX3_copyFrom ∈ lwG := lwG_of (lwT_2 (List.mem_of_getElem? (i := 79) (by decide +kernel))) rfl
theorem w_320 : Cond.selects RX3 yX3_copyFrom yX3_copyFrom ∈ lwG := lwG_of (lwT_2 (List.mem_of_getElem? (i := 80) (by decide +kernel))) rfl
theorem w_321 : Cond.code yX3_copyFrom cX3_copyFrom 2 (none) ∈ lwG := lwG_of (lwT_2 (List.mem_of_getElem? (i := 81) (by decide +kernel))) rfl
theorem w_322 : Cond.methodLink RX3 53 yX3_copyParts ∈ lwG := lwG_of (lwT_2 (List.mem_of_getElem? (i := 82) (by decide +kernel))) rfl
theorem w_323 : Cond.instanceMethod yX3_copyParts ∈ lwG := lwG_of (lwT_2 (List.mem_of_getElem? (i := 83) (by decide +kernel))) rfl
theorem w_324 : Cond.selects RX3 yX3_copyParts yX3_copyParts ∈ lwG := lwG_of (lwT_2 (List.mem_of_getElem? (i := 84) (by decide +kernel))) rfl
theorem w_325 : Cond.code yX3_copyParts cX3_copyParts 3 (none) ∈ lwG := lwG_of (lwT_2 (List.mem_of_getElem? (i := 85) (by decide +kernel))) rfl
theorem w_326 : Cond.methodLink RX3 89 yX4_copyFrom ∈ lwG := lwG_of (lwT_2 (List.mem_of_getElem? (i := 86) (by decide +kernel))) rfl
theorem w_327 : Cond.instanceMethod yX4_copyFrom ∈ lwG := lwG_of (lwT_2 (List.mem_of_getElem? (i := 87) (by decide +kernel))) rfl
theorem w_328 : Cond.selects RX4 yX4_copyFrom yX4_copyFrom ∈ lwG := lwG_of (lwT_2 (List.mem_of_getElem? (i := 88) (by decide +kernel))) rfl
theorem w_329 : Cond.code yX4_copyFrom cX4_copyFrom 3 (none) ∈ lwG := lwG_of (lwT_2 (List.mem_of_getElem? (i := 89) (by decide +kernel))) rfl
theorem w_330 : Cond.methodLink RX4 25 yX6_copyFrom ∈ lwG := lwG_of (lwT_2 (List.mem_of_getElem? (i := 90) (by decide +kernel))) rfl
theorem w_331 : Cond.instanceMethod yX6_copyFrom ∈ lwG := lwG_of (lwT_2 (List.mem_of_getElem? (i := 91) (by decide +kernel))) rfl
theorem w_332 : Cond.selects RX6 yX6_copyFrom yX6_copyFrom ∈ lwG := lwG_of (lwT_2 (List.mem_of_getElem? (i := 92) (by decide +kernel))) rfl
theorem w_333 : Cond.code yX6_copyFrom cX6_copyFrom 2 (none) ∈ lwG := lwG_of (lwT_2 (List.mem_of_getElem? (i := 93) (by decide +kernel))) rfl
theorem w_334 : Cond.methodLink RX3 93 yX7_copyFrom ∈ lwG := lwG_of (lwT_2 (List.mem_of_getElem? (i := 94) (by decide +kernel))) rfl
theorem w_335 : Cond.instanceMethod yX7_copyFrom ∈ lwG := lwG_of (lwT_2 (List.mem_of_getElem? (i := 95) (by decide +kernel))) rfl
theorem w_336 : Cond.selects RX7 yX7_copyFrom yX7_copyFrom ∈ lwG := lwG_of (lwT_2 (List.mem_of_getElem? (i := 96) (by decide +kernel))) rfl
theorem w_337 : Cond.code yX7_copyFrom cX7_copyFrom 2 (none) ∈ lwG := lwG_of (lwT_2 (List.mem_of_getElem? (i := 97) (by decide +kernel))) rfl
theorem w_338 : Cond.methodLink RX3 96 yX2_copyFrom ∈ lwG := lwG_of (lwT_2 (List.mem_of_getElem? (i := 98) (by decide +kernel))) rfl
theorem w_339 : Cond.instanceMethod yX2_copyFrom ∈ lwG := lwG_of (lwT_2 (List.mem_of_getElem? (i := 99) (by decide +kernel))) rfl
theorem w_340 : Cond.selects RX2 yX2_copyFrom yX2_copyFrom ∈ lwG := lwG_of (lwT_2 (List.mem_of_getElem? (i := 100) (by decide +kernel))) rfl
theorem w_341 : Cond.code yX2_copyFrom cX2_copyFrom 2 (none) ∈ lwG := lwG_of (lwT_2 (List.mem_of_getElem? (i := 101) (by decide +kernel))) rfl
theorem w_342 : Cond.methodLink RX3 99 yX0_copyFrom ∈ lwG := lwG_of (lwT_2 (List.mem_of_getElem? (i := 102) (by decide +kernel))) rfl
theorem w_343 : Cond.instanceMethod yX0_copyFrom ∈ lwG := lwG_of (lwT_2 (List.mem_of_getElem? (i := 103) (by decide +kernel))) rfl
theorem w_344 : Cond.selects RX0 yX0_copyFrom yX0_copyFrom ∈ lwG := lwG_of (lwT_2 (List.mem_of_getElem? (i := 104) (by decide +kernel))) rfl
theorem w_345 : Cond.code yX0_copyFrom cX0_copyFrom 2 (none) ∈ lwG := lwG_of (lwT_2 (List.mem_of_getElem? (i := 105) (by decide +kernel))) rfl
theorem w_347 : Cond.static yX8_copyEntries ∈ lwG := lwG_of (lwT_2 (List.mem_of_getElem? (i := 107) (by decide +kernel))) rfl
theorem w_348 : Cond.code yX8_copyEntries cX8_copyEntries 2 (none) ∈ lwG := lwG_of (lwT_2 (List.mem_of_getElem? (i := 108) (by decide +kernel))) rfl
theorem w_349 : Cond.methodLink RX8 208 yJ9_min_7cf53 ∈ lwG := lwG_of (lwT_2 (List.mem_of_getElem? (i := 109) (by decide +kernel))) rfl
theorem w_350 : Cond.static yJ9_min_7cf53 ∈ lwG := lwG_of (lwT_2 (List.mem_of_getElem? (i := 110) (by decide +kernel))) rfl
theorem w_351 : Cond.code yJ9_min_7cf53 cJ9_min_7cf53 2 (some .int) ∈ lwG := lwG_of (lwT_2 (List.mem_of_getElem? (i := 111) (by decide +kernel))) rfl
theorem w_352 : Cond.methodLink RX8 213 arraycopyName ∈ lwG := lwG_of (lwT_2 (List.mem_of_getElem? (i := 112) (by decide +kernel))) rfl
theorem w_353 : Cond.static arraycopyName ∈ lwG := lwG_of (lwT_2 (List.mem_of_getElem? (i := 113) (by decide +kernel))) rfl
theorem w_354 : Cond.native arraycopyName ∈ lwG := lwG_of (lwT_2 (List.mem_of_getElem? (i := 114) (by decide +kernel))) rfl
theorem w_355 : Cond.methodLink RX8 37 yX3_addRecipe ∈ lwG := lwG_of (lwT_2 (List.mem_of_getElem? (i := 115) (by decide +kernel))) rfl
theorem w_356 : Cond.instanceMethod yX3_addRecipe ∈ lwG := lwG_of (lwT_2 (List.mem_of_getElem? (i := 116) (by decide +kernel))) rfl
theorem w_357 : Cond.selects RX3 yX3_addRecipe yX3_addRecipe ∈ lwG := lwG_of (lwT_2 (List.mem_of_getElem? (i := 117) (by decide +kernel))) rfl
theorem w_358 : Cond.code yX3_addRecipe cX3_addRecipe 3 (some .int) ∈ lwG := lwG_of (lwT_2 (List.mem_of_getElem? (i := 118) (by decide +kernel))) rfl
theorem w_360 : Cond.static yX8_isWithin ∈ lwG := lwG_of (lwT_2 (List.mem_of_getElem? (i := 120) (by decide +kernel))) rfl
theorem w_361 : Cond.code yX8_isWithin cX8_isWithin 3 (some .boolean) ∈ lwG := lwG_of (lwT_2 (List.mem_of_getElem? (i := 121) (by decide +kernel))) rfl
theorem w_362 : Cond.methodLink RX3 110 yX3_recipeAt ∈ lwG := lwG_of (lwT_2 (List.mem_of_getElem? (i := 122) (by decide +kernel))) rfl
theorem w_363 : Cond.instanceMethod yX3_recipeAt ∈ lwG := lwG_of (lwT_2 (List.mem_of_getElem? (i := 123) (by decide +kernel))) rfl
theorem w_364 : Cond.selects RX3 yX3_recipeAt yX3_recipeAt ∈ lwG := lwG_of (lwT_2 (List.mem_of_getElem? (i := 124) (by decide +kernel))) rfl
theorem w_365 : Cond.code yX3_recipeAt cX3_recipeAt 3 (some (.object "BatchCellars$Recipe")) ∈ lwG := lwG_of (lwT_2 (List.mem_of_getElem? (i := 125) (by decide +kernel))) rfl
theorem w_366 : Cond.methodLink RX8 41 yX1_settle ∈ lwG := lwG_of (lwT_2 (List.mem_of_getElem? (i := 126) (by decide +kernel))) rfl
theorem w_367 : Cond.instanceMethod yX1_settle ∈ lwG := lwG_of (lwT_2 (List.mem_of_getElem? (i := 127) (by decide +kernel))) rfl
theorem w_368 : Cond.selects RX1 yX1_settle yX1_settle ∈ lwG := lwG_of (lwT_2 (List.mem_of_getElem? (i := 128) (by decide +kernel))) rfl
theorem w_369 : Cond.code yX1_settle cX1_settle 2 (some .int) ∈ lwG := lwG_of (lwT_2 (List.mem_of_getElem? (i := 129) (by decide +kernel))) rfl
theorem w_370 : Cond.methodLink RX1 29 yJ9_min_7cf53 ∈ lwG := lwG_of (lwT_2 (List.mem_of_getElem? (i := 130) (by decide +kernel))) rfl
theorem w_371 : Cond.methodLink RL 18 yX8_stage ∈ lwG := lwG_of (lwT_2 (List.mem_of_getElem? (i := 131) (by decide +kernel))) rfl
theorem w_372 : Cond.instanceMethod yX8_stage ∈ lwG := lwG_of (lwT_2 (List.mem_of_getElem? (i := 132) (by decide +kernel))) rfl
theorem w_373 : Cond.selects RX8 yX8_stage yX8_stage ∈ lwG := lwG_of (lwT_2 (List.mem_of_getElem? (i := 133) (by decide +kernel))) rfl
theorem w_374 : Cond.code yX8_stage cX8_stage 6 (some .int) ∈ lwG := lwG_of (lwT_2 (List.mem_of_getElem? (i := 134) (by decide +kernel))) rfl
theorem w_375 : Cond.methodLink RX8 44 yX3_addStage ∈ lwG := lwG_of (lwT_2 (List.mem_of_getElem? (i := 135) (by decide +kernel))) rfl
theorem w_376 : Cond.instanceMethod yX3_addStage ∈ lwG := lwG_of (lwT_2 (List.mem_of_getElem? (i := 136) (by decide +kernel))) rfl
theorem w_377 : Cond.selects RX3 yX3_addStage yX3_addStage ∈ lwG := lwG_of (lwT_2 (List.mem_of_getElem? (i := 137) (by decide +kernel))) rfl
theorem w_378 : Cond.code yX3_addStage cX3_addStage 8 (some .int) ∈ lwG := lwG_of (lwT_2 (List.mem_of_getElem? (i := 138) (by decide +kernel))) rfl
theorem w_379 : Cond.methodLink RX3 120 yX3_hasBatchOf ∈ lwG := lwG_of (lwT_2 (List.mem_of_getElem? (i := 139) (by decide +kernel))) rfl
theorem w_380 : Cond.instanceMethod yX3_hasBatchOf ∈ lwG := lwG_of (lwT_2 (List.mem_of_getElem? (i := 140) (by decide +kernel))) rfl
theorem w_381 : Cond.selects RX3 yX3_hasBatchOf yX3_hasBatchOf ∈ lwG := lwG_of (lwT_2 (List.mem_of_getElem? (i := 141) (by decide +kernel))) rfl
theorem w_382 : Cond.code yX3_hasBatchOf cX3_hasBatchOf 3 (some .boolean) ∈ lwG := lwG_of (lwT_2 (List.mem_of_getElem? (i := 142) (by decide +kernel))) rfl
theorem w_383 : Cond.methodLink RX3 124 yX4_stageAt ∈ lwG := lwG_of (lwT_2 (List.mem_of_getElem? (i := 143) (by decide +kernel))) rfl
theorem w_384 : Cond.instanceMethod yX4_stageAt ∈ lwG := lwG_of (lwT_2 (List.mem_of_getElem? (i := 144) (by decide +kernel))) rfl
theorem w_385 : Cond.selects RX4 yX4_stageAt yX4_stageAt ∈ lwG := lwG_of (lwT_2 (List.mem_of_getElem? (i := 145) (by decide +kernel))) rfl
theorem w_386 : Cond.code yX4_stageAt cX4_stageAt 3 (some (.object "BatchCellars$Stage")) ∈ lwG := lwG_of (lwT_2 (List.mem_of_getElem? (i := 146) (by decide +kernel))) rfl
theorem w_387 : Cond.methodLink RL 23 yX8_vessel ∈ lwG := lwG_of (lwT_2 (List.mem_of_getElem? (i := 147) (by decide +kernel))) rfl
theorem w_388 : Cond.instanceMethod yX8_vessel ∈ lwG := lwG_of (lwT_2 (List.mem_of_getElem? (i := 148) (by decide +kernel))) rfl
theorem w_389 : Cond.selects RX8 yX8_vessel yX8_vessel ∈ lwG := lwG_of (lwT_2 (List.mem_of_getElem? (i := 149) (by decide +kernel))) rfl
theorem w_390 : Cond.code yX8_vessel cX8_vessel 3 (some .int) ∈ lwG := lwG_of (lwT_2 (List.mem_of_getElem? (i := 150) (by decide +kernel))) rfl
theorem w_391 : Cond.methodLink RX8 48 yX3_addVessel ∈ lwG := lwG_of (lwT_2 (List.mem_of_getElem? (i := 151) (by decide +kernel))) rfl
theorem w_392 : Cond.instanceMethod yX3_addVessel ∈ lwG := lwG_of (lwT_2 (List.mem_of_getElem? (i := 152) (by decide +kernel))) rfl
theorem w_393 : Cond.selects RX3 yX3_addVessel yX3_addVessel ∈ lwG := lwG_of (lwT_2 (List.mem_of_getElem? (i := 153) (by decide +kernel))) rfl
theorem w_394 : Cond.code yX3_addVessel cX3_addVessel 4 (some .int) ∈ lwG := lwG_of (lwT_2 (List.mem_of_getElem? (i := 154) (by decide +kernel))) rfl
theorem w_395 : Cond.methodLink RX3 145 yX3_vesselAt ∈ lwG := lwG_of (lwT_2 (List.mem_of_getElem? (i := 155) (by decide +kernel))) rfl
theorem w_396 : Cond.instanceMethod yX3_vesselAt ∈ lwG := lwG_of (lwT_2 (List.mem_of_getElem? (i := 156) (by decide +kernel))) rfl
theorem w_397 : Cond.selects RX3 yX3_vesselAt yX3_vesselAt ∈ lwG := lwG_of (lwT_2 (List.mem_of_getElem? (i := 157) (by decide +kernel))) rfl
theorem w_398 : Cond.code yX3_vesselAt cX3_vesselAt 3 (some (.object "BatchCellars$Vessel")) ∈ lwG := lwG_of (lwT_2 (List.mem_of_getElem? (i := 158) (by decide +kernel))) rfl
theorem w_399 : Cond.methodLink RL 28 yX8_line ∈ lwG := lwG_of (lwT_2 (List.mem_of_getElem? (i := 159) (by decide +kernel))) rfl
theorem w_400 : Cond.instanceMethod yX8_line ∈ lwG := lwG_of (lwT_2 (List.mem_of_getElem? (i := 160) (by decide +kernel))) rfl
theorem w_401 : Cond.selects RX8 yX8_line yX8_line ∈ lwG := lwG_of (lwT_2 (List.mem_of_getElem? (i := 161) (by decide +kernel))) rfl
theorem w_402 : Cond.code yX8_line cX8_line 3 (some .int) ∈ lwG := lwG_of (lwT_2 (List.mem_of_getElem? (i := 162) (by decide +kernel))) rfl
theorem w_403 : Cond.methodLink RX8 52 yX3_addLine ∈ lwG := lwG_of (lwT_2 (List.mem_of_getElem? (i := 163) (by decide +kernel))) rfl
theorem w_404 : Cond.instanceMethod yX3_addLine ∈ lwG := lwG_of (lwT_2 (List.mem_of_getElem? (i := 164) (by decide +kernel))) rfl
theorem w_405 : Cond.selects RX3 yX3_addLine yX3_addLine ∈ lwG := lwG_of (lwT_2 (List.mem_of_getElem? (i := 165) (by decide +kernel))) rfl
theorem w_406 : Cond.code yX3_addLine cX3_addLine 5 (some .int) ∈ lwG := lwG_of (lwT_2 (List.mem_of_getElem? (i := 166) (by decide +kernel))) rfl
theorem w_407 : Cond.methodLink RX3 153 yJ6_bitCount_0f7a4 ∈ lwG := lwG_of (lwT_2 (List.mem_of_getElem? (i := 167) (by decide +kernel))) rfl
theorem w_408 : Cond.static yJ6_bitCount_0f7a4 ∈ lwG := lwG_of (lwT_2 (List.mem_of_getElem? (i := 168) (by decide +kernel))) rfl
theorem w_409 : Cond.code yJ6_bitCount_0f7a4 cJ6_bitCount_0f7a4 1 (some .int) ∈ lwG := lwG_of (lwT_2 (List.mem_of_getElem? (i := 169) (by decide +kernel))) rfl
theorem w_410 : Cond.constant RJ6 265 1431655765 ∈ lwG := lwG_of (lwT_2 (List.mem_of_getElem? (i := 170) (by decide +kernel))) rfl
theorem w_411 : Cond.constant RJ6 266 858993459 ∈ lwG := lwG_of (lwT_2 (List.mem_of_getElem? (i := 171) (by decide +kernel))) rfl
theorem w_412 : Cond.constant RJ6 267 252645135 ∈ lwG := lwG_of (lwT_2 (List.mem_of_getElem? (i := 172) (by decide +kernel))) rfl
theorem w_413 : Cond.methodLink RX3 159 yX3_lineAt ∈ lwG := lwG_of (lwT_2 (List.mem_of_getElem? (i := 173) (by decide +kernel))) rfl
theorem w_414 : Cond.instanceMethod yX3_lineAt ∈ lwG := lwG_of (lwT_2 (List.mem_of_getElem? (i := 174) (by decide +kernel))) rfl
theorem w_415 : Cond.selects RX3 yX3_lineAt yX3_lineAt ∈ lwG := lwG_of (lwT_2 (List.mem_of_getElem? (i := 175) (by decide +kernel))) rfl
theorem w_416 : Cond.code yX3_lineAt cX3_lineAt 3 (some (.object "BatchCellars$Line")) ∈ lwG := lwG_of (lwT_2 (List.mem_of_getElem? (i := 176) (by decide +kernel))) rfl
theorem w_417 : Cond.methodLink RL 32 yX8_cleaning ∈ lwG := lwG_of (lwT_2 (List.mem_of_getElem? (i := 177) (by decide +kernel))) rfl
theorem w_418 : Cond.instanceMethod yX8_cleaning ∈ lwG := lwG_of (lwT_2 (List.mem_of_getElem? (i := 178) (by decide +kernel))) rfl
theorem w_419 : Cond.selects RX8 yX8_cleaning yX8_cleaning ∈ lwG := lwG_of (lwT_2 (List.mem_of_getElem? (i := 179) (by decide +kernel))) rfl
theorem w_420 : Cond.code yX8_cleaning cX8_cleaning 4 (some .int) ∈ lwG := lwG_of (lwT_2 (List.mem_of_getElem? (i := 180) (by decide +kernel))) rfl
theorem w_421 : Cond.methodLink RX8 55 yX3_changeCleaning ∈ lwG := lwG_of (lwT_2 (List.mem_of_getElem? (i := 181) (by decide +kernel))) rfl
theorem w_422 : Cond.instanceMethod yX3_changeCleaning ∈ lwG := lwG_of (lwT_2 (List.mem_of_getElem? (i := 182) (by decide +kernel))) rfl
theorem w_423 : Cond.selects RX3 yX3_changeCleaning yX3_changeCleaning ∈ lwG := lwG_of (lwT_2 (List.mem_of_getElem? (i := 183) (by decide +kernel))) rfl
theorem w_424 : Cond.code yX3_changeCleaning cX3_changeCleaning 5 (some .int) ∈ lwG := lwG_of (lwT_2 (List.mem_of_getElem? (i := 184) (by decide +kernel))) rfl
theorem w_426 : Cond.static yX8_entryAt ∈ lwG := lwG_of (lwT_2 (List.mem_of_getElem? (i := 186) (by decide +kernel))) rfl
theorem w_427 : Cond.code yX8_entryAt cX8_entryAt 2 (some .int) ∈ lwG := lwG_of (lwT_2 (List.mem_of_getElem? (i := 187) (by decide +kernel))) rfl
theorem w_428 : Cond.methodLink RL 37 yX8_stageOf ∈ lwG := lwG_of (lwT_2 (List.mem_of_getElem? (i := 188) (by decide +kernel))) rfl
theorem w_429 : Cond.instanceMethod yX8_stageOf ∈ lwG := lwG_of (lwT_2 (List.mem_of_getElem? (i := 189) (by decide +kernel))) rfl
theorem w_430 : Cond.selects RX8 yX8_stageOf yX8_stageOf ∈ lwG := lwG_of (lwT_2 (List.mem_of_getElem? (i := 190) (by decide +kernel))) rfl
theorem w_431 : Cond.code yX8_stageOf cX8_stageOf 6 (some .int) ∈ lwG := lwG_of (lwT_2 (List.mem_of_getElem? (i := 191) (by decide +kernel))) rfl
theorem w_432 : Cond.methodLink RX8 59 yX3_recipeAt ∈ lwG := lwG_of (lwT_2 (List.mem_of_getElem? (i := 192) (by decide +kernel))) rfl
theorem w_433 : Cond.methodLink RX8 63 yX8_isWithin ∈ lwG := lwG_of (lwT_2 (List.mem_of_getElem? (i := 193) (by decide +kernel))) rfl
theorem w_434 : Cond.methodLink RX8 67 yX4_stageAt ∈ lwG := lwG_of (lwT_2 (List.mem_of_getElem? (i := 194) (by decide +kernel))) rfl
theorem w_435 : Cond.methodLink RX8 77 yX6_detail ∈ lwG := lwG_of (lwT_2 (List.mem_of_getElem? (i := 195) (by decide +kernel))) rfl
theorem w_436 : Cond.instanceMethod yX6_detail ∈ lwG := lwG_of (lwT_2 (List.mem_of_getElem? (i := 196) (by decide +kernel))) rfl
theorem w_437 : Cond.selects RX6 yX6_detail yX6_detail ∈ lwG := lwG_of (lwT_2 (List.mem_of_getElem? (i := 197) (by decide +kernel))) rfl
theorem w_438 : Cond.code yX6_detail cX6_detail 2 (some .int) ∈ lwG := lwG_of (lwT_2 (List.mem_of_getElem? (i := 198) (by decide +kernel))) rfl
theorem w_439 : Cond.methodLink RL 41 yX8_begin ∈ lwG := lwG_of (lwT_2 (List.mem_of_getElem? (i := 199) (by decide +kernel))) rfl
theorem w_440 : Cond.instanceMethod yX8_begin ∈ lwG := lwG_of (lwT_2 (List.mem_of_getElem? (i := 200) (by decide +kernel))) rfl
theorem w_441 : Cond.selects RX8 yX8_begin yX8_begin ∈ lwG := lwG_of (lwT_2 (List.mem_of_getElem? (i := 201) (by decide +kernel))) rfl
theorem w_442 : Cond.code yX8_begin cX8_begin 4 (some .int) ∈ lwG := lwG_of (lwT_2 (List.mem_of_getElem? (i := 202) (by decide +kernel))) rfl
theorem w_443 : Cond.methodLink RX8 82 yX3_beginBatch ∈ lwG := lwG_of (lwT_2 (List.mem_of_getElem? (i := 203) (by decide +kernel))) rfl
theorem w_444 : Cond.instanceMethod yX3_beginBatch ∈ lwG := lwG_of (lwT_2 (List.mem_of_getElem? (i := 204) (by decide +kernel))) rfl
theorem w_445 : Cond.selects RX3 yX3_beginBatch yX3_beginBatch ∈ lwG := lwG_of (lwT_2 (List.mem_of_getElem? (i := 205) (by decide +kernel))) rfl
theorem w_446 : Cond.code yX3_beginBatch cX3_beginBatch 9 (some .int) ∈ lwG := lwG_of (lwT_2 (List.mem_of_getElem? (i := 206) (by decide +kernel))) rfl
theorem w_447 : Cond.methodLink RX3 172 yX3_lowestFreeNumber ∈ lwG := lwG_of (lwT_2 (List.mem_of_getElem? (i := 207) (by decide +kernel))) rfl
theorem w_448 : Cond.instanceMethod yX3_lowestFreeNumber ∈ lwG := lwG_of (lwT_2 (List.mem_of_getElem? (i := 208) (by decide +kernel))) rfl
theorem w_449 : Cond.selects RX3 yX3_lowestFreeNumber yX3_lowestFreeNumber ∈ lwG := lwG_of (lwT_2 (List.mem_of_getElem? (i := 209) (by decide +kernel))) rfl
theorem w_450 : Cond.code yX3_lowestFreeNumber cX3_lowestFreeNumber 2 (some .int) ∈ lwG := lwG_of (lwT_2 (List.mem_of_getElem? (i := 210) (by decide +kernel))) rfl
theorem w_451 : Cond.methodLink RX3 176 yX7_canTake ∈ lwG := lwG_of (lwT_2 (List.mem_of_getElem? (i := 211) (by decide +kernel))) rfl
theorem w_452 : Cond.instanceMethod yX7_canTake ∈ lwG := lwG_of (lwT_2 (List.mem_of_getElem? (i := 212) (by decide +kernel))) rfl
theorem w_453 : Cond.selects RX7 yX7_canTake yX7_canTake ∈ lwG := lwG_of (lwT_2 (List.mem_of_getElem? (i := 213) (by decide +kernel))) rfl
theorem w_454 : Cond.code yX7_canTake cX7_canTake 3 (some .boolean) ∈ lwG := lwG_of (lwT_2 (List.mem_of_getElem? (i := 214) (by decide +kernel))) rfl
theorem w_455 : Cond.methodLink RX7 27 yX7_suits ∈ lwG := lwG_of (lwT_2 (List.mem_of_getElem? (i := 215) (by decide +kernel))) rfl
theorem w_456 : Cond.instanceMethod yX7_suits ∈ lwG := lwG_of (lwT_2 (List.mem_of_getElem? (i := 216) (by decide +kernel))) rfl
theorem w_457 : Cond.selects RX7 yX7_suits yX7_suits ∈ lwG := lwG_of (lwT_2 (List.mem_of_getElem? (i := 217) (by decide +kernel))) rfl
theorem w_458 : Cond.code yX7_suits cX7_suits 3 (some .boolean) ∈ lwG := lwG_of (lwT_2 (List.mem_of_getElem? (i := 218) (by decide +kernel))) rfl
theorem w_459 : Cond.methodLink RX3 180 yX3_occupy ∈ lwG := lwG_of (lwT_2 (List.mem_of_getElem? (i := 219) (by decide +kernel))) rfl
theorem w_460 : Cond.instanceMethod yX3_occupy ∈ lwG := lwG_of (lwT_2 (List.mem_of_getElem? (i := 220) (by decide +kernel))) rfl
theorem w_461 : Cond.selects RX3 yX3_occupy yX3_occupy ∈ lwG := lwG_of (lwT_2 (List.mem_of_getElem? (i := 221) (by decide +kernel))) rfl
theorem w_462 : Cond.code yX3_occupy cX3_occupy 5 (some .int) ∈ lwG := lwG_of (lwT_2 (List.mem_of_getElem? (i := 222) (by decide +kernel))) rfl
theorem w_463 : Cond.methodLink RX3 192 yX3_cleaningMinutes ∈ lwG := lwG_of (lwT_2 (List.mem_of_getElem? (i := 223) (by decide +kernel))) rfl
theorem w_464 : Cond.instanceMethod yX3_cleaningMinutes ∈ lwG := lwG_of (lwT_2 (List.mem_of_getElem? (i := 224) (by decide +kernel))) rfl
theorem w_465 : Cond.selects RX3 yX3_cleaningMinutes yX3_cleaningMinutes ∈ lwG := lwG_of (lwT_2 (List.mem_of_getElem? (i := 225) (by decide +kernel))) rfl
theorem w_466 : Cond.code yX3_cleaningMinutes cX3_cleaningMinutes 3 (some .int) ∈ lwG := lwG_of (lwT_2 (List.mem_of_getElem? (i := 226) (by decide +kernel))) rfl
theorem w_467 : Cond.methodLink RX3 184 yX0_start ∈ lwG := lwG_of (lwT_2 (List.mem_of_getElem? (i := 227) (by decide +kernel))) rfl
theorem w_468 : Cond.instanceMethod yX0_start ∈ lwG := lwG_of (lwT_2 (List.mem_of_getElem? (i := 228) (by decide +kernel))) rfl
theorem w_469 : Cond.selects RX0 yX0_start yX0_start ∈ lwG := lwG_of (lwT_2 (List.mem_of_getElem? (i := 229) (by decide +kernel))) rfl
theorem w_470 : Cond.code yX0_start cX0_start 4 (none) ∈ lwG := lwG_of (lwT_2 (List.mem_of_getElem? (i := 230) (by decide +kernel))) rfl
theorem w_471 : Cond.methodLink RX3 188 yX0_enter ∈ lwG := lwG_of (lwT_2 (List.mem_of_getElem? (i := 231) (by decide +kernel))) rfl
theorem w_472 : Cond.instanceMethod yX0_enter ∈ lwG := lwG_of (lwT_2 (List.mem_of_getElem? (i := 232) (by decide +kernel))) rfl
theorem w_473 : Cond.selects RX0 yX0_enter yX0_enter ∈ lwG := lwG_of (lwT_2 (List.mem_of_getElem? (i := 233) (by decide +kernel))) rfl
theorem w_474 : Cond.code yX0_enter cX0_enter 5 (none) ∈ lwG := lwG_of (lwT_2 (List.mem_of_getElem? (i := 234) (by decide +kernel))) rfl
theorem w_475 : Cond.methodLink RL 45 yX8_move ∈ lwG := lwG_of (lwT_2 (List.mem_of_getElem? (i := 235) (by decide +kernel))) rfl
theorem w_476 : Cond.instanceMethod yX8_move ∈ lwG := lwG_of (lwT_2 (List.mem_of_getElem? (i := 236) (by decide +kernel))) rfl
theorem w_477 : Cond.selects RX8 yX8_move yX8_move ∈ lwG := lwG_of (lwT_2 (List.mem_of_getElem? (i := 237) (by decide +kernel))) rfl
theorem w_478 : Cond.code yX8_move cX8_move 3 (some .int) ∈ lwG := lwG_of (lwT_2 (List.mem_of_getElem? (i := 238) (by decide +kernel))) rfl
theorem w_479 : Cond.methodLink RX8 85 yX3_moveBatch ∈ lwG := lwG_of (lwT_2 (List.mem_of_getElem? (i := 239) (by decide +kernel))) rfl
theorem w_480 : Cond.instanceMethod yX3_moveBatch ∈ lwG := lwG_of (lwT_3 (List.mem_of_getElem? (i := 0) (by decide +kernel))) rfl
theorem w_481 : Cond.selects RX3 yX3_moveBatch yX3_moveBatch ∈ lwG := lwG_of (lwT_3 (List.mem_of_getElem? (i := 1) (by decide +kernel))) rfl
theorem w_482 : Cond.code yX3_moveBatch cX3_moveBatch 10 (some .int) ∈ lwG := lwG_of (lwT_3 (List.mem_of_getElem? (i := 2) (by decide +kernel))) rfl
theorem w_483 : Cond.methodLink RX3 205 yX3_batchAt ∈ lwG := lwG_of (lwT_3 (List.mem_of_getElem? (i := 3) (by decide +kernel))) rfl
theorem w_484 : Cond.instanceMethod yX3_batchAt ∈ lwG := lwG_of (lwT_3 (List.mem_of_getElem? (i := 4) (by decide +kernel))) rfl
theorem w_485 : Cond.selects RX3 yX3_batchAt yX3_batchAt ∈ lwG := lwG_of (lwT_3 (List.mem_of_getElem? (i := 5) (by decide +kernel))) rfl
theorem w_486 : Cond.code yX3_batchAt cX3_batchAt 3 (some (.object "BatchCellars$Batch")) ∈ lwG := lwG_of (lwT_3 (List.mem_of_getElem? (i := 6) (by decide +kernel))) rfl
theorem w_487 : Cond.methodLink RX3 209 yX3_lineTo ∈ lwG := lwG_of (lwT_3 (List.mem_of_getElem? (i := 7) (by decide +kernel))) rfl
theorem w_488 : Cond.instanceMethod yX3_lineTo ∈ lwG := lwG_of (lwT_3 (List.mem_of_getElem? (i := 8) (by decide +kernel))) rfl
theorem w_489 : Cond.selects RX3 yX3_lineTo yX3_lineTo ∈ lwG := lwG_of (lwT_3 (List.mem_of_getElem? (i := 9) (by decide +kernel))) rfl
theorem w_490 : Cond.code yX3_lineTo cX3_lineTo 6 (some .int) ∈ lwG := lwG_of (lwT_3 (List.mem_of_getElem? (i := 10) (by decide +kernel))) rfl
theorem w_491 : Cond.methodLink RX3 213 yX3_nextStage ∈ lwG := lwG_of (lwT_3 (List.mem_of_getElem? (i := 11) (by decide +kernel))) rfl
theorem w_492 : Cond.instanceMethod yX3_nextStage ∈ lwG := lwG_of (lwT_3 (List.mem_of_getElem? (i := 12) (by decide +kernel))) rfl
theorem w_493 : Cond.selects RX3 yX3_nextStage yX3_nextStage ∈ lwG := lwG_of (lwT_3 (List.mem_of_getElem? (i := 13) (by decide +kernel))) rfl
theorem w_494 : Cond.code yX3_nextStage cX3_nextStage 3 (some (.object "BatchCellars$Stage")) ∈ lwG := lwG_of (lwT_3 (List.mem_of_getElem? (i := 14) (by decide +kernel))) rfl
theorem w_495 : Cond.methodLink RX3 239 yX0_isRipe ∈ lwG := lwG_of (lwT_3 (List.mem_of_getElem? (i := 15) (by decide +kernel))) rfl
theorem w_496 : Cond.instanceMethod yX0_isRipe ∈ lwG := lwG_of (lwT_3 (List.mem_of_getElem? (i := 16) (by decide +kernel))) rfl
theorem w_497 : Cond.selects RX0 yX0_isRipe yX0_isRipe ∈ lwG := lwG_of (lwT_3 (List.mem_of_getElem? (i := 17) (by decide +kernel))) rfl
theorem w_498 : Cond.code yX0_isRipe cX0_isRipe 2 (some .boolean) ∈ lwG := lwG_of (lwT_3 (List.mem_of_getElem? (i := 18) (by decide +kernel))) rfl
theorem w_499 : Cond.methodLink RX3 242 yX2_isFree ∈ lwG := lwG_of (lwT_3 (List.mem_of_getElem? (i := 19) (by decide +kernel))) rfl
theorem w_500 : Cond.instanceMethod yX2_isFree ∈ lwG := lwG_of (lwT_3 (List.mem_of_getElem? (i := 20) (by decide +kernel))) rfl
theorem w_501 : Cond.selects RX2 yX2_isFree yX2_isFree ∈ lwG := lwG_of (lwT_3 (List.mem_of_getElem? (i := 21) (by decide +kernel))) rfl
theorem w_502 : Cond.code yX2_isFree cX2_isFree 2 (some .boolean) ∈ lwG := lwG_of (lwT_3 (List.mem_of_getElem? (i := 22) (by decide +kernel))) rfl
theorem w_503 : Cond.methodLink RX3 248 yX2_joins ∈ lwG := lwG_of (lwT_3 (List.mem_of_getElem? (i := 23) (by decide +kernel))) rfl
theorem w_504 : Cond.instanceMethod yX2_joins ∈ lwG := lwG_of (lwT_3 (List.mem_of_getElem? (i := 24) (by decide +kernel))) rfl
theorem w_505 : Cond.selects RX2 yX2_joins yX2_joins ∈ lwG := lwG_of (lwT_3 (List.mem_of_getElem? (i := 25) (by decide +kernel))) rfl
theorem w_506 : Cond.code yX2_joins cX2_joins 4 (some .boolean) ∈ lwG := lwG_of (lwT_3 (List.mem_of_getElem? (i := 26) (by decide +kernel))) rfl
theorem w_507 : Cond.methodLink RX3 217 yX3_leaveVessel ∈ lwG := lwG_of (lwT_3 (List.mem_of_getElem? (i := 27) (by decide +kernel))) rfl
theorem w_508 : Cond.instanceMethod yX3_leaveVessel ∈ lwG := lwG_of (lwT_3 (List.mem_of_getElem? (i := 28) (by decide +kernel))) rfl
theorem w_509 : Cond.selects RX3 yX3_leaveVessel yX3_leaveVessel ∈ lwG := lwG_of (lwT_3 (List.mem_of_getElem? (i := 29) (by decide +kernel))) rfl
theorem w_510 : Cond.code yX3_leaveVessel cX3_leaveVessel 3 (none) ∈ lwG := lwG_of (lwT_3 (List.mem_of_getElem? (i := 30) (by decide +kernel))) rfl
theorem w_511 : Cond.methodLink RX3 224 yX2_minutesFor ∈ lwG := lwG_of (lwT_3 (List.mem_of_getElem? (i := 31) (by decide +kernel))) rfl
theorem w_512 : Cond.instanceMethod yX2_minutesFor ∈ lwG := lwG_of (lwT_3 (List.mem_of_getElem? (i := 32) (by decide +kernel))) rfl
theorem w_513 : Cond.selects RX2 yX2_minutesFor yX2_minutesFor ∈ lwG := lwG_of (lwT_3 (List.mem_of_getElem? (i := 33) (by decide +kernel))) rfl
theorem w_514 : Cond.code yX2_minutesFor cX2_minutesFor 2 (some .int) ∈ lwG := lwG_of (lwT_3 (List.mem_of_getElem? (i := 34) (by decide +kernel))) rfl
theorem w_515 : Cond.methodLink RX3 233 yX3_transferLoss ∈ lwG := lwG_of (lwT_3 (List.mem_of_getElem? (i := 35) (by decide +kernel))) rfl
theorem w_516 : Cond.instanceMethod yX3_transferLoss ∈ lwG := lwG_of (lwT_3 (List.mem_of_getElem? (i := 36) (by decide +kernel))) rfl
theorem w_517 : Cond.selects RX3 yX3_transferLoss yX3_transferLoss ∈ lwG := lwG_of (lwT_3 (List.mem_of_getElem? (i := 37) (by decide +kernel))) rfl
theorem w_518 : Cond.code yX3_transferLoss cX3_transferLoss 2 (some .int) ∈ lwG := lwG_of (lwT_3 (List.mem_of_getElem? (i := 38) (by decide +kernel))) rfl
theorem w_519 : Cond.methodLink RL 49 yX8_end ∈ lwG := lwG_of (lwT_3 (List.mem_of_getElem? (i := 39) (by decide +kernel))) rfl
theorem w_520 : Cond.instanceMethod yX8_end ∈ lwG := lwG_of (lwT_3 (List.mem_of_getElem? (i := 40) (by decide +kernel))) rfl
theorem w_521 : Cond.selects RX8 yX8_end yX8_end ∈ lwG := lwG_of (lwT_3 (List.mem_of_getElem? (i := 41) (by decide +kernel))) rfl
theorem w_522 : Cond.code yX8_end cX8_end 2 (some .int) ∈ lwG := lwG_of (lwT_3 (List.mem_of_getElem? (i := 42) (by decide +kernel))) rfl
theorem w_523 : Cond.methodLink RX8 88 yX3_endBatch ∈ lwG := lwG_of (lwT_3 (List.mem_of_getElem? (i := 43) (by decide +kernel))) rfl
theorem w_524 : Cond.instanceMethod yX3_endBatch ∈ lwG := lwG_of (lwT_3 (List.mem_of_getElem? (i := 44) (by decide +kernel))) rfl
theorem w_525 : Cond.selects RX3 yX3_endBatch yX3_endBatch ∈ lwG := lwG_of (lwT_3 (List.mem_of_getElem? (i := 45) (by decide +kernel))) rfl
theorem w_526 : Cond.code yX3_endBatch cX3_endBatch 3 (some .int) ∈ lwG := lwG_of (lwT_3 (List.mem_of_getElem? (i := 46) (by decide +kernel))) rfl
theorem w_527 : Cond.methodLink RX3 254 yX3_addOffGrade ∈ lwG := lwG_of (lwT_3 (List.mem_of_getElem? (i := 47) (by decide +kernel))) rfl
theorem w_528 : Cond.instanceMethod yX3_addOffGrade ∈ lwG := lwG_of (lwT_3 (List.mem_of_getElem? (i := 48) (by decide +kernel))) rfl
theorem w_529 : Cond.selects RX3 yX3_addOffGrade yX3_addOffGrade ∈ lwG := lwG_of (lwT_3 (List.mem_of_getElem? (i := 49) (by decide +kernel))) rfl
theorem w_530 : Cond.code yX3_addOffGrade cX3_addOffGrade 3 (none) ∈ lwG := lwG_of (lwT_3 (List.mem_of_getElem? (i := 50) (by decide +kernel))) rfl
theorem w_531 : Cond.methodLink RX3 258 yX3_remove ∈ lwG := lwG_of (lwT_3 (List.mem_of_getElem? (i := 51) (by decide +kernel))) rfl
theorem w_532 : Cond.instanceMethod yX3_remove ∈ lwG := lwG_of (lwT_3 (List.mem_of_getElem? (i := 52) (by decide +kernel))) rfl
theorem w_533 : Cond.selects RX3 yX3_remove yX3_remove ∈ lwG := lwG_of (lwT_3 (List.mem_of_getElem? (i := 53) (by decide +kernel))) rfl
theorem w_534 : Cond.code yX3_remove cX3_remove 2 (none) ∈ lwG := lwG_of (lwT_3 (List.mem_of_getElem? (i := 54) (by decide +kernel))) rfl
theorem w_535 : Cond.methodLink RL 53 yX8_discard ∈ lwG := lwG_of (lwT_3 (List.mem_of_getElem? (i := 55) (by decide +kernel))) rfl
theorem w_536 : Cond.instanceMethod yX8_discard ∈ lwG := lwG_of (lwT_3 (List.mem_of_getElem? (i := 56) (by decide +kernel))) rfl
theorem w_537 : Cond.selects RX8 yX8_discard yX8_discard ∈ lwG := lwG_of (lwT_3 (List.mem_of_getElem? (i := 57) (by decide +kernel))) rfl
theorem w_538 : Cond.code yX8_discard cX8_discard 2 (some .int) ∈ lwG := lwG_of (lwT_3 (List.mem_of_getElem? (i := 58) (by decide +kernel))) rfl
theorem w_539 : Cond.methodLink RX8 91 yX3_throwAway ∈ lwG := lwG_of (lwT_3 (List.mem_of_getElem? (i := 59) (by decide +kernel))) rfl
theorem w_540 : Cond.instanceMethod yX3_throwAway ∈ lwG := lwG_of (lwT_3 (List.mem_of_getElem? (i := 60) (by decide +kernel))) rfl
theorem w_541 : Cond.selects RX3 yX3_throwAway yX3_throwAway ∈ lwG := lwG_of (lwT_3 (List.mem_of_getElem? (i := 61) (by decide +kernel))) rfl
theorem w_542 : Cond.code yX3_throwAway cX3_throwAway 3 (some .int) ∈ lwG := lwG_of (lwT_3 (List.mem_of_getElem? (i := 62) (by decide +kernel))) rfl
theorem w_543 : Cond.methodLink RL 57 yX8_blend ∈ lwG := lwG_of (lwT_3 (List.mem_of_getElem? (i := 63) (by decide +kernel))) rfl
theorem w_544 : Cond.instanceMethod yX8_blend ∈ lwG := lwG_of (lwT_3 (List.mem_of_getElem? (i := 64) (by decide +kernel))) rfl
theorem w_545 : Cond.selects RX8 yX8_blend yX8_blend ∈ lwG := lwG_of (lwT_3 (List.mem_of_getElem? (i := 65) (by decide +kernel))) rfl
theorem w_546 : Cond.code yX8_blend cX8_blend 3 (some .int) ∈ lwG := lwG_of (lwT_3 (List.mem_of_getElem? (i := 66) (by decide +kernel))) rfl
theorem w_547 : Cond.methodLink RX8 94 yX3_blendIn ∈ lwG := lwG_of (lwT_3 (List.mem_of_getElem? (i := 67) (by decide +kernel))) rfl
theorem w_548 : Cond.instanceMethod yX3_blendIn ∈ lwG := lwG_of (lwT_3 (List.mem_of_getElem? (i := 68) (by decide +kernel))) rfl
theorem w_549 : Cond.selects RX3 yX3_blendIn yX3_blendIn ∈ lwG := lwG_of (lwT_3 (List.mem_of_getElem? (i := 69) (by decide +kernel))) rfl
theorem w_550 : Cond.code yX3_blendIn cX3_blendIn 6 (some .int) ∈ lwG := lwG_of (lwT_3 (List.mem_of_getElem? (i := 70) (by decide +kernel))) rfl
theorem w_551 : Cond.methodLink RL 61 yX8_pass ∈ lwG := lwG_of (lwT_3 (List.mem_of_getElem? (i := 71) (by decide +kernel))) rfl
theorem w_552 : Cond.instanceMethod yX8_pass ∈ lwG := lwG_of (lwT_3 (List.mem_of_getElem? (i := 72) (by decide +kernel))) rfl
theorem w_553 : Cond.selects RX8 yX8_pass yX8_pass ∈ lwG := lwG_of (lwT_3 (List.mem_of_getElem? (i := 73) (by decide +kernel))) rfl
theorem w_554 : Cond.code yX8_pass cX8_pass 2 (some .int) ∈ lwG := lwG_of (lwT_3 (List.mem_of_getElem? (i := 74) (by decide +kernel))) rfl
theorem w_555 : Cond.methodLink RX8 97 yX3_letPass ∈ lwG := lwG_of (lwT_3 (List.mem_of_getElem? (i := 75) (by decide +kernel))) rfl
theorem w_556 : Cond.instanceMethod yX3_letPass ∈ lwG := lwG_of (lwT_3 (List.mem_of_getElem? (i := 76) (by decide +kernel))) rfl
theorem w_557 : Cond.selects RX3 yX3_letPass yX3_letPass ∈ lwG := lwG_of (lwT_3 (List.mem_of_getElem? (i := 77) (by decide +kernel))) rfl
theorem w_558 : Cond.code yX3_letPass cX3_letPass 5 (some .int) ∈ lwG := lwG_of (lwT_3 (List.mem_of_getElem? (i := 78) (by decide +kernel))) rfl
theorem w_559 : Cond.methodLink RL 65 yX8_set ∈ lwG := lwG_of (lwT_3 (List.mem_of_getElem? (i := 79) (by decide +kernel))) rfl
theorem w_560 : Cond.instanceMethod yX8_set ∈ lwG := lwG_of (lwT_3 (List.mem_of_getElem? (i := 80) (by decide +kernel))) rfl
theorem w_561 : Cond.selects RX8 yX8_set yX8_set ∈ lwG := lwG_of (lwT_3 (List.mem_of_getElem? (i := 81) (by decide +kernel))) rfl
theorem w_562 : Cond.code yX8_set cX8_set 3 (some .int) ∈ lwG := lwG_of (lwT_3 (List.mem_of_getElem? (i := 82) (by decide +kernel))) rfl
theorem w_563 : Cond.methodLink RX8 100 yX3_changeSetting ∈ lwG := lwG_of (lwT_3 (List.mem_of_getElem? (i := 83) (by decide +kernel))) rfl
theorem w_564 : Cond.instanceMethod yX3_changeSetting ∈ lwG := lwG_of (lwT_3 (List.mem_of_getElem? (i := 84) (by decide +kernel))) rfl
theorem w_565 : Cond.selects RX3 yX3_changeSetting yX3_changeSetting ∈ lwG := lwG_of (lwT_3 (List.mem_of_getElem? (i := 85) (by decide +kernel))) rfl
theorem w_566 : Cond.code yX3_changeSetting cX3_changeSetting 5 (some .int) ∈ lwG := lwG_of (lwT_3 (List.mem_of_getElem? (i := 86) (by decide +kernel))) rfl
theorem w_567 : Cond.methodLink RL 69 yX8_batchOf ∈ lwG := lwG_of (lwT_3 (List.mem_of_getElem? (i := 87) (by decide +kernel))) rfl
theorem w_568 : Cond.instanceMethod yX8_batchOf ∈ lwG := lwG_of (lwT_3 (List.mem_of_getElem? (i := 88) (by decide +kernel))) rfl
theorem w_569 : Cond.selects RX8 yX8_batchOf yX8_batchOf ∈ lwG := lwG_of (lwT_3 (List.mem_of_getElem? (i := 89) (by decide +kernel))) rfl
theorem w_570 : Cond.code yX8_batchOf cX8_batchOf 4 (some .int) ∈ lwG := lwG_of (lwT_3 (List.mem_of_getElem? (i := 90) (by decide +kernel))) rfl
theorem w_571 : Cond.methodLink RX8 103 yX3_batchAt ∈ lwG := lwG_of (lwT_3 (List.mem_of_getElem? (i := 91) (by decide +kernel))) rfl
theorem w_572 : Cond.methodLink RX8 110 yX0_detail ∈ lwG := lwG_of (lwT_3 (List.mem_of_getElem? (i := 92) (by decide +kernel))) rfl
theorem w_573 : Cond.instanceMethod yX0_detail ∈ lwG := lwG_of (lwT_3 (List.mem_of_getElem? (i := 93) (by decide +kernel))) rfl
theorem w_574 : Cond.selects RX0 yX0_detail yX0_detail ∈ lwG := lwG_of (lwT_3 (List.mem_of_getElem? (i := 94) (by decide +kernel))) rfl
theorem w_575 : Cond.code yX0_detail cX0_detail 3 (some .int) ∈ lwG := lwG_of (lwT_3 (List.mem_of_getElem? (i := 95) (by decide +kernel))) rfl
theorem w_576 : Cond.methodLink RX0 61 yJ9_max_7cf53 ∈ lwG := lwG_of (lwT_3 (List.mem_of_getElem? (i := 96) (by decide +kernel))) rfl
theorem w_577 : Cond.static yJ9_max_7cf53 ∈ lwG := lwG_of (lwT_3 (List.mem_of_getElem? (i := 97) (by decide +kernel))) rfl
theorem w_578 : Cond.code yJ9_max_7cf53 cJ9_max_7cf53 2 (some .int) ∈ lwG := lwG_of (lwT_3 (List.mem_of_getElem? (i := 98) (by decide +kernel))) rfl
theorem w_579 : Cond.methodLink RX0 67 yX0_isRipe ∈ lwG := lwG_of (lwT_3 (List.mem_of_getElem? (i := 99) (by decide +kernel))) rfl
theorem w_580 : Cond.methodLink RL 73 yX8_vesselOf ∈ lwG := lwG_of (lwT_3 (List.mem_of_getElem? (i := 100) (by decide +kernel))) rfl
theorem w_581 : Cond.instanceMethod yX8_vesselOf ∈ lwG := lwG_of (lwT_3 (List.mem_of_getElem? (i := 101) (by decide +kernel))) rfl
theorem w_582 : Cond.selects RX8 yX8_vesselOf yX8_vesselOf ∈ lwG := lwG_of (lwT_3 (List.mem_of_getElem? (i := 102) (by decide +kernel))) rfl
theorem w_583 : Cond.code yX8_vesselOf cX8_vesselOf 5 (some .int) ∈ lwG := lwG_of (lwT_3 (List.mem_of_getElem? (i := 103) (by decide +kernel))) rfl
theorem w_584 : Cond.methodLink RX8 114 yX3_vesselAt ∈ lwG := lwG_of (lwT_3 (List.mem_of_getElem? (i := 104) (by decide +kernel))) rfl
theorem w_585 : Cond.methodLink RX8 118 yX7_detail ∈ lwG := lwG_of (lwT_3 (List.mem_of_getElem? (i := 105) (by decide +kernel))) rfl
theorem w_586 : Cond.instanceMethod yX7_detail ∈ lwG := lwG_of (lwT_3 (List.mem_of_getElem? (i := 106) (by decide +kernel))) rfl
theorem w_587 : Cond.selects RX7 yX7_detail yX7_detail ∈ lwG := lwG_of (lwT_3 (List.mem_of_getElem? (i := 107) (by decide +kernel))) rfl
theorem w_588 : Cond.code yX7_detail cX7_detail 2 (some .int) ∈ lwG := lwG_of (lwT_3 (List.mem_of_getElem? (i := 108) (by decide +kernel))) rfl
theorem w_589 : Cond.methodLink RL 77 yX8_lineOf ∈ lwG := lwG_of (lwT_3 (List.mem_of_getElem? (i := 109) (by decide +kernel))) rfl
theorem w_590 : Cond.instanceMethod yX8_lineOf ∈ lwG := lwG_of (lwT_3 (List.mem_of_getElem? (i := 110) (by decide +kernel))) rfl
theorem w_591 : Cond.selects RX8 yX8_lineOf yX8_lineOf ∈ lwG := lwG_of (lwT_3 (List.mem_of_getElem? (i := 111) (by decide +kernel))) rfl
theorem w_592 : Cond.code yX8_lineOf cX8_lineOf 4 (some .int) ∈ lwG := lwG_of (lwT_3 (List.mem_of_getElem? (i := 112) (by decide +kernel))) rfl
theorem w_593 : Cond.methodLink RX8 121 yX3_lineAt ∈ lwG := lwG_of (lwT_3 (List.mem_of_getElem? (i := 113) (by decide +kernel))) rfl
theorem w_594 : Cond.methodLink RX8 125 yX2_detail ∈ lwG := lwG_of (lwT_3 (List.mem_of_getElem? (i := 114) (by decide +kernel))) rfl
theorem w_595 : Cond.instanceMethod yX2_detail ∈ lwG := lwG_of (lwT_3 (List.mem_of_getElem? (i := 115) (by decide +kernel))) rfl
theorem w_596 : Cond.selects RX2 yX2_detail yX2_detail ∈ lwG := lwG_of (lwT_3 (List.mem_of_getElem? (i := 116) (by decide +kernel))) rfl
theorem w_597 : Cond.code yX2_detail cX2_detail 3 (some .int) ∈ lwG := lwG_of (lwT_3 (List.mem_of_getElem? (i := 117) (by decide +kernel))) rfl
theorem w_598 : Cond.methodLink RX2 22 yJ9_max_7cf53 ∈ lwG := lwG_of (lwT_3 (List.mem_of_getElem? (i := 118) (by decide +kernel))) rfl
theorem w_599 : Cond.methodLink RL 81 yX8_count ∈ lwG := lwG_of (lwT_3 (List.mem_of_getElem? (i := 119) (by decide +kernel))) rfl
theorem w_600 : Cond.instanceMethod yX8_count ∈ lwG := lwG_of (lwT_3 (List.mem_of_getElem? (i := 120) (by decide +kernel))) rfl
theorem w_601 : Cond.selects RX8 yX8_count yX8_count ∈ lwG := lwG_of (lwT_3 (List.mem_of_getElem? (i := 121) (by decide +kernel))) rfl
theorem w_602 : Cond.code yX8_count cX8_count 2 (some .int) ∈ lwG := lwG_of (lwT_3 (List.mem_of_getElem? (i := 122) (by decide +kernel))) rfl
theorem w_603 : Cond.methodLink RX8 138 yX8_entryAt ∈ lwG := lwG_of (lwT_3 (List.mem_of_getElem? (i := 123) (by decide +kernel))) rfl
theorem w_604 : Cond.methodLink RX8 145 yX3_total ∈ lwG := lwG_of (lwT_3 (List.mem_of_getElem? (i := 124) (by decide +kernel))) rfl
theorem w_605 : Cond.instanceMethod yX3_total ∈ lwG := lwG_of (lwT_3 (List.mem_of_getElem? (i := 125) (by decide +kernel))) rfl
theorem w_606 : Cond.selects RX3 yX3_total yX3_total ∈ lwG := lwG_of (lwT_3 (List.mem_of_getElem? (i := 126) (by decide +kernel))) rfl
theorem w_607 : Cond.code yX3_total cX3_total 2 (some .int) ∈ lwG := lwG_of (lwT_3 (List.mem_of_getElem? (i := 127) (by decide +kernel))) rfl
theorem w_608 : Cond.methodLink RX3 270 yX3_batchTotal ∈ lwG := lwG_of (lwT_3 (List.mem_of_getElem? (i := 128) (by decide +kernel))) rfl
theorem w_609 : Cond.instanceMethod yX3_batchTotal ∈ lwG := lwG_of (lwT_3 (List.mem_of_getElem? (i := 129) (by decide +kernel))) rfl
theorem w_610 : Cond.selects RX3 yX3_batchTotal yX3_batchTotal ∈ lwG := lwG_of (lwT_3 (List.mem_of_getElem? (i := 130) (by decide +kernel))) rfl
theorem w_611 : Cond.code yX3_batchTotal cX3_batchTotal 3 (some .int) ∈ lwG := lwG_of (lwT_3 (List.mem_of_getElem? (i := 131) (by decide +kernel))) rfl
theorem w_612 : Cond.methodLink RX3 273 yX3_massTotal ∈ lwG := lwG_of (lwT_3 (List.mem_of_getElem? (i := 132) (by decide +kernel))) rfl
theorem w_613 : Cond.instanceMethod yX3_massTotal ∈ lwG := lwG_of (lwT_3 (List.mem_of_getElem? (i := 133) (by decide +kernel))) rfl
theorem w_614 : Cond.selects RX3 yX3_massTotal yX3_massTotal ∈ lwG := lwG_of (lwT_3 (List.mem_of_getElem? (i := 134) (by decide +kernel))) rfl
theorem w_615 : Cond.code yX3_massTotal cX3_massTotal 3 (some .int) ∈ lwG := lwG_of (lwT_3 (List.mem_of_getElem? (i := 135) (by decide +kernel))) rfl
theorem w_616 : Cond.methodLink RL 85 yX8_targets ∈ lwG := lwG_of (lwT_3 (List.mem_of_getElem? (i := 136) (by decide +kernel))) rfl
theorem w_617 : Cond.instanceMethod yX8_targets ∈ lwG := lwG_of (lwT_3 (List.mem_of_getElem? (i := 137) (by decide +kernel))) rfl
theorem w_618 : Cond.selects RX8 yX8_targets yX8_targets ∈ lwG := lwG_of (lwT_3 (List.mem_of_getElem? (i := 138) (by decide +kernel))) rfl
theorem w_619 : Cond.code yX8_targets cX8_targets 3 (some .int) ∈ lwG := lwG_of (lwT_3 (List.mem_of_getElem? (i := 139) (by decide +kernel))) rfl
theorem w_620 : Cond.methodLink RX8 148 yX3_openTargets ∈ lwG := lwG_of (lwT_3 (List.mem_of_getElem? (i := 140) (by decide +kernel))) rfl
theorem w_621 : Cond.instanceMethod yX3_openTargets ∈ lwG := lwG_of (lwT_3 (List.mem_of_getElem? (i := 141) (by decide +kernel))) rfl
theorem w_622 : Cond.selects RX3 yX3_openTargets yX3_openTargets ∈ lwG := lwG_of (lwT_3 (List.mem_of_getElem? (i := 142) (by decide +kernel))) rfl
theorem w_623 : Cond.code yX3_openTargets cX3_openTargets 4 (some .int) ∈ lwG := lwG_of (lwT_3 (List.mem_of_getElem? (i := 143) (by decide +kernel))) rfl
theorem w_624 : Cond.methodLink RL 89 yX8_quickest ∈ lwG := lwG_of (lwT_3 (List.mem_of_getElem? (i := 144) (by decide +kernel))) rfl
theorem w_625 : Cond.instanceMethod yX8_quickest ∈ lwG := lwG_of (lwT_3 (List.mem_of_getElem? (i := 145) (by decide +kernel))) rfl
theorem w_626 : Cond.selects RX8 yX8_quickest yX8_quickest ∈ lwG := lwG_of (lwT_3 (List.mem_of_getElem? (i := 146) (by decide +kernel))) rfl
theorem w_627 : Cond.code yX8_quickest cX8_quickest 5 (some .int) ∈ lwG := lwG_of (lwT_3 (List.mem_of_getElem? (i := 147) (by decide +kernel))) rfl
theorem w_628 : Cond.methodLink RX8 152 yX3_quickestTarget ∈ lwG := lwG_of (lwT_3 (List.mem_of_getElem? (i := 148) (by decide +kernel))) rfl
theorem w_629 : Cond.instanceMethod yX3_quickestTarget ∈ lwG := lwG_of (lwT_3 (List.mem_of_getElem? (i := 149) (by decide +kernel))) rfl
theorem w_630 : Cond.selects RX3 yX3_quickestTarget yX3_quickestTarget ∈ lwG := lwG_of (lwT_3 (List.mem_of_getElem? (i := 150) (by decide +kernel))) rfl
theorem w_631 : Cond.code yX3_quickestTarget cX3_quickestTarget 6 (some .int) ∈ lwG := lwG_of (lwT_3 (List.mem_of_getElem? (i := 151) (by decide +kernel))) rfl
theorem w_632 : Cond.methodLink RX3 276 yX3_minutesTo ∈ lwG := lwG_of (lwT_3 (List.mem_of_getElem? (i := 152) (by decide +kernel))) rfl
theorem w_633 : Cond.instanceMethod yX3_minutesTo ∈ lwG := lwG_of (lwT_3 (List.mem_of_getElem? (i := 153) (by decide +kernel))) rfl
theorem w_634 : Cond.selects RX3 yX3_minutesTo yX3_minutesTo ∈ lwG := lwG_of (lwT_3 (List.mem_of_getElem? (i := 154) (by decide +kernel))) rfl
theorem w_635 : Cond.code yX3_minutesTo cX3_minutesTo 5 (some .int) ∈ lwG := lwG_of (lwT_3 (List.mem_of_getElem? (i := 155) (by decide +kernel))) rfl
theorem w_636 : Cond.methodLink RX8 155 yX3_minutesTo ∈ lwG := lwG_of (lwT_3 (List.mem_of_getElem? (i := 156) (by decide +kernel))) rfl
theorem w_637 : Cond.methodLink RL 93 yX8_soonest ∈ lwG := lwG_of (lwT_3 (List.mem_of_getElem? (i := 157) (by decide +kernel))) rfl
theorem w_638 : Cond.instanceMethod yX8_soonest ∈ lwG := lwG_of (lwT_3 (List.mem_of_getElem? (i := 158) (by decide +kernel))) rfl
theorem w_639 : Cond.selects RX8 yX8_soonest yX8_soonest ∈ lwG := lwG_of (lwT_3 (List.mem_of_getElem? (i := 159) (by decide +kernel))) rfl
theorem w_640 : Cond.code yX8_soonest cX8_soonest 3 (some .int) ∈ lwG := lwG_of (lwT_3 (List.mem_of_getElem? (i := 160) (by decide +kernel))) rfl
theorem w_641 : Cond.methodLink RX8 159 yX3_earliestEnd ∈ lwG := lwG_of (lwT_3 (List.mem_of_getElem? (i := 161) (by decide +kernel))) rfl
theorem w_642 : Cond.instanceMethod yX3_earliestEnd ∈ lwG := lwG_of (lwT_3 (List.mem_of_getElem? (i := 162) (by decide +kernel))) rfl
theorem w_643 : Cond.selects RX3 yX3_earliestEnd yX3_earliestEnd ∈ lwG := lwG_of (lwT_3 (List.mem_of_getElem? (i := 163) (by decide +kernel))) rfl
theorem w_644 : Cond.code yX3_earliestEnd cX3_earliestEnd 7 (some .int) ∈ lwG := lwG_of (lwT_3 (List.mem_of_getElem? (i := 164) (by decide +kernel))) rfl
theorem w_645 : Cond.methodLink RX3 282 yJ9_max_7cf53 ∈ lwG := lwG_of (lwT_3 (List.mem_of_getElem? (i := 165) (by decide +kernel))) rfl
theorem w_646 : Cond.methodLink RX3 288 yX3_hasVesselFor ∈ lwG := lwG_of (lwT_3 (List.mem_of_getElem? (i := 166) (by decide +kernel))) rfl
theorem w_647 : Cond.instanceMethod yX3_hasVesselFor ∈ lwG := lwG_of (lwT_3 (List.mem_of_getElem? (i := 167) (by decide +kernel))) rfl
theorem w_648 : Cond.selects RX3 yX3_hasVesselFor yX3_hasVesselFor ∈ lwG := lwG_of (lwT_3 (List.mem_of_getElem? (i := 168) (by decide +kernel))) rfl
theorem w_649 : Cond.code yX3_hasVesselFor cX3_hasVesselFor 4 (some .boolean) ∈ lwG := lwG_of (lwT_3 (List.mem_of_getElem? (i := 169) (by decide +kernel))) rfl
theorem w_650 : Cond.methodLink RX3 291 yX7_suits ∈ lwG := lwG_of (lwT_3 (List.mem_of_getElem? (i := 170) (by decide +kernel))) rfl
theorem w_651 : Cond.methodLink RL 97 yX8_urgent ∈ lwG := lwG_of (lwT_3 (List.mem_of_getElem? (i := 171) (by decide +kernel))) rfl
theorem w_652 : Cond.instanceMethod yX8_urgent ∈ lwG := lwG_of (lwT_3 (List.mem_of_getElem? (i := 172) (by decide +kernel))) rfl
theorem w_653 : Cond.selects RX8 yX8_urgent yX8_urgent ∈ lwG := lwG_of (lwT_3 (List.mem_of_getElem? (i := 173) (by decide +kernel))) rfl
theorem w_654 : Cond.code yX8_urgent cX8_urgent 2 (some .int) ∈ lwG := lwG_of (lwT_3 (List.mem_of_getElem? (i := 174) (by decide +kernel))) rfl
theorem w_655 : Cond.methodLink RX8 162 yX3_batchInPlace ∈ lwG := lwG_of (lwT_3 (List.mem_of_getElem? (i := 175) (by decide +kernel))) rfl
theorem w_656 : Cond.instanceMethod yX3_batchInPlace ∈ lwG := lwG_of (lwT_3 (List.mem_of_getElem? (i := 176) (by decide +kernel))) rfl
theorem w_657 : Cond.selects RX3 yX3_batchInPlace yX3_batchInPlace ∈ lwG := lwG_of (lwT_3 (List.mem_of_getElem? (i := 177) (by decide +kernel))) rfl
theorem w_658 : Cond.code yX3_batchInPlace cX3_batchInPlace 3 (some .int) ∈ lwG := lwG_of (lwT_3 (List.mem_of_getElem? (i := 178) (by decide +kernel))) rfl
theorem w_659 : Cond.methodLink RX3 294 yX3_canSpoil ∈ lwG := lwG_of (lwT_3 (List.mem_of_getElem? (i := 179) (by decide +kernel))) rfl
theorem w_660 : Cond.instanceMethod yX3_canSpoil ∈ lwG := lwG_of (lwT_3 (List.mem_of_getElem? (i := 180) (by decide +kernel))) rfl
theorem w_661 : Cond.selects RX3 yX3_canSpoil yX3_canSpoil ∈ lwG := lwG_of (lwT_3 (List.mem_of_getElem? (i := 181) (by decide +kernel))) rfl
theorem w_662 : Cond.code yX3_canSpoil cX3_canSpoil 3 (some .boolean) ∈ lwG := lwG_of (lwT_3 (List.mem_of_getElem? (i := 182) (by decide +kernel))) rfl
theorem w_663 : Cond.methodLink RX3 297 yX3_moreUrgentThan ∈ lwG := lwG_of (lwT_3 (List.mem_of_getElem? (i := 183) (by decide +kernel))) rfl
theorem w_664 : Cond.instanceMethod yX3_moreUrgentThan ∈ lwG := lwG_of (lwT_3 (List.mem_of_getElem? (i := 184) (by decide +kernel))) rfl
theorem w_665 : Cond.selects RX3 yX3_moreUrgentThan yX3_moreUrgentThan ∈ lwG := lwG_of (lwT_3 (List.mem_of_getElem? (i := 185) (by decide +kernel))) rfl
theorem w_666 : Cond.code yX3_moreUrgentThan cX3_moreUrgentThan 8 (some .int) ∈ lwG := lwG_of (lwT_3 (List.mem_of_getElem? (i := 186) (by decide +kernel))) rfl
theorem w_667 : Cond.methodLink RL 101 yX8_undo ∈ lwG := lwG_of (lwT_3 (List.mem_of_getElem? (i := 187) (by decide +kernel))) rfl
theorem w_668 : Cond.instanceMethod yX8_undo ∈ lwG := lwG_of (lwT_3 (List.mem_of_getElem? (i := 188) (by decide +kernel))) rfl
theorem w_669 : Cond.selects RX8 yX8_undo yX8_undo ∈ lwG := lwG_of (lwT_3 (List.mem_of_getElem? (i := 189) (by decide +kernel))) rfl
theorem w_670 : Cond.code yX8_undo cX8_undo 1 (some .int) ∈ lwG := lwG_of (lwT_3 (List.mem_of_getElem? (i := 190) (by decide +kernel))) rfl
theorem w_671 : Cond.methodLink RX8 165 yX1_restore ∈ lwG := lwG_of (lwT_3 (List.mem_of_getElem? (i := 191) (by decide +kernel))) rfl
theorem w_672 : Cond.instanceMethod yX1_restore ∈ lwG := lwG_of (lwT_3 (List.mem_of_getElem? (i := 192) (by decide +kernel))) rfl
theorem w_673 : Cond.selects RX1 yX1_restore yX1_restore ∈ lwG := lwG_of (lwT_3 (List.mem_of_getElem? (i := 193) (by decide +kernel))) rfl
theorem w_674 : Cond.code yX1_restore cX1_restore 2 (some .int) ∈ lwG := lwG_of (lwT_3 (List.mem_of_getElem? (i := 194) (by decide +kernel))) rfl
theorem w_675 : Cond.methodLink RL 106 yX8_type ∈ lwG := lwG_of (lwT_3 (List.mem_of_getElem? (i := 195) (by decide +kernel))) rfl
theorem w_676 : Cond.instanceMethod yX8_type ∈ lwG := lwG_of (lwT_3 (List.mem_of_getElem? (i := 196) (by decide +kernel))) rfl
theorem w_677 : Cond.selects RX8 yX8_type yX8_type ∈ lwG := lwG_of (lwT_3 (List.mem_of_getElem? (i := 197) (by decide +kernel))) rfl
theorem w_678 : Cond.code yX8_type cX8_type 2 (some .int) ∈ lwG := lwG_of (lwT_3 (List.mem_of_getElem? (i := 198) (by decide +kernel))) rfl
theorem w_679 : Cond.methodLink RX8 169 yX5_append ∈ lwG := lwG_of (lwT_3 (List.mem_of_getElem? (i := 199) (by decide +kernel))) rfl
theorem w_680 : Cond.instanceMethod yX5_append ∈ lwG := lwG_of (lwT_3 (List.mem_of_getElem? (i := 200) (by decide +kernel))) rfl
theorem w_681 : Cond.selects RX5 yX5_append yX5_append ∈ lwG := lwG_of (lwT_3 (List.mem_of_getElem? (i := 201) (by decide +kernel))) rfl
theorem w_682 : Cond.code yX5_append cX5_append 2 (some .int) ∈ lwG := lwG_of (lwT_3 (List.mem_of_getElem? (i := 202) (by decide +kernel))) rfl
theorem w_684 : Cond.methodLink RL 110 yX8_clearText ∈ lwG := lwG_of (lwT_3 (List.mem_of_getElem? (i := 204) (by decide +kernel))) rfl
theorem w_685 : Cond.instanceMethod yX8_clearText ∈ lwG := lwG_of (lwT_3 (List.mem_of_getElem? (i := 205) (by decide +kernel))) rfl
theorem w_686 : Cond.selects RX8 yX8_clearText yX8_clearText ∈ lwG := lwG_of (lwT_3 (List.mem_of_getElem? (i := 206) (by decide +kernel))) rfl
theorem w_687 : Cond.code yX8_clearText cX8_clearText 2 (some .int) ∈ lwG := lwG_of (lwT_3 (List.mem_of_getElem? (i := 207) (by decide +kernel))) rfl
theorem w_688 : Cond.methodLink RL 114 yX8_fault ∈ lwG := lwG_of (lwT_3 (List.mem_of_getElem? (i := 208) (by decide +kernel))) rfl
theorem w_689 : Cond.instanceMethod yX8_fault ∈ lwG := lwG_of (lwT_3 (List.mem_of_getElem? (i := 209) (by decide +kernel))) rfl
theorem w_690 : Cond.selects RX8 yX8_fault yX8_fault ∈ lwG := lwG_of (lwT_3 (List.mem_of_getElem? (i := 210) (by decide +kernel))) rfl
theorem w_691 : Cond.code yX8_fault cX8_fault 2 (some .int) ∈ lwG := lwG_of (lwT_3 (List.mem_of_getElem? (i := 211) (by decide +kernel))) rfl
theorem w_692 : Cond.methodLink RX8 172 yX8_rehearse ∈ lwG := lwG_of (lwT_3 (List.mem_of_getElem? (i := 212) (by decide +kernel))) rfl
theorem w_694 : Cond.instanceMethod yX8_rehearse ∈ lwG := lwG_of (lwT_3 (List.mem_of_getElem? (i := 214) (by decide +kernel))) rfl
theorem w_695 : Cond.code yX8_rehearse cX8_rehearse 2 (none) ∈ lwG := lwG_of (lwT_3 (List.mem_of_getElem? (i := 215) (by decide +kernel))) rfl
theorem w_696 : Cond.methodLink RX8 181 yX3_copyFrom ∈ lwG := lwG_of (lwT_3 (List.mem_of_getElem? (i := 216) (by decide +kernel))) rfl
theorem w_697 : Cond.methodLink RX8 187 yX5_readCommand ∈ lwG := lwG_of (lwT_3 (List.mem_of_getElem? (i := 217) (by decide +kernel))) rfl
theorem w_698 : Cond.instanceMethod yX5_readCommand ∈ lwG := lwG_of (lwT_3 (List.mem_of_getElem? (i := 218) (by decide +kernel))) rfl
theorem w_699 : Cond.selects RX5 yX5_readCommand yX5_readCommand ∈ lwG := lwG_of (lwT_3 (List.mem_of_getElem? (i := 219) (by decide +kernel))) rfl
theorem w_700 : Cond.code yX5_readCommand cX5_readCommand 5 (some .boolean) ∈ lwG := lwG_of (lwT_3 (List.mem_of_getElem? (i := 220) (by decide +kernel))) rfl
theorem w_701 : Cond.methodLink RX5 27 yX5_signAt ∈ lwG := lwG_of (lwT_3 (List.mem_of_getElem? (i := 221) (by decide +kernel))) rfl
theorem w_702 : Cond.instanceMethod yX5_signAt ∈ lwG := lwG_of (lwT_3 (List.mem_of_getElem? (i := 222) (by decide +kernel))) rfl
theorem w_703 : Cond.selects RX5 yX5_signAt yX5_signAt ∈ lwG := lwG_of (lwT_3 (List.mem_of_getElem? (i := 223) (by decide +kernel))) rfl
theorem w_704 : Cond.code yX5_signAt cX5_signAt 3 (some .char) ∈ lwG := lwG_of (lwT_3 (List.mem_of_getElem? (i := 224) (by decide +kernel))) rfl
theorem w_705 : Cond.methodLink RX5 35 yX5_numbersOf ∈ lwG := lwG_of (lwT_3 (List.mem_of_getElem? (i := 225) (by decide +kernel))) rfl
theorem w_706 : Cond.static yX5_numbersOf ∈ lwG := lwG_of (lwT_3 (List.mem_of_getElem? (i := 226) (by decide +kernel))) rfl
theorem w_707 : Cond.code yX5_numbersOf cX5_numbersOf 1 (some .int) ∈ lwG := lwG_of (lwT_3 (List.mem_of_getElem? (i := 227) (by decide +kernel))) rfl
theorem w_708 : Cond.methodLink RX5 42 yX5_readNumber ∈ lwG := lwG_of (lwT_3 (List.mem_of_getElem? (i := 228) (by decide +kernel))) rfl
theorem w_709 : Cond.instanceMethod yX5_readNumber ∈ lwG := lwG_of (lwT_3 (List.mem_of_getElem? (i := 229) (by decide +kernel))) rfl
theorem w_710 : Cond.selects RX5 yX5_readNumber yX5_readNumber ∈ lwG := lwG_of (lwT_3 (List.mem_of_getElem? (i := 230) (by decide +kernel))) rfl
theorem w_711 : Cond.code yX5_readNumber cX5_readNumber 4 (some .boolean) ∈ lwG := lwG_of (lwT_3 (List.mem_of_getElem? (i := 231) (by decide +kernel))) rfl
theorem w_713 : Cond.methodLink RX8 191 yX8_perform ∈ lwG := lwG_of (lwT_3 (List.mem_of_getElem? (i := 233) (by decide +kernel))) rfl
theorem w_715 : Cond.instanceMethod yX8_perform ∈ lwG := lwG_of (lwT_3 (List.mem_of_getElem? (i := 235) (by decide +kernel))) rfl
theorem w_716 : Cond.code yX8_perform cX8_perform 3 (some .int) ∈ lwG := lwG_of (lwT_3 (List.mem_of_getElem? (i := 236) (by decide +kernel))) rfl
theorem w_717 : Cond.methodLink RX8 195 yX8_reasonOf ∈ lwG := lwG_of (lwT_3 (List.mem_of_getElem? (i := 237) (by decide +kernel))) rfl
theorem w_718 : Cond.static yX8_reasonOf ∈ lwG := lwG_of (lwT_3 (List.mem_of_getElem? (i := 238) (by decide +kernel))) rfl
theorem w_719 : Cond.code yX8_reasonOf cX8_reasonOf 1 (some .int) ∈ lwG := lwG_of (lwT_3 (List.mem_of_getElem? (i := 239) (by decide +kernel))) rfl
theorem w_720 : Cond.methodLink RL 118 yX8_play ∈ lwG := lwG_of (lwT_4 (List.mem_of_getElem? (i := 0) (by decide +kernel))) rfl
theorem w_721 : Cond.instanceMethod yX8_play ∈ lwG := lwG_of (lwT_4 (List.mem_of_getElem? (i := 1) (by decide +kernel))) rfl
theorem w_722 : Cond.selects RX8 yX8_play yX8_play ∈ lwG := lwG_of (lwT_4 (List.mem_of_getElem? (i := 2) (by decide +kernel))) rfl
theorem w_723 : Cond.code yX8_play cX8_play 1 (some .int) ∈ lwG := lwG_of (lwT_4 (List.mem_of_getElem? (i := 3) (by decide +kernel))) rfl
theorem w_724 : Cond.classLink RL 10 RX9 ∈ lwG := lwG_of (lwT_4 (List.mem_of_getElem? (i := 4) (by decide +kernel))) rfl
theorem w_725 : Cond.instantiable RX9 11 ∈ lwG := lwG_of (lwT_4 (List.mem_of_getElem? (i := 5) (by decide +kernel))) rfl
theorem w_726 : Cond.methodLink RL 12 yX9_init ∈ lwG := lwG_of (lwT_4 (List.mem_of_getElem? (i := 6) (by decide +kernel))) rfl
theorem w_727 : Cond.instanceMethod yX9_init ∈ lwG := lwG_of (lwT_4 (List.mem_of_getElem? (i := 7) (by decide +kernel))) rfl
theorem w_728 : Cond.code yX9_init cX9_init 2 (none) ∈ lwG := lwG_of (lwT_4 (List.mem_of_getElem? (i := 8) (by decide +kernel))) rfl
theorem w_729 : Cond.methodLink RX9 1 Lib.objectInit ∈ lwG := lwG_of (lwT_4 (List.mem_of_getElem? (i := 9) (by decide +kernel))) rfl
theorem w_730 : Cond.fieldLink RX9 7 "BatchCellarsModel" "s" "[I" ∈ lwG := lwG_of (lwT_4 (List.mem_of_getElem? (i := 10) (by decide +kernel))) rfl
theorem w_731 : Cond.fieldLink RX9 13 "BatchCellarsModel" "past" "[I" ∈ lwG := lwG_of (lwT_4 (List.mem_of_getElem? (i := 11) (by decide +kernel))) rfl
theorem w_732 : Cond.fieldLink RX9 16 "BatchCellarsModel" "held" "[I" ∈ lwG := lwG_of (lwT_4 (List.mem_of_getElem? (i := 12) (by decide +kernel))) rfl
theorem w_733 : Cond.fieldLink RX9 29 "BatchCellarsModel" "pasts" "I" ∈ lwG := lwG_of (lwT_4 (List.mem_of_getElem? (i := 13) (by decide +kernel))) rfl
theorem w_734 : Cond.fieldLink RX9 25 "BatchCellarsModel" "runs" "Z" ∈ lwG := lwG_of (lwT_4 (List.mem_of_getElem? (i := 14) (by decide +kernel))) rfl
theorem w_735 : Cond.fieldLink RX9 19 "BatchCellarsModel" "text" "[I" ∈ lwG := lwG_of (lwT_4 (List.mem_of_getElem? (i := 15) (by decide +kernel))) rfl
theorem w_736 : Cond.fieldLink RX9 121 "BatchCellarsModel" "typed" "I" ∈ lwG := lwG_of (lwT_4 (List.mem_of_getElem? (i := 16) (by decide +kernel))) rfl
theorem w_737 : Cond.fieldLink RX9 127 "BatchCellarsModel" "spot" "I" ∈ lwG := lwG_of (lwT_4 (List.mem_of_getElem? (i := 17) (by decide +kernel))) rfl
theorem w_738 : Cond.fieldLink RX9 154 "BatchCellarsModel" "cause" "I" ∈ lwG := lwG_of (lwT_4 (List.mem_of_getElem? (i := 18) (by decide +kernel))) rfl
theorem w_739 : Cond.fieldLink RX9 151 "BatchCellarsModel" "commands" "I" ∈ lwG := lwG_of (lwT_4 (List.mem_of_getElem? (i := 19) (by decide +kernel))) rfl
theorem w_740 : Cond.fieldLink RX9 22 "BatchCellarsModel" "told" "[I" ∈ lwG := lwG_of (lwT_4 (List.mem_of_getElem? (i := 20) (by decide +kernel))) rfl
theorem w_764 : Cond.methodLink RL 17 yX9_recipe ∈ lwG := lwG_of (lwT_4 (List.mem_of_getElem? (i := 44) (by decide +kernel))) rfl
theorem w_765 : Cond.instanceMethod yX9_recipe ∈ lwG := lwG_of (lwT_4 (List.mem_of_getElem? (i := 45) (by decide +kernel))) rfl
theorem w_766 : Cond.selects RX9 yX9_recipe yX9_recipe ∈ lwG := lwG_of (lwT_4 (List.mem_of_getElem? (i := 46) (by decide +kernel))) rfl
theorem w_767 : Cond.code yX9_recipe cX9_recipe 3 (some .int) ∈ lwG := lwG_of (lwT_4 (List.mem_of_getElem? (i := 47) (by decide +kernel))) rfl
theorem w_768 : Cond.methodLink RX9 33 yX9_in ∈ lwG := lwG_of (lwT_4 (List.mem_of_getElem? (i := 48) (by decide +kernel))) rfl
theorem w_769 : Cond.static yX9_in ∈ lwG := lwG_of (lwT_4 (List.mem_of_getElem? (i := 49) (by decide +kernel))) rfl
theorem w_770 : Cond.code yX9_in cX9_in 3 (some .boolean) ∈ lwG := lwG_of (lwT_4 (List.mem_of_getElem? (i := 50) (by decide +kernel))) rfl
theorem w_771 : Cond.methodLink RX9 41 yX9_changes ∈ lwG := lwG_of (lwT_4 (List.mem_of_getElem? (i := 51) (by decide +kernel))) rfl
theorem w_773 : Cond.instanceMethod yX9_changes ∈ lwG := lwG_of (lwT_4 (List.mem_of_getElem? (i := 53) (by decide +kernel))) rfl
theorem w_774 : Cond.code yX9_changes cX9_changes 2 (none) ∈ lwG := lwG_of (lwT_4 (List.mem_of_getElem? (i := 54) (by decide +kernel))) rfl
theorem w_775 : Cond.methodLink RL 22 yX9_stage ∈ lwG := lwG_of (lwT_4 (List.mem_of_getElem? (i := 55) (by decide +kernel))) rfl
theorem w_776 : Cond.instanceMethod yX9_stage ∈ lwG := lwG_of (lwT_4 (List.mem_of_getElem? (i := 56) (by decide +kernel))) rfl
theorem w_777 : Cond.selects RX9 yX9_stage yX9_stage ∈ lwG := lwG_of (lwT_4 (List.mem_of_getElem? (i := 57) (by decide +kernel))) rfl
theorem w_778 : Cond.code yX9_stage cX9_stage 8 (some .int) ∈ lwG := lwG_of (lwT_4 (List.mem_of_getElem? (i := 58) (by decide +kernel))) rfl
theorem w_779 : Cond.methodLink RX9 48 yX9_isRecipe ∈ lwG := lwG_of (lwT_4 (List.mem_of_getElem? (i := 59) (by decide +kernel))) rfl
theorem w_781 : Cond.instanceMethod yX9_isRecipe ∈ lwG := lwG_of (lwT_4 (List.mem_of_getElem? (i := 61) (by decide +kernel))) rfl
theorem w_782 : Cond.code yX9_isRecipe cX9_isRecipe 2 (some .boolean) ∈ lwG := lwG_of (lwT_4 (List.mem_of_getElem? (i := 62) (by decide +kernel))) rfl
theorem w_783 : Cond.methodLink RX9 51 yX9_isMade ∈ lwG := lwG_of (lwT_4 (List.mem_of_getElem? (i := 63) (by decide +kernel))) rfl
theorem w_785 : Cond.instanceMethod yX9_isMade ∈ lwG := lwG_of (lwT_4 (List.mem_of_getElem? (i := 65) (by decide +kernel))) rfl
theorem w_786 : Cond.code yX9_isMade cX9_isMade 4 (some .boolean) ∈ lwG := lwG_of (lwT_4 (List.mem_of_getElem? (i := 66) (by decide +kernel))) rfl
theorem w_787 : Cond.methodLink RX9 44 yX9_isBatch ∈ lwG := lwG_of (lwT_4 (List.mem_of_getElem? (i := 67) (by decide +kernel))) rfl
theorem w_789 : Cond.instanceMethod yX9_isBatch ∈ lwG := lwG_of (lwT_4 (List.mem_of_getElem? (i := 69) (by decide +kernel))) rfl
theorem w_790 : Cond.code yX9_isBatch cX9_isBatch 2 (some .boolean) ∈ lwG := lwG_of (lwT_4 (List.mem_of_getElem? (i := 70) (by decide +kernel))) rfl
theorem w_791 : Cond.methodLink RX9 37 yX9_of ∈ lwG := lwG_of (lwT_4 (List.mem_of_getElem? (i := 71) (by decide +kernel))) rfl
theorem w_793 : Cond.instanceMethod yX9_of ∈ lwG := lwG_of (lwT_4 (List.mem_of_getElem? (i := 73) (by decide +kernel))) rfl
theorem w_794 : Cond.code yX9_of cX9_of 3 (some .int) ∈ lwG := lwG_of (lwT_4 (List.mem_of_getElem? (i := 74) (by decide +kernel))) rfl
theorem w_795 : Cond.methodLink RX9 54 yX9_stages ∈ lwG := lwG_of (lwT_4 (List.mem_of_getElem? (i := 75) (by decide +kernel))) rfl
theorem w_797 : Cond.instanceMethod yX9_stages ∈ lwG := lwG_of (lwT_4 (List.mem_of_getElem? (i := 77) (by decide +kernel))) rfl
theorem w_798 : Cond.code yX9_stages cX9_stages 2 (some .int) ∈ lwG := lwG_of (lwT_4 (List.mem_of_getElem? (i := 78) (by decide +kernel))) rfl
theorem w_799 : Cond.methodLink RL 27 yX9_vessel ∈ lwG := lwG_of (lwT_4 (List.mem_of_getElem? (i := 79) (by decide +kernel))) rfl
theorem w_800 : Cond.instanceMethod yX9_vessel ∈ lwG := lwG_of (lwT_4 (List.mem_of_getElem? (i := 80) (by decide +kernel))) rfl
theorem w_801 : Cond.selects RX9 yX9_vessel yX9_vessel ∈ lwG := lwG_of (lwT_4 (List.mem_of_getElem? (i := 81) (by decide +kernel))) rfl
theorem w_802 : Cond.code yX9_vessel cX9_vessel 4 (some .int) ∈ lwG := lwG_of (lwT_4 (List.mem_of_getElem? (i := 82) (by decide +kernel))) rfl
theorem w_803 : Cond.methodLink RX9 58 yX9_putsVessel ∈ lwG := lwG_of (lwT_4 (List.mem_of_getElem? (i := 83) (by decide +kernel))) rfl
theorem w_805 : Cond.instanceMethod yX9_putsVessel ∈ lwG := lwG_of (lwT_4 (List.mem_of_getElem? (i := 85) (by decide +kernel))) rfl
theorem w_806 : Cond.code yX9_putsVessel cX9_putsVessel 4 (none) ∈ lwG := lwG_of (lwT_4 (List.mem_of_getElem? (i := 86) (by decide +kernel))) rfl
theorem w_807 : Cond.methodLink RL 31 yX9_line ∈ lwG := lwG_of (lwT_4 (List.mem_of_getElem? (i := 87) (by decide +kernel))) rfl
theorem w_808 : Cond.instanceMethod yX9_line ∈ lwG := lwG_of (lwT_4 (List.mem_of_getElem? (i := 88) (by decide +kernel))) rfl
theorem w_809 : Cond.selects RX9 yX9_line yX9_line ∈ lwG := lwG_of (lwT_4 (List.mem_of_getElem? (i := 89) (by decide +kernel))) rfl
theorem w_810 : Cond.code yX9_line cX9_line 4 (some .int) ∈ lwG := lwG_of (lwT_4 (List.mem_of_getElem? (i := 90) (by decide +kernel))) rfl
theorem w_811 : Cond.methodLink RX9 62 yX9_bits ∈ lwG := lwG_of (lwT_4 (List.mem_of_getElem? (i := 91) (by decide +kernel))) rfl
theorem w_812 : Cond.static yX9_bits ∈ lwG := lwG_of (lwT_4 (List.mem_of_getElem? (i := 92) (by decide +kernel))) rfl
theorem w_813 : Cond.code yX9_bits cX9_bits 3 (some .int) ∈ lwG := lwG_of (lwT_4 (List.mem_of_getElem? (i := 93) (by decide +kernel))) rfl
theorem w_814 : Cond.methodLink RL 36 yX9_cleaning ∈ lwG := lwG_of (lwT_4 (List.mem_of_getElem? (i := 94) (by decide +kernel))) rfl
theorem w_815 : Cond.instanceMethod yX9_cleaning ∈ lwG := lwG_of (lwT_4 (List.mem_of_getElem? (i := 95) (by decide +kernel))) rfl
theorem w_816 : Cond.selects RX9 yX9_cleaning yX9_cleaning ∈ lwG := lwG_of (lwT_4 (List.mem_of_getElem? (i := 96) (by decide +kernel))) rfl
theorem w_817 : Cond.code yX9_cleaning cX9_cleaning 5 (some .int) ∈ lwG := lwG_of (lwT_4 (List.mem_of_getElem? (i := 97) (by decide +kernel))) rfl
theorem w_818 : Cond.methodLink RL 40 yX9_stageOf ∈ lwG := lwG_of (lwT_4 (List.mem_of_getElem? (i := 98) (by decide +kernel))) rfl
theorem w_819 : Cond.instanceMethod yX9_stageOf ∈ lwG := lwG_of (lwT_4 (List.mem_of_getElem? (i := 99) (by decide +kernel))) rfl
theorem w_820 : Cond.selects RX9 yX9_stageOf yX9_stageOf ∈ lwG := lwG_of (lwT_4 (List.mem_of_getElem? (i := 100) (by decide +kernel))) rfl
theorem w_821 : Cond.code yX9_stageOf cX9_stageOf 4 (some .int) ∈ lwG := lwG_of (lwT_4 (List.mem_of_getElem? (i := 101) (by decide +kernel))) rfl
theorem w_822 : Cond.methodLink RX9 65 yX9_product ∈ lwG := lwG_of (lwT_4 (List.mem_of_getElem? (i := 102) (by decide +kernel))) rfl
theorem w_824 : Cond.instanceMethod yX9_product ∈ lwG := lwG_of (lwT_4 (List.mem_of_getElem? (i := 104) (by decide +kernel))) rfl
theorem w_825 : Cond.code yX9_product cX9_product 2 (some .int) ∈ lwG := lwG_of (lwT_4 (List.mem_of_getElem? (i := 105) (by decide +kernel))) rfl
theorem w_826 : Cond.methodLink RX9 68 yX9_ofStage ∈ lwG := lwG_of (lwT_4 (List.mem_of_getElem? (i := 106) (by decide +kernel))) rfl
theorem w_828 : Cond.instanceMethod yX9_ofStage ∈ lwG := lwG_of (lwT_4 (List.mem_of_getElem? (i := 108) (by decide +kernel))) rfl
theorem w_829 : Cond.code yX9_ofStage cX9_ofStage 4 (some .int) ∈ lwG := lwG_of (lwT_4 (List.mem_of_getElem? (i := 109) (by decide +kernel))) rfl
theorem w_830 : Cond.methodLink RL 44 yX9_begin ∈ lwG := lwG_of (lwT_4 (List.mem_of_getElem? (i := 110) (by decide +kernel))) rfl
theorem w_831 : Cond.instanceMethod yX9_begin ∈ lwG := lwG_of (lwT_4 (List.mem_of_getElem? (i := 111) (by decide +kernel))) rfl
theorem w_832 : Cond.selects RX9 yX9_begin yX9_begin ∈ lwG := lwG_of (lwT_4 (List.mem_of_getElem? (i := 112) (by decide +kernel))) rfl
theorem w_833 : Cond.code yX9_begin cX9_begin 5 (some .int) ∈ lwG := lwG_of (lwT_4 (List.mem_of_getElem? (i := 113) (by decide +kernel))) rfl
theorem w_834 : Cond.methodLink RX9 87 yX9_isVessel ∈ lwG := lwG_of (lwT_4 (List.mem_of_getElem? (i := 114) (by decide +kernel))) rfl
theorem w_836 : Cond.instanceMethod yX9_isVessel ∈ lwG := lwG_of (lwT_4 (List.mem_of_getElem? (i := 116) (by decide +kernel))) rfl
theorem w_837 : Cond.code yX9_isVessel cX9_isVessel 2 (some .boolean) ∈ lwG := lwG_of (lwT_4 (List.mem_of_getElem? (i := 117) (by decide +kernel))) rfl
theorem w_838 : Cond.methodLink RX9 90 yX9_takes ∈ lwG := lwG_of (lwT_4 (List.mem_of_getElem? (i := 118) (by decide +kernel))) rfl
theorem w_840 : Cond.instanceMethod yX9_takes ∈ lwG := lwG_of (lwT_4 (List.mem_of_getElem? (i := 120) (by decide +kernel))) rfl
theorem w_841 : Cond.code yX9_takes cX9_takes 4 (some .boolean) ∈ lwG := lwG_of (lwT_4 (List.mem_of_getElem? (i := 121) (by decide +kernel))) rfl
theorem w_842 : Cond.methodLink RX9 78 yX9_ofVessel ∈ lwG := lwG_of (lwT_4 (List.mem_of_getElem? (i := 122) (by decide +kernel))) rfl
theorem w_844 : Cond.instanceMethod yX9_ofVessel ∈ lwG := lwG_of (lwT_4 (List.mem_of_getElem? (i := 124) (by decide +kernel))) rfl
theorem w_845 : Cond.code yX9_ofVessel cX9_ofVessel 3 (some .int) ∈ lwG := lwG_of (lwT_4 (List.mem_of_getElem? (i := 125) (by decide +kernel))) rfl
theorem w_846 : Cond.methodLink RX9 84 yX9_puts ∈ lwG := lwG_of (lwT_4 (List.mem_of_getElem? (i := 126) (by decide +kernel))) rfl
theorem w_848 : Cond.instanceMethod yX9_puts ∈ lwG := lwG_of (lwT_4 (List.mem_of_getElem? (i := 128) (by decide +kernel))) rfl
theorem w_849 : Cond.code yX9_puts cX9_puts 4 (none) ∈ lwG := lwG_of (lwT_4 (List.mem_of_getElem? (i := 129) (by decide +kernel))) rfl
theorem w_850 : Cond.methodLink RX9 93 yX9_comes ∈ lwG := lwG_of (lwT_4 (List.mem_of_getElem? (i := 130) (by decide +kernel))) rfl
theorem w_852 : Cond.instanceMethod yX9_comes ∈ lwG := lwG_of (lwT_4 (List.mem_of_getElem? (i := 132) (by decide +kernel))) rfl
theorem w_853 : Cond.code yX9_comes cX9_comes 5 (some .int) ∈ lwG := lwG_of (lwT_4 (List.mem_of_getElem? (i := 133) (by decide +kernel))) rfl
theorem w_854 : Cond.methodLink RX9 81 yX9_cleans ∈ lwG := lwG_of (lwT_4 (List.mem_of_getElem? (i := 134) (by decide +kernel))) rfl
theorem w_856 : Cond.instanceMethod yX9_cleans ∈ lwG := lwG_of (lwT_4 (List.mem_of_getElem? (i := 136) (by decide +kernel))) rfl
theorem w_857 : Cond.code yX9_cleans cX9_cleans 3 (some .int) ∈ lwG := lwG_of (lwT_4 (List.mem_of_getElem? (i := 137) (by decide +kernel))) rfl
theorem w_858 : Cond.methodLink RL 48 yX9_move ∈ lwG := lwG_of (lwT_4 (List.mem_of_getElem? (i := 138) (by decide +kernel))) rfl
theorem w_859 : Cond.instanceMethod yX9_move ∈ lwG := lwG_of (lwT_4 (List.mem_of_getElem? (i := 139) (by decide +kernel))) rfl
theorem w_860 : Cond.selects RX9 yX9_move yX9_move ∈ lwG := lwG_of (lwT_4 (List.mem_of_getElem? (i := 140) (by decide +kernel))) rfl
theorem w_861 : Cond.code yX9_move cX9_move 6 (some .int) ∈ lwG := lwG_of (lwT_4 (List.mem_of_getElem? (i := 141) (by decide +kernel))) rfl
theorem w_862 : Cond.methodLink RX9 102 yX9_lineTo ∈ lwG := lwG_of (lwT_4 (List.mem_of_getElem? (i := 142) (by decide +kernel))) rfl
theorem w_864 : Cond.instanceMethod yX9_lineTo ∈ lwG := lwG_of (lwT_4 (List.mem_of_getElem? (i := 144) (by decide +kernel))) rfl
theorem w_865 : Cond.code yX9_lineTo cX9_lineTo 8 (some .int) ∈ lwG := lwG_of (lwT_4 (List.mem_of_getElem? (i := 145) (by decide +kernel))) rfl
theorem w_866 : Cond.methodLink RX9 96 yX9_isRipe ∈ lwG := lwG_of (lwT_4 (List.mem_of_getElem? (i := 146) (by decide +kernel))) rfl
theorem w_868 : Cond.instanceMethod yX9_isRipe ∈ lwG := lwG_of (lwT_4 (List.mem_of_getElem? (i := 148) (by decide +kernel))) rfl
theorem w_869 : Cond.code yX9_isRipe cX9_isRipe 2 (some .boolean) ∈ lwG := lwG_of (lwT_4 (List.mem_of_getElem? (i := 149) (by decide +kernel))) rfl
theorem w_870 : Cond.methodLink RX9 75 yX9_ripeAt ∈ lwG := lwG_of (lwT_4 (List.mem_of_getElem? (i := 150) (by decide +kernel))) rfl
theorem w_872 : Cond.instanceMethod yX9_ripeAt ∈ lwG := lwG_of (lwT_4 (List.mem_of_getElem? (i := 152) (by decide +kernel))) rfl
theorem w_873 : Cond.code yX9_ripeAt cX9_ripeAt 2 (some .int) ∈ lwG := lwG_of (lwT_4 (List.mem_of_getElem? (i := 153) (by decide +kernel))) rfl
theorem w_874 : Cond.methodLink RX9 72 yX9_over ∈ lwG := lwG_of (lwT_4 (List.mem_of_getElem? (i := 154) (by decide +kernel))) rfl
theorem w_876 : Cond.instanceMethod yX9_over ∈ lwG := lwG_of (lwT_4 (List.mem_of_getElem? (i := 156) (by decide +kernel))) rfl
theorem w_877 : Cond.code yX9_over cX9_over 2 (some .int) ∈ lwG := lwG_of (lwT_4 (List.mem_of_getElem? (i := 157) (by decide +kernel))) rfl
theorem w_878 : Cond.methodLink RX9 99 yX9_ofLine ∈ lwG := lwG_of (lwT_4 (List.mem_of_getElem? (i := 158) (by decide +kernel))) rfl
theorem w_880 : Cond.instanceMethod yX9_ofLine ∈ lwG := lwG_of (lwT_4 (List.mem_of_getElem? (i := 160) (by decide +kernel))) rfl
theorem w_881 : Cond.code yX9_ofLine cX9_ofLine 3 (some .int) ∈ lwG := lwG_of (lwT_4 (List.mem_of_getElem? (i := 161) (by decide +kernel))) rfl
theorem w_882 : Cond.methodLink RX9 105 yX9_minutesTo ∈ lwG := lwG_of (lwT_4 (List.mem_of_getElem? (i := 162) (by decide +kernel))) rfl
theorem w_884 : Cond.instanceMethod yX9_minutesTo ∈ lwG := lwG_of (lwT_4 (List.mem_of_getElem? (i := 164) (by decide +kernel))) rfl
theorem w_885 : Cond.code yX9_minutesTo cX9_minutesTo 5 (some .int) ∈ lwG := lwG_of (lwT_4 (List.mem_of_getElem? (i := 165) (by decide +kernel))) rfl
theorem w_886 : Cond.methodLink RL 52 yX9_end ∈ lwG := lwG_of (lwT_4 (List.mem_of_getElem? (i := 166) (by decide +kernel))) rfl
theorem w_887 : Cond.instanceMethod yX9_end ∈ lwG := lwG_of (lwT_4 (List.mem_of_getElem? (i := 167) (by decide +kernel))) rfl
theorem w_888 : Cond.selects RX9 yX9_end yX9_end ∈ lwG := lwG_of (lwT_4 (List.mem_of_getElem? (i := 168) (by decide +kernel))) rfl
theorem w_889 : Cond.code yX9_end cX9_end 3 (some .int) ∈ lwG := lwG_of (lwT_4 (List.mem_of_getElem? (i := 169) (by decide +kernel))) rfl
theorem w_890 : Cond.methodLink RX9 108 yX9_goes ∈ lwG := lwG_of (lwT_4 (List.mem_of_getElem? (i := 170) (by decide +kernel))) rfl
theorem w_892 : Cond.instanceMethod yX9_goes ∈ lwG := lwG_of (lwT_4 (List.mem_of_getElem? (i := 172) (by decide +kernel))) rfl
theorem w_893 : Cond.code yX9_goes cX9_goes 2 (some .int) ∈ lwG := lwG_of (lwT_4 (List.mem_of_getElem? (i := 173) (by decide +kernel))) rfl
theorem w_894 : Cond.methodLink RL 56 yX9_discard ∈ lwG := lwG_of (lwT_4 (List.mem_of_getElem? (i := 174) (by decide +kernel))) rfl
theorem w_895 : Cond.instanceMethod yX9_discard ∈ lwG := lwG_of (lwT_4 (List.mem_of_getElem? (i := 175) (by decide +kernel))) rfl
theorem w_896 : Cond.selects RX9 yX9_discard yX9_discard ∈ lwG := lwG_of (lwT_4 (List.mem_of_getElem? (i := 176) (by decide +kernel))) rfl
theorem w_897 : Cond.code yX9_discard cX9_discard 3 (some .int) ∈ lwG := lwG_of (lwT_4 (List.mem_of_getElem? (i := 177) (by decide +kernel))) rfl
theorem w_898 : Cond.methodLink RL 60 yX9_blend ∈ lwG := lwG_of (lwT_4 (List.mem_of_getElem? (i := 178) (by decide +kernel))) rfl
theorem w_899 : Cond.instanceMethod yX9_blend ∈ lwG := lwG_of (lwT_4 (List.mem_of_getElem? (i := 179) (by decide +kernel))) rfl
theorem w_900 : Cond.selects RX9 yX9_blend yX9_blend ∈ lwG := lwG_of (lwT_4 (List.mem_of_getElem? (i := 180) (by decide +kernel))) rfl
theorem w_901 : Cond.code yX9_blend cX9_blend 3 (some .int) ∈ lwG := lwG_of (lwT_4 (List.mem_of_getElem? (i := 181) (by decide +kernel))) rfl
theorem w_902 : Cond.methodLink RX9 111 yX9_canBlend ∈ lwG := lwG_of (lwT_4 (List.mem_of_getElem? (i := 182) (by decide +kernel))) rfl
theorem w_904 : Cond.instanceMethod yX9_canBlend ∈ lwG := lwG_of (lwT_4 (List.mem_of_getElem? (i := 184) (by decide +kernel))) rfl
theorem w_905 : Cond.code yX9_canBlend cX9_canBlend 4 (some .boolean) ∈ lwG := lwG_of (lwT_4 (List.mem_of_getElem? (i := 185) (by decide +kernel))) rfl
theorem w_906 : Cond.methodLink RL 64 yX9_pass ∈ lwG := lwG_of (lwT_4 (List.mem_of_getElem? (i := 186) (by decide +kernel))) rfl
theorem w_907 : Cond.instanceMethod yX9_pass ∈ lwG := lwG_of (lwT_4 (List.mem_of_getElem? (i := 187) (by decide +kernel))) rfl
theorem w_908 : Cond.selects RX9 yX9_pass yX9_pass ∈ lwG := lwG_of (lwT_4 (List.mem_of_getElem? (i := 188) (by decide +kernel))) rfl
theorem w_909 : Cond.code yX9_pass cX9_pass 4 (some .int) ∈ lwG := lwG_of (lwT_4 (List.mem_of_getElem? (i := 189) (by decide +kernel))) rfl
theorem w_910 : Cond.methodLink RX9 115 yX9_goodTill ∈ lwG := lwG_of (lwT_4 (List.mem_of_getElem? (i := 190) (by decide +kernel))) rfl
theorem w_912 : Cond.instanceMethod yX9_goodTill ∈ lwG := lwG_of (lwT_4 (List.mem_of_getElem? (i := 192) (by decide +kernel))) rfl
theorem w_913 : Cond.code yX9_goodTill cX9_goodTill 2 (some .int) ∈ lwG := lwG_of (lwT_4 (List.mem_of_getElem? (i := 193) (by decide +kernel))) rfl
theorem w_914 : Cond.methodLink RL 68 yX9_set ∈ lwG := lwG_of (lwT_4 (List.mem_of_getElem? (i := 194) (by decide +kernel))) rfl
theorem w_915 : Cond.instanceMethod yX9_set ∈ lwG := lwG_of (lwT_4 (List.mem_of_getElem? (i := 195) (by decide +kernel))) rfl
theorem w_916 : Cond.selects RX9 yX9_set yX9_set ∈ lwG := lwG_of (lwT_4 (List.mem_of_getElem? (i := 196) (by decide +kernel))) rfl
theorem w_917 : Cond.code yX9_set cX9_set 4 (some .int) ∈ lwG := lwG_of (lwT_4 (List.mem_of_getElem? (i := 197) (by decide +kernel))) rfl
theorem w_918 : Cond.methodLink RL 72 yX9_batchOf ∈ lwG := lwG_of (lwT_4 (List.mem_of_getElem? (i := 198) (by decide +kernel))) rfl
theorem w_919 : Cond.instanceMethod yX9_batchOf ∈ lwG := lwG_of (lwT_4 (List.mem_of_getElem? (i := 199) (by decide +kernel))) rfl
theorem w_920 : Cond.selects RX9 yX9_batchOf yX9_batchOf ∈ lwG := lwG_of (lwT_4 (List.mem_of_getElem? (i := 200) (by decide +kernel))) rfl
theorem w_921 : Cond.code yX9_batchOf cX9_batchOf 3 (some .int) ∈ lwG := lwG_of (lwT_4 (List.mem_of_getElem? (i := 201) (by decide +kernel))) rfl
theorem w_922 : Cond.methodLink RL 76 yX9_vesselOf ∈ lwG := lwG_of (lwT_4 (List.mem_of_getElem? (i := 202) (by decide +kernel))) rfl
theorem w_923 : Cond.instanceMethod yX9_vesselOf ∈ lwG := lwG_of (lwT_4 (List.mem_of_getElem? (i := 203) (by decide +kernel))) rfl
theorem w_924 : Cond.selects RX9 yX9_vesselOf yX9_vesselOf ∈ lwG := lwG_of (lwT_4 (List.mem_of_getElem? (i := 204) (by decide +kernel))) rfl
theorem w_925 : Cond.code yX9_vesselOf cX9_vesselOf 4 (some .int) ∈ lwG := lwG_of (lwT_4 (List.mem_of_getElem? (i := 205) (by decide +kernel))) rfl
theorem w_926 : Cond.methodLink RL 80 yX9_lineOf ∈ lwG := lwG_of (lwT_4 (List.mem_of_getElem? (i := 206) (by decide +kernel))) rfl
theorem w_927 : Cond.instanceMethod yX9_lineOf ∈ lwG := lwG_of (lwT_4 (List.mem_of_getElem? (i := 207) (by decide +kernel))) rfl
theorem w_928 : Cond.selects RX9 yX9_lineOf yX9_lineOf ∈ lwG := lwG_of (lwT_4 (List.mem_of_getElem? (i := 208) (by decide +kernel))) rfl
theorem w_929 : Cond.code yX9_lineOf cX9_lineOf 4 (some .int) ∈ lwG := lwG_of (lwT_4 (List.mem_of_getElem? (i := 209) (by decide +kernel))) rfl
theorem w_930 : Cond.methodLink RL 84 yX9_count ∈ lwG := lwG_of (lwT_4 (List.mem_of_getElem? (i := 210) (by decide +kernel))) rfl
theorem w_931 : Cond.instanceMethod yX9_count ∈ lwG := lwG_of (lwT_4 (List.mem_of_getElem? (i := 211) (by decide +kernel))) rfl
theorem w_932 : Cond.selects RX9 yX9_count yX9_count ∈ lwG := lwG_of (lwT_4 (List.mem_of_getElem? (i := 212) (by decide +kernel))) rfl
theorem w_933 : Cond.code yX9_count cX9_count 2 (some .int) ∈ lwG := lwG_of (lwT_4 (List.mem_of_getElem? (i := 213) (by decide +kernel))) rfl
theorem w_934 : Cond.methodLink RX9 118 yX9_ofBatches ∈ lwG := lwG_of (lwT_4 (List.mem_of_getElem? (i := 214) (by decide +kernel))) rfl
theorem w_936 : Cond.instanceMethod yX9_ofBatches ∈ lwG := lwG_of (lwT_4 (List.mem_of_getElem? (i := 216) (by decide +kernel))) rfl
theorem w_937 : Cond.code yX9_ofBatches cX9_ofBatches 4 (some .int) ∈ lwG := lwG_of (lwT_4 (List.mem_of_getElem? (i := 217) (by decide +kernel))) rfl
theorem w_938 : Cond.methodLink RL 88 yX9_targets ∈ lwG := lwG_of (lwT_4 (List.mem_of_getElem? (i := 218) (by decide +kernel))) rfl
theorem w_939 : Cond.instanceMethod yX9_targets ∈ lwG := lwG_of (lwT_4 (List.mem_of_getElem? (i := 219) (by decide +kernel))) rfl
theorem w_940 : Cond.selects RX9 yX9_targets yX9_targets ∈ lwG := lwG_of (lwT_4 (List.mem_of_getElem? (i := 220) (by decide +kernel))) rfl
theorem w_941 : Cond.code yX9_targets cX9_targets 4 (some .int) ∈ lwG := lwG_of (lwT_4 (List.mem_of_getElem? (i := 221) (by decide +kernel))) rfl
theorem w_942 : Cond.methodLink RL 92 yX9_quickest ∈ lwG := lwG_of (lwT_4 (List.mem_of_getElem? (i := 222) (by decide +kernel))) rfl
theorem w_943 : Cond.instanceMethod yX9_quickest ∈ lwG := lwG_of (lwT_4 (List.mem_of_getElem? (i := 223) (by decide +kernel))) rfl
theorem w_944 : Cond.selects RX9 yX9_quickest yX9_quickest ∈ lwG := lwG_of (lwT_4 (List.mem_of_getElem? (i := 224) (by decide +kernel))) rfl
theorem w_945 : Cond.code yX9_quickest cX9_quickest 9 (some .int) ∈ lwG := lwG_of (lwT_4 (List.mem_of_getElem? (i := 225) (by decide +kernel))) rfl
theorem w_946 : Cond.methodLink RL 96 yX9_soonest ∈ lwG := lwG_of (lwT_4 (List.mem_of_getElem? (i := 226) (by decide +kernel))) rfl
theorem w_947 : Cond.instanceMethod yX9_soonest ∈ lwG := lwG_of (lwT_4 (List.mem_of_getElem? (i := 227) (by decide +kernel))) rfl
theorem w_948 : Cond.selects RX9 yX9_soonest yX9_soonest ∈ lwG := lwG_of (lwT_4 (List.mem_of_getElem? (i := 228) (by decide +kernel))) rfl
theorem w_949 : Cond.code yX9_soonest cX9_soonest 6 (some .int) ∈ lwG := lwG_of (lwT_4 (List.mem_of_getElem? (i := 229) (by decide +kernel))) rfl
theorem w_950 : Cond.methodLink RX9 124 yX9_isRoom ∈ lwG := lwG_of (lwT_4 (List.mem_of_getElem? (i := 230) (by decide +kernel))) rfl
theorem w_952 : Cond.instanceMethod yX9_isRoom ∈ lwG := lwG_of (lwT_4 (List.mem_of_getElem? (i := 232) (by decide +kernel))) rfl
theorem w_953 : Cond.code yX9_isRoom cX9_isRoom 5 (some .boolean) ∈ lwG := lwG_of (lwT_4 (List.mem_of_getElem? (i := 233) (by decide +kernel))) rfl
theorem w_954 : Cond.methodLink RL 100 yX9_urgent ∈ lwG := lwG_of (lwT_4 (List.mem_of_getElem? (i := 234) (by decide +kernel))) rfl
theorem w_955 : Cond.instanceMethod yX9_urgent ∈ lwG := lwG_of (lwT_4 (List.mem_of_getElem? (i := 235) (by decide +kernel))) rfl
theorem w_956 : Cond.selects RX9 yX9_urgent yX9_urgent ∈ lwG := lwG_of (lwT_4 (List.mem_of_getElem? (i := 236) (by decide +kernel))) rfl
theorem w_957 : Cond.code yX9_urgent cX9_urgent 8 (some .int) ∈ lwG := lwG_of (lwT_4 (List.mem_of_getElem? (i := 237) (by decide +kernel))) rfl
theorem w_958 : Cond.methodLink RL 105 yX9_undo ∈ lwG := lwG_of (lwT_4 (List.mem_of_getElem? (i := 238) (by decide +kernel))) rfl
theorem w_959 : Cond.instanceMethod yX9_undo ∈ lwG := lwG_of (lwT_4 (List.mem_of_getElem? (i := 239) (by decide +kernel))) rfl
theorem w_960 : Cond.selects RX9 yX9_undo yX9_undo ∈ lwG := lwG_of (lwT_5 (List.mem_of_getElem? (i := 0) (by decide +kernel))) rfl
theorem w_961 : Cond.code yX9_undo cX9_undo 2 (some .int) ∈ lwG := lwG_of (lwT_5 (List.mem_of_getElem? (i := 1) (by decide +kernel))) rfl
theorem w_962 : Cond.methodLink RL 109 yX9_type ∈ lwG := lwG_of (lwT_5 (List.mem_of_getElem? (i := 2) (by decide +kernel))) rfl
theorem w_963 : Cond.instanceMethod yX9_type ∈ lwG := lwG_of (lwT_5 (List.mem_of_getElem? (i := 3) (by decide +kernel))) rfl
theorem w_964 : Cond.selects RX9 yX9_type yX9_type ∈ lwG := lwG_of (lwT_5 (List.mem_of_getElem? (i := 4) (by decide +kernel))) rfl
theorem w_965 : Cond.code yX9_type cX9_type 2 (some .int) ∈ lwG := lwG_of (lwT_5 (List.mem_of_getElem? (i := 5) (by decide +kernel))) rfl
theorem w_966 : Cond.methodLink RL 113 yX9_clearText ∈ lwG := lwG_of (lwT_5 (List.mem_of_getElem? (i := 6) (by decide +kernel))) rfl
theorem w_967 : Cond.instanceMethod yX9_clearText ∈ lwG := lwG_of (lwT_5 (List.mem_of_getElem? (i := 7) (by decide +kernel))) rfl
theorem w_968 : Cond.selects RX9 yX9_clearText yX9_clearText ∈ lwG := lwG_of (lwT_5 (List.mem_of_getElem? (i := 8) (by decide +kernel))) rfl
theorem w_969 : Cond.code yX9_clearText cX9_clearText 2 (some .int) ∈ lwG := lwG_of (lwT_5 (List.mem_of_getElem? (i := 9) (by decide +kernel))) rfl
theorem w_970 : Cond.methodLink RL 117 yX9_fault ∈ lwG := lwG_of (lwT_5 (List.mem_of_getElem? (i := 10) (by decide +kernel))) rfl
theorem w_971 : Cond.instanceMethod yX9_fault ∈ lwG := lwG_of (lwT_5 (List.mem_of_getElem? (i := 11) (by decide +kernel))) rfl
theorem w_972 : Cond.selects RX9 yX9_fault yX9_fault ∈ lwG := lwG_of (lwT_5 (List.mem_of_getElem? (i := 12) (by decide +kernel))) rfl
theorem w_973 : Cond.code yX9_fault cX9_fault 3 (some .int) ∈ lwG := lwG_of (lwT_5 (List.mem_of_getElem? (i := 13) (by decide +kernel))) rfl
theorem w_974 : Cond.methodLink RX9 166 yX9_copies ∈ lwG := lwG_of (lwT_5 (List.mem_of_getElem? (i := 14) (by decide +kernel))) rfl
theorem w_975 : Cond.static yX9_copies ∈ lwG := lwG_of (lwT_5 (List.mem_of_getElem? (i := 15) (by decide +kernel))) rfl
theorem w_976 : Cond.code yX9_copies cX9_copies 3 (none) ∈ lwG := lwG_of (lwT_5 (List.mem_of_getElem? (i := 16) (by decide +kernel))) rfl
theorem w_977 : Cond.methodLink RX9 170 yX9_plays ∈ lwG := lwG_of (lwT_5 (List.mem_of_getElem? (i := 17) (by decide +kernel))) rfl
theorem w_979 : Cond.instanceMethod yX9_plays ∈ lwG := lwG_of (lwT_5 (List.mem_of_getElem? (i := 19) (by decide +kernel))) rfl
theorem w_980 : Cond.code yX9_plays cX9_plays 6 (some .int) ∈ lwG := lwG_of (lwT_5 (List.mem_of_getElem? (i := 20) (by decide +kernel))) rfl
theorem w_981 : Cond.methodLink RX9 157 yX9_numbersOf ∈ lwG := lwG_of (lwT_5 (List.mem_of_getElem? (i := 21) (by decide +kernel))) rfl
theorem w_982 : Cond.static yX9_numbersOf ∈ lwG := lwG_of (lwT_5 (List.mem_of_getElem? (i := 22) (by decide +kernel))) rfl
theorem w_983 : Cond.code yX9_numbersOf cX9_numbersOf 1 (some .int) ∈ lwG := lwG_of (lwT_5 (List.mem_of_getElem? (i := 23) (by decide +kernel))) rfl
theorem w_984 : Cond.methodLink RX9 160 yX9_number ∈ lwG := lwG_of (lwT_5 (List.mem_of_getElem? (i := 24) (by decide +kernel))) rfl
theorem w_986 : Cond.instanceMethod yX9_number ∈ lwG := lwG_of (lwT_5 (List.mem_of_getElem? (i := 26) (by decide +kernel))) rfl
theorem w_987 : Cond.code yX9_number cX9_number 5 (some .boolean) ∈ lwG := lwG_of (lwT_5 (List.mem_of_getElem? (i := 27) (by decide +kernel))) rfl
theorem w_988 : Cond.methodLink RX9 130 yX9_isAt ∈ lwG := lwG_of (lwT_5 (List.mem_of_getElem? (i := 28) (by decide +kernel))) rfl
theorem w_990 : Cond.instanceMethod yX9_isAt ∈ lwG := lwG_of (lwT_5 (List.mem_of_getElem? (i := 30) (by decide +kernel))) rfl
theorem w_991 : Cond.code yX9_isAt cX9_isAt 3 (some .boolean) ∈ lwG := lwG_of (lwT_5 (List.mem_of_getElem? (i := 31) (by decide +kernel))) rfl
theorem w_992 : Cond.methodLink RX9 163 yX9_calls ∈ lwG := lwG_of (lwT_5 (List.mem_of_getElem? (i := 32) (by decide +kernel))) rfl
theorem w_994 : Cond.instanceMethod yX9_calls ∈ lwG := lwG_of (lwT_5 (List.mem_of_getElem? (i := 34) (by decide +kernel))) rfl
theorem w_995 : Cond.code yX9_calls cX9_calls 2 (some .int) ∈ lwG := lwG_of (lwT_5 (List.mem_of_getElem? (i := 35) (by decide +kernel))) rfl
theorem w_996 : Cond.methodLink RX9 133 yX9_begin ∈ lwG := lwG_of (lwT_5 (List.mem_of_getElem? (i := 36) (by decide +kernel))) rfl
theorem w_997 : Cond.methodLink RX9 136 yX9_move ∈ lwG := lwG_of (lwT_5 (List.mem_of_getElem? (i := 37) (by decide +kernel))) rfl
theorem w_998 : Cond.methodLink RX9 139 yX9_end ∈ lwG := lwG_of (lwT_5 (List.mem_of_getElem? (i := 38) (by decide +kernel))) rfl
theorem w_999 : Cond.methodLink RX9 142 yX9_discard ∈ lwG := lwG_of (lwT_5 (List.mem_of_getElem? (i := 39) (by decide +kernel))) rfl
theorem w_1000 : Cond.methodLink RX9 145 yX9_blend ∈ lwG := lwG_of (lwT_5 (List.mem_of_getElem? (i := 40) (by decide +kernel))) rfl
theorem w_1001 : Cond.methodLink RX9 148 yX9_pass ∈ lwG := lwG_of (lwT_5 (List.mem_of_getElem? (i := 41) (by decide +kernel))) rfl
theorem w_1002 : Cond.methodLink RL 121 yX9_play ∈ lwG := lwG_of (lwT_5 (List.mem_of_getElem? (i := 42) (by decide +kernel))) rfl
theorem w_1003 : Cond.instanceMethod yX9_play ∈ lwG := lwG_of (lwT_5 (List.mem_of_getElem? (i := 43) (by decide +kernel))) rfl
theorem w_1004 : Cond.selects RX9 yX9_play yX9_play ∈ lwG := lwG_of (lwT_5 (List.mem_of_getElem? (i := 44) (by decide +kernel))) rfl
theorem w_1005 : Cond.code yX9_play cX9_play 2 (some .int) ∈ lwG := lwG_of (lwT_5 (List.mem_of_getElem? (i := 45) (by decide +kernel))) rfl
theorem wp_0 : Cond.selects RX8 yX8_rehearse yX8_rehearse ∈ lwG := lwG_of (List.mem_append_left _ (List.mem_map.mpr ⟨(yX8_rehearse, 7), List.mem_of_getElem? (i := 0) (by decide +kernel), rfl⟩)) rfl
theorem wp_1 : Cond.selects RX8 yX8_perform yX8_perform ∈ lwG := lwG_of (List.mem_append_left _ (List.mem_map.mpr ⟨(yX8_perform, 7), List.mem_of_getElem? (i := 1) (by decide +kernel), rfl⟩)) rfl
theorem wp_2 : Cond.selects RX9 yX9_changes yX9_changes ∈ lwG := lwG_of (List.mem_append_left _ (List.mem_map.mpr ⟨(yX9_changes, 11), List.mem_of_getElem? (i := 2) (by decide +kernel), rfl⟩)) rfl
theorem wp_3 : Cond.selects RX9 yX9_isRecipe yX9_isRecipe ∈ lwG := lwG_of (List.mem_append_left _ (List.mem_map.mpr ⟨(yX9_isRecipe, 11), List.mem_of_getElem? (i := 3) (by decide +kernel), rfl⟩)) rfl
theorem wp_4 : Cond.selects RX9 yX9_isMade yX9_isMade ∈ lwG := lwG_of (List.mem_append_left _ (List.mem_map.mpr ⟨(yX9_isMade, 11), List.mem_of_getElem? (i := 4) (by decide +kernel), rfl⟩)) rfl
theorem wp_5 : Cond.selects RX9 yX9_isBatch yX9_isBatch ∈ lwG := lwG_of (List.mem_append_left _ (List.mem_map.mpr ⟨(yX9_isBatch, 11), List.mem_of_getElem? (i := 5) (by decide +kernel), rfl⟩)) rfl
theorem wp_6 : Cond.selects RX9 yX9_of yX9_of ∈ lwG := lwG_of (List.mem_append_left _ (List.mem_map.mpr ⟨(yX9_of, 11), List.mem_of_getElem? (i := 6) (by decide +kernel), rfl⟩)) rfl
theorem wp_7 : Cond.selects RX9 yX9_stages yX9_stages ∈ lwG := lwG_of (List.mem_append_left _ (List.mem_map.mpr ⟨(yX9_stages, 11), List.mem_of_getElem? (i := 7) (by decide +kernel), rfl⟩)) rfl
theorem wp_8 : Cond.selects RX9 yX9_putsVessel yX9_putsVessel ∈ lwG := lwG_of (List.mem_append_left _ (List.mem_map.mpr ⟨(yX9_putsVessel, 11), List.mem_of_getElem? (i := 8) (by decide +kernel), rfl⟩)) rfl
theorem wp_9 : Cond.selects RX9 yX9_product yX9_product ∈ lwG := lwG_of (List.mem_append_left _ (List.mem_map.mpr ⟨(yX9_product, 11), List.mem_of_getElem? (i := 9) (by decide +kernel), rfl⟩)) rfl
theorem wp_10 : Cond.selects RX9 yX9_ofStage yX9_ofStage ∈ lwG := lwG_of (List.mem_append_left _ (List.mem_map.mpr ⟨(yX9_ofStage, 11), List.mem_of_getElem? (i := 10) (by decide +kernel), rfl⟩)) rfl
theorem wp_11 : Cond.selects RX9 yX9_isVessel yX9_isVessel ∈ lwG := lwG_of (List.mem_append_left _ (List.mem_map.mpr ⟨(yX9_isVessel, 11), List.mem_of_getElem? (i := 11) (by decide +kernel), rfl⟩)) rfl
theorem wp_12 : Cond.selects RX9 yX9_takes yX9_takes ∈ lwG := lwG_of (List.mem_append_left _ (List.mem_map.mpr ⟨(yX9_takes, 11), List.mem_of_getElem? (i := 12) (by decide +kernel), rfl⟩)) rfl
theorem wp_13 : Cond.selects RX9 yX9_ofVessel yX9_ofVessel ∈ lwG := lwG_of (List.mem_append_left _ (List.mem_map.mpr ⟨(yX9_ofVessel, 11), List.mem_of_getElem? (i := 13) (by decide +kernel), rfl⟩)) rfl
theorem wp_14 : Cond.selects RX9 yX9_puts yX9_puts ∈ lwG := lwG_of (List.mem_append_left _ (List.mem_map.mpr ⟨(yX9_puts, 11), List.mem_of_getElem? (i := 14) (by decide +kernel), rfl⟩)) rfl
theorem wp_15 : Cond.selects RX9 yX9_comes yX9_comes ∈ lwG := lwG_of (List.mem_append_left _ (List.mem_map.mpr ⟨(yX9_comes, 11), List.mem_of_getElem? (i := 15) (by decide +kernel), rfl⟩)) rfl
theorem wp_16 : Cond.selects RX9 yX9_cleans yX9_cleans ∈ lwG := lwG_of (List.mem_append_left _ (List.mem_map.mpr ⟨(yX9_cleans, 11), List.mem_of_getElem? (i := 16) (by decide +kernel), rfl⟩)) rfl
theorem wp_17 : Cond.selects RX9 yX9_lineTo yX9_lineTo ∈ lwG := lwG_of (List.mem_append_left _ (List.mem_map.mpr ⟨(yX9_lineTo, 11), List.mem_of_getElem? (i := 17) (by decide +kernel), rfl⟩)) rfl
theorem wp_18 : Cond.selects RX9 yX9_isRipe yX9_isRipe ∈ lwG := lwG_of (List.mem_append_left _ (List.mem_map.mpr ⟨(yX9_isRipe, 11), List.mem_of_getElem? (i := 18) (by decide +kernel), rfl⟩)) rfl
theorem wp_19 : Cond.selects RX9 yX9_ripeAt yX9_ripeAt ∈ lwG := lwG_of (List.mem_append_left _ (List.mem_map.mpr ⟨(yX9_ripeAt, 11), List.mem_of_getElem? (i := 19) (by decide +kernel), rfl⟩)) rfl
theorem wp_20 : Cond.selects RX9 yX9_over yX9_over ∈ lwG := lwG_of (List.mem_append_left _ (List.mem_map.mpr ⟨(yX9_over, 11), List.mem_of_getElem? (i := 20) (by decide +kernel), rfl⟩)) rfl
theorem wp_21 : Cond.selects RX9 yX9_ofLine yX9_ofLine ∈ lwG := lwG_of (List.mem_append_left _ (List.mem_map.mpr ⟨(yX9_ofLine, 11), List.mem_of_getElem? (i := 21) (by decide +kernel), rfl⟩)) rfl
theorem wp_22 : Cond.selects RX9 yX9_minutesTo yX9_minutesTo ∈ lwG := lwG_of (List.mem_append_left _ (List.mem_map.mpr ⟨(yX9_minutesTo, 11), List.mem_of_getElem? (i := 22) (by decide +kernel), rfl⟩)) rfl
theorem wp_23 : Cond.selects RX9 yX9_goes yX9_goes ∈ lwG := lwG_of (List.mem_append_left _ (List.mem_map.mpr ⟨(yX9_goes, 11), List.mem_of_getElem? (i := 23) (by decide +kernel), rfl⟩)) rfl
theorem wp_24 : Cond.selects RX9 yX9_canBlend yX9_canBlend ∈ lwG := lwG_of (List.mem_append_left _ (List.mem_map.mpr ⟨(yX9_canBlend, 11), List.mem_of_getElem? (i := 24) (by decide +kernel), rfl⟩)) rfl
theorem wp_25 : Cond.selects RX9 yX9_goodTill yX9_goodTill ∈ lwG := lwG_of (List.mem_append_left _ (List.mem_map.mpr ⟨(yX9_goodTill, 11), List.mem_of_getElem? (i := 25) (by decide +kernel), rfl⟩)) rfl
theorem wp_26 : Cond.selects RX9 yX9_ofBatches yX9_ofBatches ∈ lwG := lwG_of (List.mem_append_left _ (List.mem_map.mpr ⟨(yX9_ofBatches, 11), List.mem_of_getElem? (i := 26) (by decide +kernel), rfl⟩)) rfl
theorem wp_27 : Cond.selects RX9 yX9_isRoom yX9_isRoom ∈ lwG := lwG_of (List.mem_append_left _ (List.mem_map.mpr ⟨(yX9_isRoom, 11), List.mem_of_getElem? (i := 27) (by decide +kernel), rfl⟩)) rfl
theorem wp_28 : Cond.selects RX9 yX9_plays yX9_plays ∈ lwG := lwG_of (List.mem_append_left _ (List.mem_map.mpr ⟨(yX9_plays, 11), List.mem_of_getElem? (i := 28) (by decide +kernel), rfl⟩)) rfl
theorem wp_29 : Cond.selects RX9 yX9_number yX9_number ∈ lwG := lwG_of (List.mem_append_left _ (List.mem_map.mpr ⟨(yX9_number, 11), List.mem_of_getElem? (i := 29) (by decide +kernel), rfl⟩)) rfl
theorem wp_30 : Cond.selects RX9 yX9_isAt yX9_isAt ∈ lwG := lwG_of (List.mem_append_left _ (List.mem_map.mpr ⟨(yX9_isAt, 11), List.mem_of_getElem? (i := 30) (by decide +kernel), rfl⟩)) rfl
theorem wp_31 : Cond.selects RX9 yX9_calls yX9_calls ∈ lwG := lwG_of (List.mem_append_left _ (List.mem_map.mpr ⟨(yX9_calls, 11), List.mem_of_getElem? (i := 31) (by decide +kernel), rfl⟩)) rfl
set_option maxRecDepth 20000 in
theorem inG0 : ∀ w ∈ u_ws RX0 TX0 13, w ∈ lwG := by decide +kernel
theorem okC0 : bc_C 0 RX0 TX0 13 tyX0 := ⟨rfl, inG0, rfl, by decide, tyX0_ok, nmX0, by decide +kernel⟩
set_option maxRecDepth 20000 in
theorem inG1 : ∀ w ∈ u_ws RX1 TX1 3, w ∈ lwG := by decide +kernel
theorem okC1 : bc_C 1 RX1 TX1 3 tyX1 := ⟨rfl, inG1, rfl, by decide, tyX1_ok, nmX1, by decide +kernel⟩
set_option maxRecDepth 20000 in
theorem inG2 : ∀ w ∈ u_ws RX2 TX2 4, w ∈ lwG := by decide +kernel
theorem okC2 : bc_C 2 RX2 TX2 4 tyX2 := ⟨rfl, inG2, rfl, by decide, tyX2_ok, nmX2, by decide +kernel⟩
set_option maxRecDepth 20000 in
theorem inG3 : ∀ w ∈ u_ws RX3 TX3 16, w ∈ lwG := by decide +kernel
theorem okC3 : bc_C 3 RX3 TX3 16 tyX3 := ⟨rfl, inG3, rfl, by decide, tyX3_ok, nmX3, by decide +kernel⟩
set_option maxRecDepth 20000 in
theorem inG4 : ∀ w ∈ u_ws RX4 TX4 3, w ∈ lwG := by decide +kernel
theorem okC4 : bc_C 4 RX4 TX4 3 tyX4 := ⟨rfl, inG4, rfl, by decide, tyX4_ok, nmX4, by decide +kernel⟩
set_option maxRecDepth 20000 in
theorem inG5 : ∀ w ∈ u_ws RX5 TX5 5, w ∈ lwG := by decide +kernel
theorem okC5 : bc_C 5 RX5 TX5 5 tyX5 := ⟨rfl, inG5, rfl, by decide, tyX5_ok, nmX5, by decide +kernel⟩
set_option maxRecDepth 20000 in
theorem inG6 : ∀ w ∈ u_ws RX6 TX6 4, w ∈ lwG := by decide +kernel
theorem okC6 : bc_C 6 RX6 TX6 4 tyX6 := ⟨rfl, inG6, rfl, by decide, tyX6_ok, nmX6, by decide +kernel⟩
set_option maxRecDepth 20000 in
theorem inG7 : ∀ w ∈ u_ws RX7 TX7 5, w ∈ lwG := by decide +kernel
theorem okC7 : bc_C 7 RX7 TX7 5 tyX7 := ⟨rfl, inG7, rfl, by decide, tyX7_ok, nmX7, by decide +kernel⟩
set_option maxRecDepth 20000 in
theorem inG8 : ∀ w ∈ u_ws RX8 TX8 7, w ∈ lwG := by decide +kernel
theorem okC8 : bc_C 8 RX8 TX8 7 tyX8 := ⟨rfl, inG8, rfl, by decide, tyX8_ok, nmX8, by decide +kernel⟩
set_option maxRecDepth 20000 in
theorem inG9 : ∀ w ∈ u_ws RX9 TX9 11, w ∈ lwG := by decide +kernel
theorem okC9 : bc_C 9 RX9 TX9 11 tyX9 := ⟨rfl, inG9, rfl, by decide, tyX9_ok, nmX9, by decide +kernel⟩
theorem f_X6_7 : bc_F RX6 7 6 0 (.int) false := ⟨RX6, TX6, 4, tyX6, okC6, by decide, w_48, rfl, rfl, rfl⟩
theorem f_X3_128 : bc_F RX3 128 6 0 (.int) false := ⟨RX6, TX6, 4, tyX6, okC6, by decide, w_49, rfl, rfl, rfl⟩
theorem f_X6_13 : bc_F RX6 13 6 1 (.int) false := ⟨RX6, TX6, 4, tyX6, okC6, by decide, w_50, rfl, rfl, rfl⟩
theorem f_X0_50 : bc_F RX0 50 6 1 (.int) false := ⟨RX6, TX6, 4, tyX6, okC6, by decide, w_51, rfl, rfl, rfl⟩
theorem f_X3_133 : bc_F RX3 133 6 1 (.int) false := ⟨RX6, TX6, 4, tyX6, okC6, by decide, w_52, rfl, rfl, rfl⟩
theorem f_X6_16 : bc_F RX6 16 6 2 (.int) false := ⟨RX6, TX6, 4, tyX6, okC6, by decide, w_53, rfl, rfl, rfl⟩
theorem f_X0_55 : bc_F RX0 55 6 2 (.int) false := ⟨RX6, TX6, 4, tyX6, okC6, by decide, w_54, rfl, rfl, rfl⟩
theorem f_X3_136 : bc_F RX3 136 6 2 (.int) false := ⟨RX6, TX6, 4, tyX6, okC6, by decide, w_55, rfl, rfl, rfl⟩
theorem f_X6_19 : bc_F RX6 19 6 3 (.int) false := ⟨RX6, TX6, 4, tyX6, okC6, by decide, w_56, rfl, rfl, rfl⟩
theorem f_X0_58 : bc_F RX0 58 6 3 (.int) false := ⟨RX6, TX6, 4, tyX6, okC6, by decide, w_57, rfl, rfl, rfl⟩
theorem f_X3_139 : bc_F RX3 139 6 3 (.int) false := ⟨RX6, TX6, 4, tyX6, okC6, by decide, w_58, rfl, rfl, rfl⟩
theorem f_X4_18 : bc_F RX4 18 4 0 (.int) false := ⟨RX4, TX4, 3, tyX4, okC4, by decide, w_69, rfl, rfl, rfl⟩
theorem f_X8_73 : bc_F RX8 73 4 0 (.int) false := ⟨RX4, TX4, 3, tyX4, okC4, by decide, w_70, rfl, rfl, rfl⟩
theorem f_X3_114 : bc_F RX3 114 4 0 (.int) false := ⟨RX4, TX4, 3, tyX4, okC4, by decide, w_71, rfl, rfl, rfl⟩
theorem f_X4_22 : bc_F RX4 22 4 1 (.int) false := ⟨RX4, TX4, 3, tyX4, okC4, by decide, w_72, rfl, rfl, rfl⟩
theorem f_X3_117 : bc_F RX3 117 4 1 (.int) false := ⟨RX4, TX4, 3, tyX4, okC4, by decide, w_73, rfl, rfl, rfl⟩
theorem f_X4_11 : bc_F RX4 11 4 2 (.array (.object "BatchCellars$Stage")) true := ⟨RX4, TX4, 3, tyX4, okC4, by decide, w_74, rfl, rfl, rfl⟩
theorem f_X7_18 : bc_F RX7 18 7 0 (.int) false := ⟨RX7, TX7, 5, tyX7, okC7, by decide, w_87, rfl, rfl, rfl⟩
theorem f_X3_149 : bc_F RX3 149 7 0 (.int) false := ⟨RX7, TX7, 5, tyX7, okC7, by decide, w_88, rfl, rfl, rfl⟩
theorem f_X7_21 : bc_F RX7 21 7 1 (.int) false := ⟨RX7, TX7, 5, tyX7, okC7, by decide, w_89, rfl, rfl, rfl⟩
theorem f_X3_150 : bc_F RX3 150 7 1 (.int) false := ⟨RX7, TX7, 5, tyX7, okC7, by decide, w_90, rfl, rfl, rfl⟩
theorem f_X7_9 : bc_F RX7 9 7 2 (.int) false := ⟨RX7, TX7, 5, tyX7, okC7, by decide, w_91, rfl, rfl, rfl⟩
theorem f_X3_199 : bc_F RX3 199 7 2 (.int) false := ⟨RX7, TX7, 5, tyX7, okC7, by decide, w_92, rfl, rfl, rfl⟩
theorem f_X7_15 : bc_F RX7 15 7 3 (.int) false := ⟨RX7, TX7, 5, tyX7, okC7, by decide, w_93, rfl, rfl, rfl⟩
theorem f_X3_202 : bc_F RX3 202 7 3 (.int) false := ⟨RX7, TX7, 5, tyX7, okC7, by decide, w_94, rfl, rfl, rfl⟩
theorem f_X7_24 : bc_F RX7 24 7 4 (.int) false := ⟨RX7, TX7, 5, tyX7, okC7, by decide, w_95, rfl, rfl, rfl⟩
theorem f_X3_196 : bc_F RX3 196 7 4 (.int) false := ⟨RX7, TX7, 5, tyX7, okC7, by decide, w_96, rfl, rfl, rfl⟩
theorem f_X2_7 : bc_F RX2 7 2 0 (.int) false := ⟨RX2, TX2, 4, tyX2, okC2, by decide, w_113, rfl, rfl, rfl⟩
theorem f_X3_163 : bc_F RX3 163 2 0 (.int) false := ⟨RX2, TX2, 4, tyX2, okC2, by decide, w_114, rfl, rfl, rfl⟩
theorem f_X2_13 : bc_F RX2 13 2 1 (.int) false := ⟨RX2, TX2, 4, tyX2, okC2, by decide, w_115, rfl, rfl, rfl⟩
theorem f_X3_165 : bc_F RX3 165 2 1 (.int) false := ⟨RX2, TX2, 4, tyX2, okC2, by decide, w_116, rfl, rfl, rfl⟩
theorem f_X2_16 : bc_F RX2 16 2 2 (.int) false := ⟨RX2, TX2, 4, tyX2, okC2, by decide, w_117, rfl, rfl, rfl⟩
theorem f_X3_227 : bc_F RX3 227 2 2 (.int) false := ⟨RX2, TX2, 4, tyX2, okC2, by decide, w_118, rfl, rfl, rfl⟩
theorem f_X2_19 : bc_F RX2 19 2 3 (.int) false := ⟨RX2, TX2, 4, tyX2, okC2, by decide, w_119, rfl, rfl, rfl⟩
theorem f_X3_230 : bc_F RX3 230 2 3 (.int) false := ⟨RX2, TX2, 4, tyX2, okC2, by decide, w_120, rfl, rfl, rfl⟩
theorem f_X0_7 : bc_F RX0 7 0 0 (.boolean) false := ⟨RX0, TX0, 13, tyX0, okC0, by decide, w_135, rfl, rfl, rfl⟩
theorem f_X3_102 : bc_F RX3 102 0 0 (.boolean) false := ⟨RX0, TX0, 13, tyX0, okC0, by decide, w_136, rfl, rfl, rfl⟩
theorem f_X0_13 : bc_F RX0 13 0 1 (.int) false := ⟨RX0, TX0, 13, tyX0, okC0, by decide, w_137, rfl, rfl, rfl⟩
theorem f_X3_142 : bc_F RX3 142 0 1 (.int) false := ⟨RX0, TX0, 13, tyX0, okC0, by decide, w_138, rfl, rfl, rfl⟩
theorem f_X0_17 : bc_F RX0 17 0 2 (.int) false := ⟨RX0, TX0, 13, tyX0, okC0, by decide, w_139, rfl, rfl, rfl⟩
theorem f_X3_220 : bc_F RX3 220 0 2 (.int) false := ⟨RX0, TX0, 13, tyX0, okC0, by decide, w_140, rfl, rfl, rfl⟩
theorem f_X0_20 : bc_F RX0 20 0 3 (.int) false := ⟨RX0, TX0, 13, tyX0, okC0, by decide, w_141, rfl, rfl, rfl⟩
theorem f_X3_261 : bc_F RX3 261 0 3 (.int) false := ⟨RX0, TX0, 13, tyX0, okC0, by decide, w_142, rfl, rfl, rfl⟩
theorem f_X0_23 : bc_F RX0 23 0 4 (.int) false := ⟨RX0, TX0, 13, tyX0, okC0, by decide, w_143, rfl, rfl, rfl⟩
theorem f_X3_221 : bc_F RX3 221 0 4 (.int) false := ⟨RX0, TX0, 13, tyX0, okC0, by decide, w_144, rfl, rfl, rfl⟩
theorem f_X0_26 : bc_F RX0 26 0 5 (.int) false := ⟨RX0, TX0, 13, tyX0, okC0, by decide, w_145, rfl, rfl, rfl⟩
theorem f_X3_264 : bc_F RX3 264 0 5 (.int) false := ⟨RX0, TX0, 13, tyX0, okC0, by decide, w_146, rfl, rfl, rfl⟩
theorem f_X0_29 : bc_F RX0 29 0 6 (.boolean) false := ⟨RX0, TX0, 13, tyX0, okC0, by decide, w_147, rfl, rfl, rfl⟩
theorem f_X3_251 : bc_F RX3 251 0 6 (.boolean) false := ⟨RX0, TX0, 13, tyX0, okC0, by decide, w_148, rfl, rfl, rfl⟩
theorem f_X0_32 : bc_F RX0 32 0 7 (.int) false := ⟨RX0, TX0, 13, tyX0, okC0, by decide, w_149, rfl, rfl, rfl⟩
theorem f_X3_236 : bc_F RX3 236 0 7 (.int) false := ⟨RX0, TX0, 13, tyX0, okC0, by decide, w_150, rfl, rfl, rfl⟩
theorem f_X0_35 : bc_F RX0 35 0 8 (.int) false := ⟨RX0, TX0, 13, tyX0, okC0, by decide, w_151, rfl, rfl, rfl⟩
theorem f_X3_245 : bc_F RX3 245 0 8 (.int) false := ⟨RX0, TX0, 13, tyX0, okC0, by decide, w_152, rfl, rfl, rfl⟩
theorem f_X0_38 : bc_F RX0 38 0 9 (.int) false := ⟨RX0, TX0, 13, tyX0, okC0, by decide, w_153, rfl, rfl, rfl⟩
theorem f_X0_41 : bc_F RX0 41 0 10 (.int) false := ⟨RX0, TX0, 13, tyX0, okC0, by decide, w_154, rfl, rfl, rfl⟩
theorem f_X0_44 : bc_F RX0 44 0 11 (.int) false := ⟨RX0, TX0, 13, tyX0, okC0, by decide, w_155, rfl, rfl, rfl⟩
theorem f_X3_279 : bc_F RX3 279 0 11 (.int) false := ⟨RX0, TX0, 13, tyX0, okC0, by decide, w_156, rfl, rfl, rfl⟩
theorem f_X0_47 : bc_F RX0 47 0 12 (.int) false := ⟨RX0, TX0, 13, tyX0, okC0, by decide, w_157, rfl, rfl, rfl⟩
theorem f_X3_267 : bc_F RX3 267 0 12 (.int) false := ⟨RX0, TX0, 13, tyX0, okC0, by decide, w_158, rfl, rfl, rfl⟩
theorem f_X3_11 : bc_F RX3 11 3 0 (.array (.object "BatchCellars$Recipe")) true := ⟨RX3, TX3, 16, tyX3, okC3, by decide, w_189, rfl, rfl, rfl⟩
theorem f_X3_61 : bc_F RX3 61 3 1 (.int) false := ⟨RX3, TX3, 16, tyX3, okC3, by decide, w_190, rfl, rfl, rfl⟩
theorem f_X3_19 : bc_F RX3 19 3 2 (.array (.object "BatchCellars$Vessel")) true := ⟨RX3, TX3, 16, tyX3, okC3, by decide, w_191, rfl, rfl, rfl⟩
theorem f_X3_65 : bc_F RX3 65 3 3 (.int) false := ⟨RX3, TX3, 16, tyX3, okC3, by decide, w_192, rfl, rfl, rfl⟩
theorem f_X3_25 : bc_F RX3 25 3 4 (.array (.object "BatchCellars$Line")) true := ⟨RX3, TX3, 16, tyX3, okC3, by decide, w_193, rfl, rfl, rfl⟩
theorem f_X3_68 : bc_F RX3 68 3 5 (.int) false := ⟨RX3, TX3, 16, tyX3, okC3, by decide, w_194, rfl, rfl, rfl⟩
theorem f_X3_31 : bc_F RX3 31 3 6 (.array (.object "BatchCellars$Batch")) true := ⟨RX3, TX3, 16, tyX3, okC3, by decide, w_195, rfl, rfl, rfl⟩
theorem f_X3_35 : bc_F RX3 35 3 7 (.array .int) true := ⟨RX3, TX3, 16, tyX3, okC3, by decide, w_196, rfl, rfl, rfl⟩
theorem f_X3_39 : bc_F RX3 39 3 8 (.array .int) true := ⟨RX3, TX3, 16, tyX3, okC3, by decide, w_197, rfl, rfl, rfl⟩
theorem f_X8_134 : bc_F RX8 134 3 8 (.array .int) true := ⟨RX3, TX3, 16, tyX3, okC3, by decide, w_198, rfl, rfl, rfl⟩
theorem f_X3_42 : bc_F RX3 42 3 9 (.array .int) true := ⟨RX3, TX3, 16, tyX3, okC3, by decide, w_199, rfl, rfl, rfl⟩
theorem f_X8_142 : bc_F RX8 142 3 9 (.array .int) true := ⟨RX3, TX3, 16, tyX3, okC3, by decide, w_200, rfl, rfl, rfl⟩
theorem f_X3_71 : bc_F RX3 71 3 10 (.int) false := ⟨RX3, TX3, 16, tyX3, okC3, by decide, w_201, rfl, rfl, rfl⟩
theorem f_X8_107 : bc_F RX8 107 3 10 (.int) false := ⟨RX3, TX3, 16, tyX3, okC3, by decide, w_202, rfl, rfl, rfl⟩
theorem f_X3_74 : bc_F RX3 74 3 11 (.int) false := ⟨RX3, TX3, 16, tyX3, okC3, by decide, w_203, rfl, rfl, rfl⟩
theorem f_X3_77 : bc_F RX3 77 3 12 (.int) false := ⟨RX3, TX3, 16, tyX3, okC3, by decide, w_204, rfl, rfl, rfl⟩
theorem f_X3_80 : bc_F RX3 80 3 13 (.int) false := ⟨RX3, TX3, 16, tyX3, okC3, by decide, w_205, rfl, rfl, rfl⟩
theorem f_X3_83 : bc_F RX3 83 3 14 (.int) false := ⟨RX3, TX3, 16, tyX3, okC3, by decide, w_206, rfl, rfl, rfl⟩
theorem f_X3_86 : bc_F RX3 86 3 15 (.int) false := ⟨RX3, TX3, 16, tyX3, okC3, by decide, w_207, rfl, rfl, rfl⟩
theorem f_X1_11 : bc_F RX1 11 1 0 (.array (.object "BatchCellars$Plant")) true := ⟨RX1, TX1, 3, tyX1, okC1, by decide, w_250, rfl, rfl, rfl⟩
theorem f_X1_18 : bc_F RX1 18 1 1 (.int) false := ⟨RX1, TX1, 3, tyX1, okC1, by decide, w_251, rfl, rfl, rfl⟩
theorem f_X1_26 : bc_F RX1 26 1 2 (.int) false := ⟨RX1, TX1, 3, tyX1, okC1, by decide, w_252, rfl, rfl, rfl⟩
theorem f_X8_128 : bc_F RX8 128 1 2 (.int) false := ⟨RX1, TX1, 3, tyX1, okC1, by decide, w_253, rfl, rfl, rfl⟩
theorem f_X5_9 : bc_F RX5 9 5 0 (.array .char) true := ⟨RX5, TX5, 5, tyX5, okC5, by decide, w_267, rfl, rfl, rfl⟩
theorem f_X5_23 : bc_F RX5 23 5 1 (.int) false := ⟨RX5, TX5, 5, tyX5, okC5, by decide, w_268, rfl, rfl, rfl⟩
theorem f_X8_131 : bc_F RX8 131 5 1 (.int) false := ⟨RX5, TX5, 5, tyX5, okC5, by decide, w_269, rfl, rfl, rfl⟩
theorem f_X5_31 : bc_F RX5 31 5 2 (.char) false := ⟨RX5, TX5, 5, tyX5, okC5, by decide, w_270, rfl, rfl, rfl⟩
theorem f_X8_204 : bc_F RX8 204 5 2 (.char) false := ⟨RX5, TX5, 5, tyX5, okC5, by decide, w_271, rfl, rfl, rfl⟩
theorem f_X5_15 : bc_F RX5 15 5 3 (.array .int) true := ⟨RX5, TX5, 5, tyX5, okC5, by decide, w_272, rfl, rfl, rfl⟩
theorem f_X8_201 : bc_F RX8 201 5 3 (.array .int) true := ⟨RX5, TX5, 5, tyX5, okC5, by decide, w_273, rfl, rfl, rfl⟩
theorem f_X5_39 : bc_F RX5 39 5 4 (.int) false := ⟨RX5, TX5, 5, tyX5, okC5, by decide, w_274, rfl, rfl, rfl⟩
theorem f_X8_198 : bc_F RX8 198 5 4 (.int) false := ⟨RX5, TX5, 5, tyX5, okC5, by decide, w_275, rfl, rfl, rfl⟩
theorem f_X8_10 : bc_F RX8 10 8 0 (.object "BatchCellars$Plant") true := ⟨RX8, TX8, 7, tyX8, okC8, by decide, w_288, rfl, rfl, rfl⟩
theorem f_X8_16 : bc_F RX8 16 8 1 (.object "BatchCellars$Plant") true := ⟨RX8, TX8, 7, tyX8, okC8, by decide, w_289, rfl, rfl, rfl⟩
theorem f_X8_22 : bc_F RX8 22 8 2 (.object "BatchCellars$History") true := ⟨RX8, TX8, 7, tyX8, okC8, by decide, w_290, rfl, rfl, rfl⟩
theorem f_X8_29 : bc_F RX8 29 8 3 (.object "BatchCellars$Script") true := ⟨RX8, TX8, 7, tyX8, okC8, by decide, w_291, rfl, rfl, rfl⟩
theorem f_X8_175 : bc_F RX8 175 8 4 (.int) false := ⟨RX8, TX8, 7, tyX8, okC8, by decide, w_292, rfl, rfl, rfl⟩
theorem f_X8_178 : bc_F RX8 178 8 5 (.int) false := ⟨RX8, TX8, 7, tyX8, okC8, by decide, w_293, rfl, rfl, rfl⟩
theorem f_X8_184 : bc_F RX8 184 8 6 (.int) false := ⟨RX8, TX8, 7, tyX8, okC8, by decide, w_294, rfl, rfl, rfl⟩
theorem f_X9_7 : bc_F RX9 7 9 0 (.array .int) true := ⟨RX9, TX9, 11, tyX9, okC9, by decide, w_730, rfl, rfl, rfl⟩
theorem f_X9_13 : bc_F RX9 13 9 1 (.array .int) true := ⟨RX9, TX9, 11, tyX9, okC9, by decide, w_731, rfl, rfl, rfl⟩
theorem f_X9_16 : bc_F RX9 16 9 2 (.array .int) true := ⟨RX9, TX9, 11, tyX9, okC9, by decide, w_732, rfl, rfl, rfl⟩
theorem f_X9_29 : bc_F RX9 29 9 3 (.int) false := ⟨RX9, TX9, 11, tyX9, okC9, by decide, w_733, rfl, rfl, rfl⟩
theorem f_X9_25 : bc_F RX9 25 9 4 (.boolean) false := ⟨RX9, TX9, 11, tyX9, okC9, by decide, w_734, rfl, rfl, rfl⟩
theorem f_X9_19 : bc_F RX9 19 9 5 (.array .int) true := ⟨RX9, TX9, 11, tyX9, okC9, by decide, w_735, rfl, rfl, rfl⟩
theorem f_X9_121 : bc_F RX9 121 9 6 (.int) false := ⟨RX9, TX9, 11, tyX9, okC9, by decide, w_736, rfl, rfl, rfl⟩
theorem f_X9_127 : bc_F RX9 127 9 7 (.int) false := ⟨RX9, TX9, 11, tyX9, okC9, by decide, w_737, rfl, rfl, rfl⟩
theorem f_X9_154 : bc_F RX9 154 9 8 (.int) false := ⟨RX9, TX9, 11, tyX9, okC9, by decide, w_738, rfl, rfl, rfl⟩
theorem f_X9_151 : bc_F RX9 151 9 9 (.int) false := ⟨RX9, TX9, 11, tyX9, okC9, by decide, w_739, rfl, rfl, rfl⟩
theorem f_X9_22 : bc_F RX9 22 9 10 (.array .int) true := ⟨RX9, TX9, 11, tyX9, okC9, by decide, w_740, rfl, rfl, rfl⟩
theorem x_X4_17 : (RX4, 17, yX6_init) ∈ bc_nx := by decide +kernel
theorem x_X3_46 : (RX3, 46, yX7_init) ∈ bc_nx := by decide +kernel
theorem x_X3_47 : (RX3, 47, yX2_init) ∈ bc_nx := by decide +kernel
theorem x_X3_48 : (RX3, 48, yX0_init) ∈ bc_nx := by decide +kernel
theorem x_X3_49 : (RX3, 49, yX8_putEntry) ∈ bc_nx := by decide +kernel
theorem x_X8_28 : (RX8, 28, yX5_init) ∈ bc_nx := by decide +kernel
theorem x_X3_57 : (RX3, 57, yX8_copyEntries) ∈ bc_nx := by decide +kernel
theorem x_X3_106 : (RX3, 106, yX8_isWithin) ∈ bc_nx := by decide +kernel
theorem x_X3_168 : (RX3, 168, yX8_entryAt) ∈ bc_nx := by decide +kernel
theorem x_X5_19 : (RX5, 19, yX8_isWithin) ∈ bc_nx := by decide +kernel
theorem x_X5_46 : (RX5, 46, yX8_putEntry) ∈ bc_nx := by decide +kernel
abbrev mX8_init : BcM := (yX8_init, cX8_init, 1, none, 5, 103, 334, 1979)
theorem okX8_init : OkI mX8_init 0 := ⟨⟨w_18, w_1, by decide, by decide, by decide +kernel⟩, w_17, rfl, rfl⟩
abbrev mX3_init : BcM := (yX3_init, cX3_init, 2, none, 3, 61, 46, 253)
theorem okX3_init : OkI mX3_init 0 := ⟨⟨w_26, w_2, by decide, by decide, by decide +kernel⟩, w_25, rfl, rfl⟩
abbrev mX4_init : BcM := (yX4_init, cX4_init, 2, none, 2, 40, 5, 20)
theorem okX4_init : OkI mX4_init 0 := ⟨⟨w_39, w_3, by decide, by decide, by decide +kernel⟩, w_38, rfl, rfl⟩
abbrev mX6_init : BcM := (yX6_init, cX6_init, 1, none, 1, 20, 0, 0)
theorem okX6_init : OkI mX6_init 0 := ⟨⟨w_46, w_4, by decide, by decide, by decide +kernel⟩, w_45, rfl, rfl⟩
abbrev mX7_init : BcM := (yX7_init, cX7_init, 1, none, 1, 20, 0, 0)
theorem okX7_init : OkI mX7_init 0 := ⟨⟨w_85, w_5, by decide, by decide, by decide +kernel⟩, w_84, rfl, rfl⟩
abbrev mX2_init : BcM := (yX2_init, cX2_init, 1, none, 1, 20, 0, 0)
theorem okX2_init : OkI mX2_init 0 := ⟨⟨w_111, w_6, by decide, by decide, by decide +kernel⟩, w_110, rfl, rfl⟩
abbrev mX0_init : BcM := (yX0_init, cX0_init, 1, none, 1, 20, 0, 0)
theorem okX0_init : OkI mX0_init 0 := ⟨⟨w_133, w_7, by decide, by decide, by decide +kernel⟩, w_132, rfl, rfl⟩
abbrev mX8_putEntry : BcM := (yX8_putEntry, cX8_putEntry, 3, none, 0, 0, 0, 0)
theorem okX8_putEntry : OkS mX8_putEntry 3 := ⟨⟨w_188, w_1, by decide, by decide, by decide +kernel⟩, w_187⟩
abbrev mX1_init : BcM := (yX1_init, cX1_init, 2, none, 4, 82, 236, 1350)
theorem okX1_init : OkI mX1_init 0 := ⟨⟨w_245, w_8, by decide, by decide, by decide +kernel⟩, w_244, rfl, rfl⟩
abbrev mX5_init : BcM := (yX5_init, cX5_init, 1, none, 1, 20, 2, 83)
theorem okX5_init : OkI mX5_init 0 := ⟨⟨w_265, w_9, by decide, by decide, by decide +kernel⟩, w_264, rfl, rfl⟩
abbrev mX8_recipe : BcM := (yX8_recipe, cX8_recipe, 2, some .int, 5, 111, 0, 0)
theorem okX8_recipe : OkV mX8_recipe 1 := ⟨⟨w_313, w_1, by decide, by decide, by decide +kernel⟩, w_311, w_312⟩
abbrev mX1_prepare : BcM := (yX1_prepare, cX1_prepare, 2, none, 4, 90, 0, 0)
theorem okX1_prepare : OkV mX1_prepare 1 := ⟨⟨w_317, w_8, by decide, by decide, by decide +kernel⟩, w_315, w_316⟩
abbrev mX3_copyFrom : BcM := (yX3_copyFrom, cX3_copyFrom, 2, none, 3, 69, 0, 0)
theorem okX3_copyFrom : OkV mX3_copyFrom 1 := ⟨⟨w_321, w_2, by decide, by decide, by decide +kernel⟩, w_319, w_320⟩
abbrev mX3_copyParts : BcM := (yX3_copyParts, cX3_copyParts, 3, none, 2, 43, 0, 0)
theorem okX3_copyParts : OkV mX3_copyParts 1 := ⟨⟨w_325, w_2, by decide, by decide, by decide +kernel⟩, w_323, w_324⟩
abbrev mX4_copyFrom : BcM := (yX4_copyFrom, cX4_copyFrom, 3, none, 1, 21, 0, 0)
theorem okX4_copyFrom : OkV mX4_copyFrom 1 := ⟨⟨w_329, w_3, by decide, by decide, by decide +kernel⟩, w_327, w_328⟩
abbrev mX6_copyFrom : BcM := (yX6_copyFrom, cX6_copyFrom, 2, none, 0, 0, 0, 0)
theorem okX6_copyFrom : OkV mX6_copyFrom 1 := ⟨⟨w_333, w_4, by decide, by decide, by decide +kernel⟩, w_331, w_332⟩
abbrev mX7_copyFrom : BcM := (yX7_copyFrom, cX7_copyFrom, 2, none, 0, 0, 0, 0)
theorem okX7_copyFrom : OkV mX7_copyFrom 1 := ⟨⟨w_337, w_5, by decide, by decide, by decide +kernel⟩, w_335, w_336⟩
abbrev mX2_copyFrom : BcM := (yX2_copyFrom, cX2_copyFrom, 2, none, 0, 0, 0, 0)
theorem okX2_copyFrom : OkV mX2_copyFrom 1 := ⟨⟨w_341, w_6, by decide, by decide, by decide +kernel⟩, w_339, w_340⟩
abbrev mX0_copyFrom : BcM := (yX0_copyFrom, cX0_copyFrom, 2, none, 0, 0, 0, 0)
theorem okX0_copyFrom : OkV mX0_copyFrom 1 := ⟨⟨w_345, w_7, by decide, by decide, by decide +kernel⟩, w_343, w_344⟩
abbrev mX8_copyEntries : BcM := (yX8_copyEntries, cX8_copyEntries, 2, none, 1, 48, 0, 0)
theorem okX8_copyEntries : OkS mX8_copyEntries 2 := ⟨⟨w_348, w_1, by decide, by decide, by decide +kernel⟩, w_347⟩
abbrev mJ9_min_7cf53 : BcM := (yJ9_min_7cf53, cJ9_min_7cf53, 2, some .int, 0, 0, 0, 0)
abbrev mX3_addRecipe : BcM := (yX3_addRecipe, cX3_addRecipe, 3, some .int, 1, 22, 0, 0)
theorem okX3_addRecipe : OkV mX3_addRecipe 1 := ⟨⟨w_358, w_2, by decide, by decide, by decide +kernel⟩, w_356, w_357⟩
abbrev mX8_isWithin : BcM := (yX8_isWithin, cX8_isWithin, 3, some .boolean, 0, 0, 0, 0)
theorem okX8_isWithin : OkS mX8_isWithin 3 := ⟨⟨w_361, w_1, by decide, by decide, by decide +kernel⟩, w_360⟩
abbrev mX3_recipeAt : BcM := (yX3_recipeAt, cX3_recipeAt, 3, some (.object "BatchCellars$Recipe"), 0, 0, 0, 0)
theorem okX3_recipeAt : OkV mX3_recipeAt 1 := ⟨⟨w_365, w_2, by decide, by decide, by decide +kernel⟩, w_363, w_364⟩
abbrev mX1_settle : BcM := (yX1_settle, cX1_settle, 2, some .int, 1, 21, 0, 0)
theorem okX1_settle : OkV mX1_settle 1 := ⟨⟨w_369, w_8, by decide, by decide, by decide +kernel⟩, w_367, w_368⟩
abbrev mX8_stage : BcM := (yX8_stage, cX8_stage, 6, some .int, 5, 111, 0, 0)
theorem okX8_stage : OkV mX8_stage 5 := ⟨⟨w_374, w_1, by decide, by decide, by decide +kernel⟩, w_372, w_373⟩
abbrev mX3_addStage : BcM := (yX3_addStage, cX3_addStage, 8, some .int, 1, 22, 0, 0)
theorem okX3_addStage : OkV mX3_addStage 5 := ⟨⟨w_378, w_2, by decide, by decide, by decide +kernel⟩, w_376, w_377⟩
abbrev mX3_hasBatchOf : BcM := (yX3_hasBatchOf, cX3_hasBatchOf, 3, some .boolean, 0, 0, 0, 0)
theorem okX3_hasBatchOf : OkV mX3_hasBatchOf 1 := ⟨⟨w_382, w_2, by decide, by decide, by decide +kernel⟩, w_380, w_381⟩
abbrev mX4_stageAt : BcM := (yX4_stageAt, cX4_stageAt, 3, some (.object "BatchCellars$Stage"), 0, 0, 0, 0)
theorem okX4_stageAt : OkV mX4_stageAt 1 := ⟨⟨w_386, w_3, by decide, by decide, by decide +kernel⟩, w_384, w_385⟩
abbrev mX8_vessel : BcM := (yX8_vessel, cX8_vessel, 3, some .int, 5, 111, 0, 0)
theorem okX8_vessel : OkV mX8_vessel 2 := ⟨⟨w_390, w_1, by decide, by decide, by decide +kernel⟩, w_388, w_389⟩
abbrev mX3_addVessel : BcM := (yX3_addVessel, cX3_addVessel, 4, some .int, 1, 22, 0, 0)
theorem okX3_addVessel : OkV mX3_addVessel 2 := ⟨⟨w_394, w_2, by decide, by decide, by decide +kernel⟩, w_392, w_393⟩
abbrev mX3_vesselAt : BcM := (yX3_vesselAt, cX3_vesselAt, 3, some (.object "BatchCellars$Vessel"), 0, 0, 0, 0)
theorem okX3_vesselAt : OkV mX3_vesselAt 1 := ⟨⟨w_398, w_2, by decide, by decide, by decide +kernel⟩, w_396, w_397⟩
abbrev mX8_line : BcM := (yX8_line, cX8_line, 3, some .int, 5, 111, 0, 0)
theorem okX8_line : OkV mX8_line 2 := ⟨⟨w_402, w_1, by decide, by decide, by decide +kernel⟩, w_400, w_401⟩
abbrev mX3_addLine : BcM := (yX3_addLine, cX3_addLine, 5, some .int, 1, 22, 0, 0)
theorem okX3_addLine : OkV mX3_addLine 2 := ⟨⟨w_406, w_2, by decide, by decide, by decide +kernel⟩, w_404, w_405⟩
abbrev mJ6_bitCount_0f7a4 : BcM := (yJ6_bitCount_0f7a4, cJ6_bitCount_0f7a4, 1, some .int, 0, 0, 0, 0)
theorem okJ6_bitCount_0f7a4 : OkS mJ6_bitCount_0f7a4 1 := ⟨⟨w_409, w_13, by decide, by decide, by decide +kernel⟩, w_408⟩
abbrev mX3_lineAt : BcM := (yX3_lineAt, cX3_lineAt, 3, some (.object "BatchCellars$Line"), 0, 0, 0, 0)
theorem okX3_lineAt : OkV mX3_lineAt 1 := ⟨⟨w_416, w_2, by decide, by decide, by decide +kernel⟩, w_414, w_415⟩
abbrev mX8_cleaning : BcM := (yX8_cleaning, cX8_cleaning, 4, some .int, 5, 111, 0, 0)
theorem okX8_cleaning : OkV mX8_cleaning 3 := ⟨⟨w_420, w_1, by decide, by decide, by decide +kernel⟩, w_418, w_419⟩
abbrev mX3_changeCleaning : BcM := (yX3_changeCleaning, cX3_changeCleaning, 5, some .int, 1, 22, 0, 0)
theorem okX3_changeCleaning : OkV mX3_changeCleaning 3 := ⟨⟨w_424, w_2, by decide, by decide, by decide +kernel⟩, w_422, w_423⟩
abbrev mX8_entryAt : BcM := (yX8_entryAt, cX8_entryAt, 2, some .int, 0, 0, 0, 0)
theorem okX8_entryAt : OkS mX8_entryAt 2 := ⟨⟨w_427, w_1, by decide, by decide, by decide +kernel⟩, w_426⟩
abbrev mX8_stageOf : BcM := (yX8_stageOf, cX8_stageOf, 6, some .int, 1, 22, 0, 0)
theorem okX8_stageOf : OkV mX8_stageOf 3 := ⟨⟨w_431, w_1, by decide, by decide, by decide +kernel⟩, w_429, w_430⟩
abbrev mX6_detail : BcM := (yX6_detail, cX6_detail, 2, some .int, 0, 0, 0, 0)
theorem okX6_detail : OkV mX6_detail 1 := ⟨⟨w_438, w_4, by decide, by decide, by decide +kernel⟩, w_436, w_437⟩
abbrev mX8_begin : BcM := (yX8_begin, cX8_begin, 4, some .int, 5, 111, 0, 0)
theorem okX8_begin : OkV mX8_begin 3 := ⟨⟨w_442, w_1, by decide, by decide, by decide +kernel⟩, w_440, w_441⟩
abbrev mX3_beginBatch : BcM := (yX3_beginBatch, cX3_beginBatch, 9, some .int, 3, 67, 0, 0)
theorem okX3_beginBatch : OkV mX3_beginBatch 3 := ⟨⟨w_446, w_2, by decide, by decide, by decide +kernel⟩, w_444, w_445⟩
abbrev mX3_lowestFreeNumber : BcM := (yX3_lowestFreeNumber, cX3_lowestFreeNumber, 2, some .int, 0, 0, 0, 0)
theorem okX3_lowestFreeNumber : OkV mX3_lowestFreeNumber 0 := ⟨⟨w_450, w_2, by decide, by decide, by decide +kernel⟩, w_448, w_449⟩
abbrev mX7_canTake : BcM := (yX7_canTake, cX7_canTake, 3, some .boolean, 1, 22, 0, 0)
theorem okX7_canTake : OkV mX7_canTake 2 := ⟨⟨w_454, w_5, by decide, by decide, by decide +kernel⟩, w_452, w_453⟩
abbrev mX7_suits : BcM := (yX7_suits, cX7_suits, 3, some .boolean, 0, 0, 0, 0)
theorem okX7_suits : OkV mX7_suits 2 := ⟨⟨w_458, w_5, by decide, by decide, by decide +kernel⟩, w_456, w_457⟩
abbrev mX3_occupy : BcM := (yX3_occupy, cX3_occupy, 5, some .int, 2, 43, 0, 0)
theorem okX3_occupy : OkV mX3_occupy 3 := ⟨⟨w_462, w_2, by decide, by decide, by decide +kernel⟩, w_460, w_461⟩
abbrev mX3_cleaningMinutes : BcM := (yX3_cleaningMinutes, cX3_cleaningMinutes, 3, some .int, 1, 21, 0, 0)
theorem okX3_cleaningMinutes : OkV mX3_cleaningMinutes 2 := ⟨⟨w_466, w_2, by decide, by decide, by decide +kernel⟩, w_464, w_465⟩
abbrev mX0_start : BcM := (yX0_start, cX0_start, 4, none, 0, 0, 0, 0)
theorem okX0_start : OkV mX0_start 3 := ⟨⟨w_470, w_7, by decide, by decide, by decide +kernel⟩, w_468, w_469⟩
abbrev mX0_enter : BcM := (yX0_enter, cX0_enter, 5, none, 0, 0, 0, 0)
theorem okX0_enter : OkV mX0_enter 4 := ⟨⟨w_474, w_7, by decide, by decide, by decide +kernel⟩, w_472, w_473⟩
abbrev mX8_move : BcM := (yX8_move, cX8_move, 3, some .int, 5, 111, 0, 0)
theorem okX8_move : OkV mX8_move 2 := ⟨⟨w_478, w_1, by decide, by decide, by decide +kernel⟩, w_476, w_477⟩
abbrev mX3_moveBatch : BcM := (yX3_moveBatch, cX3_moveBatch, 10, some .int, 3, 69, 0, 0)
theorem okX3_moveBatch : OkV mX3_moveBatch 2 := ⟨⟨w_482, w_2, by decide, by decide, by decide +kernel⟩, w_480, w_481⟩
abbrev mX3_batchAt : BcM := (yX3_batchAt, cX3_batchAt, 3, some (.object "BatchCellars$Batch"), 0, 0, 0, 0)
theorem okX3_batchAt : OkV mX3_batchAt 1 := ⟨⟨w_486, w_2, by decide, by decide, by decide +kernel⟩, w_484, w_485⟩
abbrev mX3_lineTo : BcM := (yX3_lineTo, cX3_lineTo, 6, some .int, 2, 44, 0, 0)
theorem okX3_lineTo : OkV mX3_lineTo 2 := ⟨⟨w_490, w_2, by decide, by decide, by decide +kernel⟩, w_488, w_489⟩
abbrev mX3_nextStage : BcM := (yX3_nextStage, cX3_nextStage, 3, some (.object "BatchCellars$Stage"), 1, 22, 0, 0)
theorem okX3_nextStage : OkV mX3_nextStage 1 := ⟨⟨w_494, w_2, by decide, by decide, by decide +kernel⟩, w_492, w_493⟩
abbrev mX0_isRipe : BcM := (yX0_isRipe, cX0_isRipe, 2, some .boolean, 0, 0, 0, 0)
theorem okX0_isRipe : OkV mX0_isRipe 1 := ⟨⟨w_498, w_7, by decide, by decide, by decide +kernel⟩, w_496, w_497⟩
abbrev mX2_isFree : BcM := (yX2_isFree, cX2_isFree, 2, some .boolean, 0, 0, 0, 0)
theorem okX2_isFree : OkV mX2_isFree 1 := ⟨⟨w_502, w_6, by decide, by decide, by decide +kernel⟩, w_500, w_501⟩
abbrev mX2_joins : BcM := (yX2_joins, cX2_joins, 4, some .boolean, 0, 0, 0, 0)
theorem okX2_joins : OkV mX2_joins 2 := ⟨⟨w_506, w_6, by decide, by decide, by decide +kernel⟩, w_504, w_505⟩
abbrev mX3_leaveVessel : BcM := (yX3_leaveVessel, cX3_leaveVessel, 3, none, 1, 22, 0, 0)
theorem okX3_leaveVessel : OkV mX3_leaveVessel 1 := ⟨⟨w_510, w_2, by decide, by decide, by decide +kernel⟩, w_508, w_509⟩
abbrev mX2_minutesFor : BcM := (yX2_minutesFor, cX2_minutesFor, 2, some .int, 0, 0, 0, 0)
theorem okX2_minutesFor : OkV mX2_minutesFor 1 := ⟨⟨w_514, w_6, by decide, by decide, by decide +kernel⟩, w_512, w_513⟩
abbrev mX3_transferLoss : BcM := (yX3_transferLoss, cX3_transferLoss, 2, some .int, 1, 21, 0, 0)
theorem okX3_transferLoss : OkV mX3_transferLoss 1 := ⟨⟨w_518, w_2, by decide, by decide, by decide +kernel⟩, w_516, w_517⟩
abbrev mX8_end : BcM := (yX8_end, cX8_end, 2, some .int, 5, 111, 0, 0)
theorem okX8_end : OkV mX8_end 1 := ⟨⟨w_522, w_1, by decide, by decide, by decide +kernel⟩, w_520, w_521⟩
abbrev mX3_endBatch : BcM := (yX3_endBatch, cX3_endBatch, 3, some .int, 3, 65, 0, 0)
theorem okX3_endBatch : OkV mX3_endBatch 1 := ⟨⟨w_526, w_2, by decide, by decide, by decide +kernel⟩, w_524, w_525⟩
abbrev mX3_addOffGrade : BcM := (yX3_addOffGrade, cX3_addOffGrade, 3, none, 1, 22, 0, 0)
theorem okX3_addOffGrade : OkV mX3_addOffGrade 2 := ⟨⟨w_530, w_2, by decide, by decide, by decide +kernel⟩, w_528, w_529⟩
abbrev mX3_remove : BcM := (yX3_remove, cX3_remove, 2, none, 2, 44, 0, 0)
theorem okX3_remove : OkV mX3_remove 1 := ⟨⟨w_534, w_2, by decide, by decide, by decide +kernel⟩, w_532, w_533⟩
abbrev mX8_discard : BcM := (yX8_discard, cX8_discard, 2, some .int, 5, 111, 0, 0)
theorem okX8_discard : OkV mX8_discard 1 := ⟨⟨w_538, w_1, by decide, by decide, by decide +kernel⟩, w_536, w_537⟩
abbrev mX3_throwAway : BcM := (yX3_throwAway, cX3_throwAway, 3, some .int, 3, 65, 0, 0)
theorem okX3_throwAway : OkV mX3_throwAway 1 := ⟨⟨w_542, w_2, by decide, by decide, by decide +kernel⟩, w_540, w_541⟩
abbrev mX8_blend : BcM := (yX8_blend, cX8_blend, 3, some .int, 5, 111, 0, 0)
theorem okX8_blend : OkV mX8_blend 2 := ⟨⟨w_546, w_1, by decide, by decide, by decide +kernel⟩, w_544, w_545⟩
abbrev mX3_blendIn : BcM := (yX3_blendIn, cX3_blendIn, 6, some .int, 2, 44, 0, 0)
theorem okX3_blendIn : OkV mX3_blendIn 2 := ⟨⟨w_550, w_2, by decide, by decide, by decide +kernel⟩, w_548, w_549⟩
abbrev mX8_pass : BcM := (yX8_pass, cX8_pass, 2, some .int, 5, 111, 0, 0)
theorem okX8_pass : OkV mX8_pass 1 := ⟨⟨w_554, w_1, by decide, by decide, by decide +kernel⟩, w_552, w_553⟩
abbrev mX3_letPass : BcM := (yX3_letPass, cX3_letPass, 5, some .int, 1, 22, 0, 0)
theorem okX3_letPass : OkV mX3_letPass 1 := ⟨⟨w_558, w_2, by decide, by decide, by decide +kernel⟩, w_556, w_557⟩
abbrev mX8_set : BcM := (yX8_set, cX8_set, 3, some .int, 5, 111, 0, 0)
theorem okX8_set : OkV mX8_set 2 := ⟨⟨w_562, w_1, by decide, by decide, by decide +kernel⟩, w_560, w_561⟩
abbrev mX3_changeSetting : BcM := (yX3_changeSetting, cX3_changeSetting, 5, some .int, 1, 22, 0, 0)
theorem okX3_changeSetting : OkV mX3_changeSetting 2 := ⟨⟨w_566, w_2, by decide, by decide, by decide +kernel⟩, w_564, w_565⟩
abbrev mX8_batchOf : BcM := (yX8_batchOf, cX8_batchOf, 4, some .int, 2, 43, 0, 0)
theorem okX8_batchOf : OkV mX8_batchOf 2 := ⟨⟨w_570, w_1, by decide, by decide, by decide +kernel⟩, w_568, w_569⟩
abbrev mX0_detail : BcM := (yX0_detail, cX0_detail, 3, some .int, 1, 21, 0, 0)
theorem okX0_detail : OkV mX0_detail 2 := ⟨⟨w_575, w_7, by decide, by decide, by decide +kernel⟩, w_573, w_574⟩
abbrev mJ9_max_7cf53 : BcM := (yJ9_max_7cf53, cJ9_max_7cf53, 2, some .int, 0, 0, 0, 0)
abbrev mX8_vesselOf : BcM := (yX8_vesselOf, cX8_vesselOf, 5, some .int, 1, 22, 0, 0)
theorem okX8_vesselOf : OkV mX8_vesselOf 2 := ⟨⟨w_583, w_1, by decide, by decide, by decide +kernel⟩, w_581, w_582⟩
abbrev mX7_detail : BcM := (yX7_detail, cX7_detail, 2, some .int, 0, 0, 0, 0)
theorem okX7_detail : OkV mX7_detail 1 := ⟨⟨w_588, w_5, by decide, by decide, by decide +kernel⟩, w_586, w_587⟩
abbrev mX8_lineOf : BcM := (yX8_lineOf, cX8_lineOf, 4, some .int, 2, 43, 0, 0)
theorem okX8_lineOf : OkV mX8_lineOf 2 := ⟨⟨w_592, w_1, by decide, by decide, by decide +kernel⟩, w_590, w_591⟩
abbrev mX2_detail : BcM := (yX2_detail, cX2_detail, 3, some .int, 1, 21, 0, 0)
theorem okX2_detail : OkV mX2_detail 2 := ⟨⟨w_597, w_6, by decide, by decide, by decide +kernel⟩, w_595, w_596⟩
abbrev mX8_count : BcM := (yX8_count, cX8_count, 2, some .int, 2, 43, 0, 0)
theorem okX8_count : OkV mX8_count 1 := ⟨⟨w_602, w_1, by decide, by decide, by decide +kernel⟩, w_600, w_601⟩
abbrev mX3_total : BcM := (yX3_total, cX3_total, 2, some .int, 1, 22, 0, 0)
theorem okX3_total : OkV mX3_total 1 := ⟨⟨w_607, w_2, by decide, by decide, by decide +kernel⟩, w_605, w_606⟩
abbrev mX3_batchTotal : BcM := (yX3_batchTotal, cX3_batchTotal, 3, some .int, 0, 0, 0, 0)
theorem okX3_batchTotal : OkV mX3_batchTotal 0 := ⟨⟨w_611, w_2, by decide, by decide, by decide +kernel⟩, w_609, w_610⟩
abbrev mX3_massTotal : BcM := (yX3_massTotal, cX3_massTotal, 3, some .int, 0, 0, 0, 0)
theorem okX3_massTotal : OkV mX3_massTotal 0 := ⟨⟨w_615, w_2, by decide, by decide, by decide +kernel⟩, w_613, w_614⟩
abbrev mX8_targets : BcM := (yX8_targets, cX8_targets, 3, some .int, 4, 92, 0, 0)
theorem okX8_targets : OkV mX8_targets 1 := ⟨⟨w_619, w_1, by decide, by decide, by decide +kernel⟩, w_617, w_618⟩
abbrev mX3_openTargets : BcM := (yX3_openTargets, cX3_openTargets, 4, some .int, 3, 69, 0, 0)
theorem okX3_openTargets : OkV mX3_openTargets 1 := ⟨⟨w_623, w_2, by decide, by decide, by decide +kernel⟩, w_621, w_622⟩
abbrev mX8_quickest : BcM := (yX8_quickest, cX8_quickest, 5, some .int, 5, 118, 0, 0)
theorem okX8_quickest : OkV mX8_quickest 2 := ⟨⟨w_627, w_1, by decide, by decide, by decide +kernel⟩, w_625, w_626⟩
abbrev mX3_quickestTarget : BcM := (yX3_quickestTarget, cX3_quickestTarget, 6, some .int, 4, 93, 0, 0)
theorem okX3_quickestTarget : OkV mX3_quickestTarget 1 := ⟨⟨w_631, w_2, by decide, by decide, by decide +kernel⟩, w_629, w_630⟩
abbrev mX3_minutesTo : BcM := (yX3_minutesTo, cX3_minutesTo, 5, some .int, 3, 69, 0, 0)
theorem okX3_minutesTo : OkV mX3_minutesTo 2 := ⟨⟨w_635, w_2, by decide, by decide, by decide +kernel⟩, w_633, w_634⟩
abbrev mX8_soonest : BcM := (yX8_soonest, cX8_soonest, 3, some .int, 3, 71, 0, 0)
theorem okX8_soonest : OkV mX8_soonest 1 := ⟨⟨w_640, w_1, by decide, by decide, by decide +kernel⟩, w_638, w_639⟩
abbrev mX3_earliestEnd : BcM := (yX3_earliestEnd, cX3_earliestEnd, 7, some .int, 2, 45, 0, 0)
theorem okX3_earliestEnd : OkV mX3_earliestEnd 1 := ⟨⟨w_644, w_2, by decide, by decide, by decide +kernel⟩, w_642, w_643⟩
abbrev mX3_hasVesselFor : BcM := (yX3_hasVesselFor, cX3_hasVesselFor, 4, some .boolean, 1, 22, 0, 0)
theorem okX3_hasVesselFor : OkV mX3_hasVesselFor 2 := ⟨⟨w_649, w_2, by decide, by decide, by decide +kernel⟩, w_647, w_648⟩
abbrev mX8_urgent : BcM := (yX8_urgent, cX8_urgent, 2, some .int, 4, 93, 0, 0)
theorem okX8_urgent : OkV mX8_urgent 1 := ⟨⟨w_654, w_1, by decide, by decide, by decide +kernel⟩, w_652, w_653⟩
abbrev mX3_batchInPlace : BcM := (yX3_batchInPlace, cX3_batchInPlace, 3, some .int, 3, 71, 0, 0)
theorem okX3_batchInPlace : OkV mX3_batchInPlace 1 := ⟨⟨w_658, w_2, by decide, by decide, by decide +kernel⟩, w_656, w_657⟩
abbrev mX3_canSpoil : BcM := (yX3_canSpoil, cX3_canSpoil, 3, some .boolean, 1, 22, 0, 0)
theorem okX3_canSpoil : OkV mX3_canSpoil 1 := ⟨⟨w_662, w_2, by decide, by decide, by decide +kernel⟩, w_660, w_661⟩
abbrev mX3_moreUrgentThan : BcM := (yX3_moreUrgentThan, cX3_moreUrgentThan, 8, some .int, 2, 44, 0, 0)
theorem okX3_moreUrgentThan : OkV mX3_moreUrgentThan 1 := ⟨⟨w_666, w_2, by decide, by decide, by decide +kernel⟩, w_664, w_665⟩
abbrev mX8_undo : BcM := (yX8_undo, cX8_undo, 1, some .int, 5, 111, 0, 0)
theorem okX8_undo : OkV mX8_undo 0 := ⟨⟨w_670, w_1, by decide, by decide, by decide +kernel⟩, w_668, w_669⟩
abbrev mX1_restore : BcM := (yX1_restore, cX1_restore, 2, some .int, 4, 90, 0, 0)
theorem okX1_restore : OkV mX1_restore 1 := ⟨⟨w_674, w_8, by decide, by decide, by decide +kernel⟩, w_672, w_673⟩
abbrev mX8_type : BcM := (yX8_type, cX8_type, 2, some .int, 2, 43, 0, 0)
theorem okX8_type : OkV mX8_type 1 := ⟨⟨w_678, w_1, by decide, by decide, by decide +kernel⟩, w_676, w_677⟩
abbrev mX5_append : BcM := (yX5_append, cX5_append, 2, some .int, 1, 22, 0, 0)
theorem okX5_append : OkV mX5_append 1 := ⟨⟨w_682, w_9, by decide, by decide, by decide +kernel⟩, w_680, w_681⟩
abbrev mX8_clearText : BcM := (yX8_clearText, cX8_clearText, 2, some .int, 0, 0, 0, 0)
theorem okX8_clearText : OkV mX8_clearText 0 := ⟨⟨w_687, w_1, by decide, by decide, by decide +kernel⟩, w_685, w_686⟩
abbrev mX8_fault : BcM := (yX8_fault, cX8_fault, 2, some .int, 6, 141, 0, 0)
theorem okX8_fault : OkV mX8_fault 1 := ⟨⟨w_691, w_1, by decide, by decide, by decide +kernel⟩, w_689, w_690⟩
abbrev mX8_rehearse : BcM := (yX8_rehearse, cX8_rehearse, 2, none, 5, 120, 0, 0)
theorem okX8_rehearse : OkV mX8_rehearse 0 := ⟨⟨w_695, w_1, by decide, by decide, by decide +kernel⟩, w_694, wp_0⟩
abbrev mX5_readCommand : BcM := (yX5_readCommand, cX5_readCommand, 5, some .boolean, 2, 45, 0, 0)
theorem okX5_readCommand : OkV mX5_readCommand 1 := ⟨⟨w_700, w_9, by decide, by decide, by decide +kernel⟩, w_698, w_699⟩
abbrev mX5_signAt : BcM := (yX5_signAt, cX5_signAt, 3, some .char, 0, 0, 0, 0)
theorem okX5_signAt : OkV mX5_signAt 1 := ⟨⟨w_704, w_9, by decide, by decide, by decide +kernel⟩, w_702, w_703⟩
abbrev mX5_numbersOf : BcM := (yX5_numbersOf, cX5_numbersOf, 1, some .int, 0, 0, 0, 0)
theorem okX5_numbersOf : OkS mX5_numbersOf 1 := ⟨⟨w_707, w_9, by decide, by decide, by decide +kernel⟩, w_706⟩
abbrev mX5_readNumber : BcM := (yX5_readNumber, cX5_readNumber, 4, some .boolean, 1, 22, 0, 0)
theorem okX5_readNumber : OkV mX5_readNumber 1 := ⟨⟨w_711, w_9, by decide, by decide, by decide +kernel⟩, w_709, w_710⟩
abbrev mX8_perform : BcM := (yX8_perform, cX8_perform, 3, some .int, 4, 98, 0, 0)
theorem okX8_perform : OkV mX8_perform 0 := ⟨⟨w_716, w_1, by decide, by decide, by decide +kernel⟩, w_715, wp_1⟩
abbrev mX8_reasonOf : BcM := (yX8_reasonOf, cX8_reasonOf, 1, some .int, 0, 0, 0, 0)
theorem okX8_reasonOf : OkS mX8_reasonOf 1 := ⟨⟨w_719, w_1, by decide, by decide, by decide +kernel⟩, w_718⟩
abbrev mX8_play : BcM := (yX8_play, cX8_play, 1, some .int, 6, 141, 0, 0)
theorem okX8_play : OkV mX8_play 0 := ⟨⟨w_723, w_1, by decide, by decide, by decide +kernel⟩, w_721, w_722⟩
abbrev mX9_init : BcM := (yX9_init, cX9_init, 2, none, 1, 20, 5, 1277)
theorem okX9_init : OkI mX9_init 0 := ⟨⟨w_728, w_10, by decide, by decide, by decide +kernel⟩, w_727, rfl, rfl⟩
abbrev mX9_recipe : BcM := (yX9_recipe, cX9_recipe, 3, some .int, 1, 22, 0, 0)
theorem okX9_recipe : OkV mX9_recipe 1 := ⟨⟨w_767, w_10, by decide, by decide, by decide +kernel⟩, w_765, w_766⟩
abbrev mX9_in : BcM := (yX9_in, cX9_in, 3, some .boolean, 0, 0, 0, 0)
theorem okX9_in : OkS mX9_in 3 := ⟨⟨w_770, w_10, by decide, by decide, by decide +kernel⟩, w_769⟩
abbrev mX9_changes : BcM := (yX9_changes, cX9_changes, 2, none, 0, 0, 0, 0)
theorem okX9_changes : OkV mX9_changes 0 := ⟨⟨w_774, w_10, by decide, by decide, by decide +kernel⟩, w_773, wp_2⟩
abbrev mX9_stage : BcM := (yX9_stage, cX9_stage, 8, some .int, 3, 66, 0, 0)
theorem okX9_stage : OkV mX9_stage 5 := ⟨⟨w_778, w_10, by decide, by decide, by decide +kernel⟩, w_776, w_777⟩
abbrev mX9_isRecipe : BcM := (yX9_isRecipe, cX9_isRecipe, 2, some .boolean, 0, 0, 0, 0)
theorem okX9_isRecipe : OkV mX9_isRecipe 1 := ⟨⟨w_782, w_10, by decide, by decide, by decide +kernel⟩, w_781, wp_3⟩
abbrev mX9_isMade : BcM := (yX9_isMade, cX9_isMade, 4, some .boolean, 2, 43, 0, 0)
theorem okX9_isMade : OkV mX9_isMade 1 := ⟨⟨w_786, w_10, by decide, by decide, by decide +kernel⟩, w_785, wp_4⟩
abbrev mX9_isBatch : BcM := (yX9_isBatch, cX9_isBatch, 2, some .boolean, 1, 22, 0, 0)
theorem okX9_isBatch : OkV mX9_isBatch 1 := ⟨⟨w_790, w_10, by decide, by decide, by decide +kernel⟩, w_789, wp_5⟩
abbrev mX9_of : BcM := (yX9_of, cX9_of, 3, some .int, 0, 0, 0, 0)
theorem okX9_of : OkV mX9_of 2 := ⟨⟨w_794, w_10, by decide, by decide, by decide +kernel⟩, w_793, wp_6⟩
abbrev mX9_stages : BcM := (yX9_stages, cX9_stages, 2, some .int, 0, 0, 0, 0)
theorem okX9_stages : OkV mX9_stages 1 := ⟨⟨w_798, w_10, by decide, by decide, by decide +kernel⟩, w_797, wp_7⟩
abbrev mX9_vessel : BcM := (yX9_vessel, cX9_vessel, 4, some .int, 1, 23, 0, 0)
theorem okX9_vessel : OkV mX9_vessel 2 := ⟨⟨w_802, w_10, by decide, by decide, by decide +kernel⟩, w_800, w_801⟩
abbrev mX9_putsVessel : BcM := (yX9_putsVessel, cX9_putsVessel, 4, none, 0, 0, 0, 0)
theorem okX9_putsVessel : OkV mX9_putsVessel 3 := ⟨⟨w_806, w_10, by decide, by decide, by decide +kernel⟩, w_805, wp_8⟩
abbrev mX9_line : BcM := (yX9_line, cX9_line, 4, some .int, 1, 22, 0, 0)
theorem okX9_line : OkV mX9_line 2 := ⟨⟨w_810, w_10, by decide, by decide, by decide +kernel⟩, w_808, w_809⟩
abbrev mX9_bits : BcM := (yX9_bits, cX9_bits, 3, some .int, 0, 0, 0, 0)
theorem okX9_bits : OkS mX9_bits 1 := ⟨⟨w_813, w_10, by decide, by decide, by decide +kernel⟩, w_812⟩
abbrev mX9_cleaning : BcM := (yX9_cleaning, cX9_cleaning, 5, some .int, 1, 22, 0, 0)
theorem okX9_cleaning : OkV mX9_cleaning 3 := ⟨⟨w_817, w_10, by decide, by decide, by decide +kernel⟩, w_815, w_816⟩
abbrev mX9_stageOf : BcM := (yX9_stageOf, cX9_stageOf, 4, some .int, 1, 23, 0, 0)
theorem okX9_stageOf : OkV mX9_stageOf 3 := ⟨⟨w_821, w_10, by decide, by decide, by decide +kernel⟩, w_819, w_820⟩
abbrev mX9_product : BcM := (yX9_product, cX9_product, 2, some .int, 0, 0, 0, 0)
theorem okX9_product : OkV mX9_product 1 := ⟨⟨w_825, w_10, by decide, by decide, by decide +kernel⟩, w_824, wp_9⟩
abbrev mX9_ofStage : BcM := (yX9_ofStage, cX9_ofStage, 4, some .int, 0, 0, 0, 0)
theorem okX9_ofStage : OkV mX9_ofStage 3 := ⟨⟨w_829, w_10, by decide, by decide, by decide +kernel⟩, w_828, wp_10⟩
abbrev mX9_begin : BcM := (yX9_begin, cX9_begin, 5, some .int, 3, 68, 0, 0)
theorem okX9_begin : OkV mX9_begin 3 := ⟨⟨w_833, w_10, by decide, by decide, by decide +kernel⟩, w_831, w_832⟩
abbrev mX9_isVessel : BcM := (yX9_isVessel, cX9_isVessel, 2, some .boolean, 0, 0, 0, 0)
theorem okX9_isVessel : OkV mX9_isVessel 1 := ⟨⟨w_837, w_10, by decide, by decide, by decide +kernel⟩, w_836, wp_11⟩
abbrev mX9_takes : BcM := (yX9_takes, cX9_takes, 4, some .boolean, 1, 22, 0, 0)
theorem okX9_takes : OkV mX9_takes 3 := ⟨⟨w_841, w_10, by decide, by decide, by decide +kernel⟩, w_840, wp_12⟩
abbrev mX9_ofVessel : BcM := (yX9_ofVessel, cX9_ofVessel, 3, some .int, 0, 0, 0, 0)
theorem okX9_ofVessel : OkV mX9_ofVessel 2 := ⟨⟨w_845, w_10, by decide, by decide, by decide +kernel⟩, w_844, wp_13⟩
abbrev mX9_puts : BcM := (yX9_puts, cX9_puts, 4, none, 0, 0, 0, 0)
theorem okX9_puts : OkV mX9_puts 3 := ⟨⟨w_849, w_10, by decide, by decide, by decide +kernel⟩, w_848, wp_14⟩
abbrev mX9_comes : BcM := (yX9_comes, cX9_comes, 5, some .int, 2, 44, 0, 0)
theorem okX9_comes : OkV mX9_comes 2 := ⟨⟨w_853, w_10, by decide, by decide, by decide +kernel⟩, w_852, wp_15⟩
abbrev mX9_cleans : BcM := (yX9_cleans, cX9_cleans, 3, some .int, 1, 22, 0, 0)
theorem okX9_cleans : OkV mX9_cleans 2 := ⟨⟨w_857, w_10, by decide, by decide, by decide +kernel⟩, w_856, wp_16⟩
abbrev mX9_move : BcM := (yX9_move, cX9_move, 6, some .int, 5, 113, 0, 0)
theorem okX9_move : OkV mX9_move 2 := ⟨⟨w_861, w_10, by decide, by decide, by decide +kernel⟩, w_859, w_860⟩
abbrev mX9_lineTo : BcM := (yX9_lineTo, cX9_lineTo, 8, some .int, 4, 86, 0, 0)
theorem okX9_lineTo : OkV mX9_lineTo 2 := ⟨⟨w_865, w_10, by decide, by decide, by decide +kernel⟩, w_864, wp_17⟩
abbrev mX9_isRipe : BcM := (yX9_isRipe, cX9_isRipe, 2, some .boolean, 3, 65, 0, 0)
theorem okX9_isRipe : OkV mX9_isRipe 1 := ⟨⟨w_869, w_10, by decide, by decide, by decide +kernel⟩, w_868, wp_18⟩
abbrev mX9_ripeAt : BcM := (yX9_ripeAt, cX9_ripeAt, 2, some .int, 2, 44, 0, 0)
theorem okX9_ripeAt : OkV mX9_ripeAt 1 := ⟨⟨w_873, w_10, by decide, by decide, by decide +kernel⟩, w_872, wp_19⟩
abbrev mX9_over : BcM := (yX9_over, cX9_over, 2, some .int, 1, 23, 0, 0)
theorem okX9_over : OkV mX9_over 1 := ⟨⟨w_877, w_10, by decide, by decide, by decide +kernel⟩, w_876, wp_20⟩
abbrev mX9_ofLine : BcM := (yX9_ofLine, cX9_ofLine, 3, some .int, 0, 0, 0, 0)
theorem okX9_ofLine : OkV mX9_ofLine 2 := ⟨⟨w_881, w_10, by decide, by decide, by decide +kernel⟩, w_880, wp_21⟩
abbrev mX9_minutesTo : BcM := (yX9_minutesTo, cX9_minutesTo, 5, some .int, 2, 44, 0, 0)
theorem okX9_minutesTo : OkV mX9_minutesTo 3 := ⟨⟨w_885, w_10, by decide, by decide, by decide +kernel⟩, w_884, wp_22⟩
abbrev mX9_end : BcM := (yX9_end, cX9_end, 3, some .int, 4, 86, 0, 0)
theorem okX9_end : OkV mX9_end 1 := ⟨⟨w_889, w_10, by decide, by decide, by decide +kernel⟩, w_887, w_888⟩
abbrev mX9_goes : BcM := (yX9_goes, cX9_goes, 2, some .int, 1, 23, 0, 0)
theorem okX9_goes : OkV mX9_goes 1 := ⟨⟨w_893, w_10, by decide, by decide, by decide +kernel⟩, w_892, wp_23⟩
abbrev mX9_discard : BcM := (yX9_discard, cX9_discard, 3, some .int, 2, 44, 0, 0)
theorem okX9_discard : OkV mX9_discard 1 := ⟨⟨w_897, w_10, by decide, by decide, by decide +kernel⟩, w_895, w_896⟩
abbrev mX9_blend : BcM := (yX9_blend, cX9_blend, 3, some .int, 2, 45, 0, 0)
theorem okX9_blend : OkV mX9_blend 2 := ⟨⟨w_901, w_10, by decide, by decide, by decide +kernel⟩, w_899, w_900⟩
abbrev mX9_canBlend : BcM := (yX9_canBlend, cX9_canBlend, 4, some .boolean, 1, 22, 0, 0)
theorem okX9_canBlend : OkV mX9_canBlend 2 := ⟨⟨w_905, w_10, by decide, by decide, by decide +kernel⟩, w_904, wp_24⟩
abbrev mX9_pass : BcM := (yX9_pass, cX9_pass, 4, some .int, 3, 65, 0, 0)
theorem okX9_pass : OkV mX9_pass 1 := ⟨⟨w_909, w_10, by decide, by decide, by decide +kernel⟩, w_907, w_908⟩
abbrev mX9_goodTill : BcM := (yX9_goodTill, cX9_goodTill, 2, some .int, 2, 44, 0, 0)
theorem okX9_goodTill : OkV mX9_goodTill 1 := ⟨⟨w_913, w_10, by decide, by decide, by decide +kernel⟩, w_912, wp_25⟩
abbrev mX9_set : BcM := (yX9_set, cX9_set, 4, some .int, 1, 22, 0, 0)
theorem okX9_set : OkV mX9_set 2 := ⟨⟨w_917, w_10, by decide, by decide, by decide +kernel⟩, w_915, w_916⟩
abbrev mX9_batchOf : BcM := (yX9_batchOf, cX9_batchOf, 3, some .int, 4, 86, 0, 0)
theorem okX9_batchOf : OkV mX9_batchOf 2 := ⟨⟨w_921, w_10, by decide, by decide, by decide +kernel⟩, w_919, w_920⟩
abbrev mX9_vesselOf : BcM := (yX9_vesselOf, cX9_vesselOf, 4, some .int, 1, 22, 0, 0)
theorem okX9_vesselOf : OkV mX9_vesselOf 2 := ⟨⟨w_925, w_10, by decide, by decide, by decide +kernel⟩, w_923, w_924⟩
abbrev mX9_lineOf : BcM := (yX9_lineOf, cX9_lineOf, 4, some .int, 1, 22, 0, 0)
theorem okX9_lineOf : OkV mX9_lineOf 2 := ⟨⟨w_929, w_10, by decide, by decide, by decide +kernel⟩, w_927, w_928⟩
abbrev mX9_count : BcM := (yX9_count, cX9_count, 2, some .int, 3, 66, 0, 0)
theorem okX9_count : OkV mX9_count 1 := ⟨⟨w_933, w_10, by decide, by decide, by decide +kernel⟩, w_931, w_932⟩
abbrev mX9_ofBatches : BcM := (yX9_ofBatches, cX9_ofBatches, 4, some .int, 2, 43, 0, 0)
theorem okX9_ofBatches : OkV mX9_ofBatches 1 := ⟨⟨w_937, w_10, by decide, by decide, by decide +kernel⟩, w_936, wp_26⟩
abbrev mX9_targets : BcM := (yX9_targets, cX9_targets, 4, some .int, 5, 113, 0, 0)
theorem okX9_targets : OkV mX9_targets 1 := ⟨⟨w_941, w_10, by decide, by decide, by decide +kernel⟩, w_939, w_940⟩
abbrev mX9_quickest : BcM := (yX9_quickest, cX9_quickest, 9, some .int, 5, 113, 0, 0)
theorem okX9_quickest : OkV mX9_quickest 2 := ⟨⟨w_945, w_10, by decide, by decide, by decide +kernel⟩, w_943, w_944⟩
abbrev mX9_soonest : BcM := (yX9_soonest, cX9_soonest, 6, some .int, 4, 86, 0, 0)
theorem okX9_soonest : OkV mX9_soonest 1 := ⟨⟨w_949, w_10, by decide, by decide, by decide +kernel⟩, w_947, w_948⟩
abbrev mX9_isRoom : BcM := (yX9_isRoom, cX9_isRoom, 5, some .boolean, 1, 22, 0, 0)
theorem okX9_isRoom : OkV mX9_isRoom 2 := ⟨⟨w_953, w_10, by decide, by decide, by decide +kernel⟩, w_952, wp_27⟩
abbrev mX9_urgent : BcM := (yX9_urgent, cX9_urgent, 8, some .int, 3, 65, 0, 0)
theorem okX9_urgent : OkV mX9_urgent 1 := ⟨⟨w_957, w_10, by decide, by decide, by decide +kernel⟩, w_955, w_956⟩
abbrev mX9_undo : BcM := (yX9_undo, cX9_undo, 2, some .int, 0, 0, 0, 0)
theorem okX9_undo : OkV mX9_undo 0 := ⟨⟨w_961, w_10, by decide, by decide, by decide +kernel⟩, w_959, w_960⟩
abbrev mX9_type : BcM := (yX9_type, cX9_type, 2, some .int, 1, 22, 0, 0)
theorem okX9_type : OkV mX9_type 1 := ⟨⟨w_965, w_10, by decide, by decide, by decide +kernel⟩, w_963, w_964⟩
abbrev mX9_clearText : BcM := (yX9_clearText, cX9_clearText, 2, some .int, 0, 0, 0, 0)
theorem okX9_clearText : OkV mX9_clearText 0 := ⟨⟨w_969, w_10, by decide, by decide, by decide +kernel⟩, w_967, w_968⟩
abbrev mX9_fault : BcM := (yX9_fault, cX9_fault, 3, some .int, 8, 184, 0, 0)
theorem okX9_fault : OkV mX9_fault 1 := ⟨⟨w_973, w_10, by decide, by decide, by decide +kernel⟩, w_971, w_972⟩
abbrev mX9_copies : BcM := (yX9_copies, cX9_copies, 3, none, 0, 0, 0, 0)
theorem okX9_copies : OkS mX9_copies 2 := ⟨⟨w_976, w_10, by decide, by decide, by decide +kernel⟩, w_975⟩
abbrev mX9_plays : BcM := (yX9_plays, cX9_plays, 6, some .int, 7, 159, 0, 0)
theorem okX9_plays : OkV mX9_plays 0 := ⟨⟨w_980, w_10, by decide, by decide, by decide +kernel⟩, w_979, wp_28⟩
abbrev mX9_numbersOf : BcM := (yX9_numbersOf, cX9_numbersOf, 1, some .int, 0, 0, 0, 0)
theorem okX9_numbersOf : OkS mX9_numbersOf 1 := ⟨⟨w_983, w_10, by decide, by decide, by decide +kernel⟩, w_982⟩
abbrev mX9_number : BcM := (yX9_number, cX9_number, 5, some .boolean, 2, 44, 0, 0)
theorem okX9_number : OkV mX9_number 2 := ⟨⟨w_987, w_10, by decide, by decide, by decide +kernel⟩, w_986, wp_29⟩
abbrev mX9_isAt : BcM := (yX9_isAt, cX9_isAt, 3, some .boolean, 1, 22, 0, 0)
theorem okX9_isAt : OkV mX9_isAt 2 := ⟨⟨w_991, w_10, by decide, by decide, by decide +kernel⟩, w_990, wp_30⟩
abbrev mX9_calls : BcM := (yX9_calls, cX9_calls, 2, some .int, 6, 138, 0, 0)
theorem okX9_calls : OkV mX9_calls 1 := ⟨⟨w_995, w_10, by decide, by decide, by decide +kernel⟩, w_994, wp_31⟩
abbrev mX9_play : BcM := (yX9_play, cX9_play, 2, some .int, 8, 184, 0, 0)
theorem okX9_play : OkV mX9_play 0 := ⟨⟨w_1005, w_10, by decide, by decide, by decide +kernel⟩, w_1003, w_1004⟩
end
section
/-! THE LAYOUT: after the constructors every cell's shape and every reference stands; only ints change -/
def shP (r : Nat) : Nat × Nat :=
  if r = 0 then (3, 0) else if r = 1 then (23, 4) else if r = 2 then (25, 6) else if r = 3 then (26, 3) else if r = 4 then (27, 6)
  else if r = 5 then (20, 16) else if r = 6 then (20, 2) else if r = 7 then (20, 4)
  else if r < 32 then (if (r - 8) % 6 = 0 then (4, 0) else if (r - 8) % 6 = 1 then (24, 4) else (6, 0))
  else if r < 38 then (7, 0) else if r < 41 then (2, 0) else (0, 0)
def grP (r j : Nat) : Option Nat :=
  if r = 0 then (if j = 0 then some 1 else if j = 2 then some 2 else if j = 4 then some 3 else if j = 6 then some 4 else if j = 7 then some 5 else if j = 8 then some 6 else if j = 9 then some 7 else none)
  else if r = 1 then (if j < 4 then some (8 + 6 * j) else none)
  else if r = 2 then (if j < 6 then some (32 + j) else none)
  else if r = 3 then (if j < 3 then some (38 + j) else none)
  else if r = 4 then (if j < 6 then some (41 + j) else none)
  else if r < 8 then none
  else if r < 32 then (if (r - 8) % 6 = 0 then (if j = 2 then some (r + 1) else none) else if (r - 8) % 6 = 1 then (if j < 4 then some (r + 1 + j) else none) else none)
  else none
/-- where the plant of the cell k begins -/
def bsP (k : Nat) : Nat := if k < 48 then 1 else if k < 95 then 48 else 97 + 47 * ((k - 97) / 47)
def SH (k : Nat) : Nat × Nat :=
  if k = 0 then (8, 0) else if k = 95 then (1, 0) else if k = 96 then (22, 5) else if k < 332 then shP (k - bsP k)
  else if k = 332 then (5, 0) else if k = 333 then (21, 80) else if k = 334 then (20, 3) else if k = 335 then (9, 0)
  else if k = 336 then (20, 199) else if k = 337 then (20, 796) else if k = 338 then (20, 199) else if k = 339 then (20, 80) else (20, 3)
def GR (k j : Nat) : Option Nat :=
  if k = 0 then (if j = 0 then some 1 else if j = 1 then some 48 else if j = 2 then some 95 else if j = 3 then some 332 else none)
  else if k = 95 then (if j = 0 then some 96 else none)
  else if k = 96 then (if j < 5 then some (97 + 47 * j) else none)
  else if k < 332 then (grP (k - bsP k) j).map (bsP k + ·)
  else if k = 332 then (if j = 0 then some 333 else if j = 3 then some 334 else none)
  else if k = 335 then (if j = 0 then some 336 else if j = 1 then some 337 else if j = 2 then some 338 else if j = 5 then some 339 else if j = 10 then some 340 else none)
  else none
abbrev GI : Type := Nat → Nat → Int32
def hp (gi : GI) : BcH := ((341, SH), GR, gi)
def wI (gi : GI) (k j : Nat) (v : Int32) : GI := va_up gi k (upd (gi k) j v)
def wA (gi : GI) (k : Nat) (f : Nat → Int32) : GI := va_up gi k f
def tO (k ci : Nat) : Prop := k < 341 ∧ (SH k).1 = ci
def tA (k t len : Nat) : Prop := k < 341 ∧ SH k = (t, len)
def plants : List Nat := [1, 48, 97, 144, 191, 238, 285]
def isP (P : Nat) : Prop := P ∈ plants
theorem wI_at (gi : GI) (k j : Nat) (v : Int32) (a b : Nat) : wI gi k j v a b = if a = k ∧ b = j then v else gi a b := by
  unfold wI va_up upd
  by_cases h1 : a = k
  · subst h1
    by_cases h2 : b = j
    · rw [if_pos rfl, if_pos h2, if_pos ⟨rfl, h2⟩]
    · rw [if_pos rfl, if_neg h2, if_neg (fun z => h2 z.2)]
  · rw [if_neg h1, if_neg (fun z => h1 z.1)]
theorem wI_eq (gi : GI) (k j : Nat) (v : Int32) : wI gi k j v k j = v := by rw [wI_at, if_pos ⟨rfl, rfl⟩]
theorem wI_ne {gi : GI} {k j a b : Nat} {v : Int32} (h : a ≠ k ∨ b ≠ j) : wI gi k j v a b = gi a b := by
  rw [wI_at, if_neg]
  rintro ⟨h1, h2⟩
  rcases h with h | h
  · exact h h1
  · exact h h2
theorem wI_row {gi : GI} {k j a : Nat} {v : Int32} (h : a ≠ k) : wI gi k j v a = gi a := by
  funext b
  exact wI_ne (Or.inl h)
theorem wA_eq (gi : GI) (k : Nat) (f : Nat → Int32) : wA gi k f k = f := by simp [wA, va_up]
theorem wA_row {gi : GI} {k a : Nat} {f : Nat → Int32} (h : a ≠ k) : wA gi k f a = gi a := by simp [wA, va_up, h]
section LAY
variable {P i k : Nat} (hP : isP P)
theorem tP (hP : isP P) : tO P 3 := (by decide +kernel : ∀ P ∈ plants, P < 341 ∧ (SH P).1 = 3) P hP
theorem tB (hP : isP P) (hi : i < 6) : tO (P + 41 + i) 0 := (by decide +kernel : ∀ P ∈ plants, ∀ i, i < 6 → (P + 41 + i < 341 ∧ (SH (P + 41 + i)).1 = 0)) P hP i hi
theorem tV (hP : isP P) (hi : i < 6) : tO (P + 32 + i) 7 := (by decide +kernel : ∀ P ∈ plants, ∀ i, i < 6 → (P + 32 + i < 341 ∧ (SH (P + 32 + i)).1 = 7)) P hP i hi
theorem tL (hP : isP P) (hi : i < 3) : tO (P + 38 + i) 2 := (by decide +kernel : ∀ P ∈ plants, ∀ i, i < 3 → (P + 38 + i < 341 ∧ (SH (P + 38 + i)).1 = 2)) P hP i hi
theorem tR (hP : isP P) (hi : i < 4) : tO (P + 8 + 6 * i) 4 := (by decide +kernel : ∀ P ∈ plants, ∀ i, i < 4 → (P + 8 + 6 * i < 341 ∧ (SH (P + 8 + 6 * i)).1 = 4)) P hP i hi
theorem tS (hP : isP P) (hi : i < 4) (hk : k < 4) : tO (P + 10 + 6 * i + k) 6 := (by decide +kernel : ∀ P ∈ plants, ∀ i, i < 4 → ∀ k, k < 4 → (P + 10 + 6 * i + k < 341 ∧ (SH (P + 10 + 6 * i + k)).1 = 6)) P hP i hi k hk
theorem aR (hP : isP P) : tA (P + 1) 23 4 := (by decide +kernel : ∀ P ∈ plants, P + 1 < 341 ∧ SH (P + 1) = (23, 4)) P hP
theorem aV (hP : isP P) : tA (P + 2) 25 6 := (by decide +kernel : ∀ P ∈ plants, P + 2 < 341 ∧ SH (P + 2) = (25, 6)) P hP
theorem aL (hP : isP P) : tA (P + 3) 26 3 := (by decide +kernel : ∀ P ∈ plants, P + 3 < 341 ∧ SH (P + 3) = (26, 3)) P hP
theorem aB (hP : isP P) : tA (P + 4) 27 6 := (by decide +kernel : ∀ P ∈ plants, P + 4 < 341 ∧ SH (P + 4) = (27, 6)) P hP
theorem aT (hP : isP P) : tA (P + 5) 20 16 := (by decide +kernel : ∀ P ∈ plants, P + 5 < 341 ∧ SH (P + 5) = (20, 16)) P hP
theorem aS (hP : isP P) : tA (P + 6) 20 2 := (by decide +kernel : ∀ P ∈ plants, P + 6 < 341 ∧ SH (P + 6) = (20, 2)) P hP
theorem aO (hP : isP P) : tA (P + 7) 20 4 := (by decide +kernel : ∀ P ∈ plants, P + 7 < 341 ∧ SH (P + 7) = (20, 4)) P hP
theorem aK (hP : isP P) (hi : i < 4) : tA (P + 9 + 6 * i) 24 4 := (by decide +kernel : ∀ P ∈ plants, ∀ i, i < 4 → (P + 9 + 6 * i < 341 ∧ SH (P + 9 + 6 * i) = (24, 4))) P hP i hi
theorem rR (hP : isP P) : GR P 0 = some (P + 1) := (by decide +kernel : ∀ P ∈ plants, GR P 0 = some (P + 1)) P hP
theorem rV (hP : isP P) : GR P 2 = some (P + 2) := (by decide +kernel : ∀ P ∈ plants, GR P 2 = some (P + 2)) P hP
theorem rL (hP : isP P) : GR P 4 = some (P + 3) := (by decide +kernel : ∀ P ∈ plants, GR P 4 = some (P + 3)) P hP
theorem rB (hP : isP P) : GR P 6 = some (P + 4) := (by decide +kernel : ∀ P ∈ plants, GR P 6 = some (P + 4)) P hP
theorem rT (hP : isP P) : GR P 7 = some (P + 5) := (by decide +kernel : ∀ P ∈ plants, GR P 7 = some (P + 5)) P hP
theorem rS (hP : isP P) : GR P 8 = some (P + 6) := (by decide +kernel : ∀ P ∈ plants, GR P 8 = some (P + 6)) P hP
theorem rO (hP : isP P) : GR P 9 = some (P + 7) := (by decide +kernel : ∀ P ∈ plants, GR P 9 = some (P + 7)) P hP
theorem rRi (hP : isP P) (hi : i < 4) : GR (P + 1) i = some (P + 8 + 6 * i) := (by decide +kernel : ∀ P ∈ plants, ∀ i, i < 4 → GR (P + 1) i = some (P + 8 + 6 * i)) P hP i hi
theorem rVi (hP : isP P) (hi : i < 6) : GR (P + 2) i = some (P + 32 + i) := (by decide +kernel : ∀ P ∈ plants, ∀ i, i < 6 → GR (P + 2) i = some (P + 32 + i)) P hP i hi
theorem rLi (hP : isP P) (hi : i < 3) : GR (P + 3) i = some (P + 38 + i) := (by decide +kernel : ∀ P ∈ plants, ∀ i, i < 3 → GR (P + 3) i = some (P + 38 + i)) P hP i hi
theorem rBi (hP : isP P) (hi : i < 6) : GR (P + 4) i = some (P + 41 + i) := (by decide +kernel : ∀ P ∈ plants, ∀ i, i < 6 → GR (P + 4) i = some (P + 41 + i)) P hP i hi
theorem rK (hP : isP P) (hi : i < 4) : GR (P + 8 + 6 * i) 2 = some (P + 9 + 6 * i) := (by decide +kernel : ∀ P ∈ plants, ∀ i, i < 4 → GR (P + 8 + 6 * i) 2 = some (P + 9 + 6 * i)) P hP i hi
theorem rKi (hP : isP P) (hi : i < 4) (hk : k < 4) : GR (P + 9 + 6 * i) k = some (P + 10 + 6 * i + k) := (by decide +kernel : ∀ P ∈ plants, ∀ i, i < 4 → ∀ k, k < 4 → GR (P + 9 + 6 * i) k = some (P + 10 + 6 * i + k)) P hP i hi k hk
end LAY
theorem ct_of {G : BcG} {M : BcM} {vs : List Value} {h : BcH} {post : Option Value → BcH → Prop} (ls0 : List (Option Value)) (hb : Cond.initialized M.1.cls ∈ lwG) (hp : plainName M.1.cls = true) (hc : (vs.all fun v => v.category == 1) = true) (hn : vs.length ≤ M.2.2.1) (hl : ls0 = vs.map some ++ List.replicate (M.2.2.1 - vs.length) none)
    (go : BGo G M (KM G M h.1.1 post) h 0 0 0 ls0 []) : Ct G M vs h post := by
  subst hl
  exact Ct.of hp (fun v hv => by have := List.all_eq_true.mp hc v hv; simpa using this) hn hb go
section GP
variable {G : BcG} {M M' : BcM} {KQ : BcK} {gi : GI} {k n pc : Nat} {ls ls' : List (Option Value)} {st rest As : List Value} {x y r : Int32}
theorem gp_getI (q : Nat) {a idx ci j : Nat} {t : FieldType} {fin : Bool} (hd : decode M.2.1 pc = .ok (.getfield idx, 3)) (e : pc + 3 = q) (F : bc_F M.1.cls idx ci j t fin) (hi : bc_iR ci j = false) (ha : tO a ci) (kk : BGo G M KQ (hp gi) k n q ls (.int (gi a j) :: st)) : BGo G M KQ (hp gi) k n pc ls (.ref (G.1 + a) :: st) := go_getI q hd e F hi ha kk
theorem gp_getR (q : Nat) {a idx ci j a1 : Nat} {t : FieldType} {fin : Bool} (hd : decode M.2.1 pc = .ok (.getfield idx, 3)) (e : pc + 3 = q) (F : bc_F M.1.cls idx ci j t fin) (hi : bc_iR ci j = true) (ha : tO a ci) (hr : GR a j = some a1) (kk : BGo G M KQ (hp gi) k n q ls (.ref (G.1 + a1) :: st)) : BGo G M KQ (hp gi) k n pc ls (.ref (G.1 + a) :: st) := go_getR q hd e F hi ha hr kk
theorem gp_putI (q : Nat) {a idx ci j : Nat} {t : FieldType} (hd : decode M.2.1 pc = .ok (.putfield idx, 3)) (e : pc + 3 = q) (F : bc_F M.1.cls idx ci j t false) (hi : bc_iR ci j = false) (ha : tO a ci) (hn : narrow t (.int x) = .int x) (hf : fits t (.int x) = true) (kk : BGo G M KQ (hp (wI gi a j x)) k n q ls st) : BGo G M KQ (hp gi) k n pc ls (.int x :: .ref (G.1 + a) :: st) := go_putI q hd e F hi ha hn hf kk
theorem gp_iald (q : Nat) {a len : Nat} (hd : decode M.2.1 pc = .ok (.iaload, 1)) (e : pc + 1 = q) (ha : tA a 20 len) (hin : vp_in x len) (kk : BGo G M KQ (hp gi) k n q ls (.int (gi a x.toNatClampNeg) :: st)) : BGo G M KQ (hp gi) k n pc ls (.int x :: .ref (G.1 + a) :: st) := go_iald q hd e ha hin kk
theorem gp_cald (q : Nat) {a len : Nat} (hd : decode M.2.1 pc = .ok (.caload, 1)) (e : pc + 1 = q) (ha : tA a 21 len) (hin : vp_in x len) (kk : BGo G M KQ (hp gi) k n q ls (.int (gi a x.toNatClampNeg) :: st)) : BGo G M KQ (hp gi) k n pc ls (.int x :: .ref (G.1 + a) :: st) := go_cald q hd e ha hin kk
theorem gp_iast (q : Nat) {a len : Nat} (hd : decode M.2.1 pc = .ok (.iastore, 1)) (e : pc + 1 = q) (ha : tA a 20 len) (hin : vp_in y len) (kk : BGo G M KQ (hp (wI gi a y.toNatClampNeg x)) k n q ls st) : BGo G M KQ (hp gi) k n pc ls (.int x :: .int y :: .ref (G.1 + a) :: st) := go_iast q hd e ha hin kk
theorem gp_cast (q : Nat) {a len : Nat} (hd : decode M.2.1 pc = .ok (.castore, 1)) (e : pc + 1 = q) (ha : tA a 21 len) (hin : vp_in y len) (kk : BGo G M KQ (hp (wI gi a y.toNatClampNeg (vp_nar .char x))) k n q ls st) : BGo G M KQ (hp gi) k n pc ls (.int x :: .int y :: .ref (G.1 + a) :: st) := go_cast q hd e ha hin kk
/-- the index is known as a number -/
theorem gp_ialdN (q : Nat) {a len i : Nat} (hd : decode M.2.1 pc = .ok (.iaload, 1)) (e : pc + 1 = q) (ha : tA a 20 len) (hx : x = nI i) (hi : i < len) (hlen : len < 2 ^ 31) (kk : BGo G M KQ (hp gi) k n q ls (.int (gi a i) :: st)) : BGo G M KQ (hp gi) k n pc ls (.int x :: .ref (G.1 + a) :: st) := by
  subst hx
  refine go_iald q hd e ha (vp_in_nI hi hlen) ?_
  rw [nI_clamp (Nat.lt_trans hi hlen)]
  exact kk
theorem gp_iastN (q : Nat) {a len i : Nat} (hd : decode M.2.1 pc = .ok (.iastore, 1)) (e : pc + 1 = q) (ha : tA a 20 len) (hy : y = nI i) (hi : i < len) (hlen : len < 2 ^ 31) (kk : BGo G M KQ (hp (wI gi a i x)) k n q ls st) : BGo G M KQ (hp gi) k n pc ls (.int x :: .int y :: .ref (G.1 + a) :: st) := by
  subst hy
  refine go_iast q hd e ha (vp_in_nI hi hlen) ?_
  rw [nI_clamp (Nat.lt_trans hi hlen)]
  exact kk
theorem gp_aald (q : Nat) {a len t a1 i : Nat} {Cn : String} (hd : decode M.2.1 pc = .ok (.aaload, 1)) (e : pc + 1 = q) (ha : tA a t len) (h2 : 22 ≤ t) (ht : (bc_ty G)[t - 20]? = some (G.2.1 (t - 20), .object Cn)) (hx : x = nI i) (hi : i < len) (hlen : len < 2 ^ 31) (hr : GR a i = some a1) (kk : BGo G M KQ (hp gi) k n q ls (.ref (G.1 + a1) :: st)) : BGo G M KQ (hp gi) k n pc ls (.int x :: .ref (G.1 + a) :: st) := by
  subst hx
  refine go_aald q hd e ha h2 ht (vp_in_nI hi hlen) ?_ kk
  rw [nI_clamp (Nat.lt_trans hi hlen)]
  exact hr
theorem gp_alen (q : Nat) {a len t : Nat} {v : Int32} (hd : decode M.2.1 pc = .ok (.arraylength, 1)) (e : pc + 1 = q) (ha : tA a t len) (h1 : 20 ≤ t) (h2 : t < 28) (hv : Int32.ofNat len = v) (kk : BGo G M KQ (hp gi) k n q ls (.int v :: st)) : BGo G M KQ (hp gi) k n pc ls (.ref (G.1 + a) :: st) := go_alen q hd e ha h1 h2 hv kk
theorem gp_copy (q : Nat) {a0 a1 len0 len1 w idx : Nat} (hd : decode M.2.1 pc = .ok (.invokestatic idx, 3)) (e : pc + 3 = q) (hl : Cond.methodLink M.1.cls idx arraycopyName ∈ lwG) (hna : Cond.native arraycopyName ∈ lwG) (hs : Cond.static arraycopyName ∈ lwG) (hi : Cond.initialized "java/lang/System" ∈ lwG) (h0 : tA a0 20 len0) (h1 : tA a1 20 len1) (hx : x = nI w) (hw0 : w ≤ len0) (hw1 : w ≤ len1) (hw2 : w < 100000) (hf : 1 ≤ M.2.2.2.2.1) (hw : (st.map fun v => v.category).sum + (nativeFrameWords "java/lang/System" "arraycopy" 5 + 11) ≤ M.2.2.2.2.2.1) (kk : BGo G M KQ (hp (wA gi a1 (va_cpy (gi a0) (gi a1) 0 0 w))) k n q ls st) : BGo G M KQ (hp gi) k n pc ls (.int x :: .int 0 :: .ref (G.1 + a1) :: .int 0 :: .ref (G.1 + a0) :: st) := go_copy q hd e hl hna hs hi h0 h1 hx hw0 hw1 hw2 hf hw kk
end GP
theorem pI_of {x r : Int32} {h h1 : BcH} (e : x = r) (eh : h = h1) : pI r h1 (some (.int x)) h := ⟨by rw [e], eh⟩
theorem pA_of {x r : Nat} {h h1 : BcH} (e : x = r) (eh : h = h1) : pA r h1 (some (.ref x)) h := ⟨by rw [e], eh⟩
end
section
/-! THE LEAVES -/
theorem go_top {G : BcG} {M : BcM} {KQ : BcK} {h : BcH} {k n pc : Nat} {ls : List (Option Value)} {st : List Value} {x y : Int32} (e : x = y) (kk : BGo G M KQ h k n pc ls (.int y :: st)) : BGo G M KQ h k n pc ls (.int x :: st) := by rw [e]; exact kk
theorem idx_of {x : Int32} {len : Nat} (hl : len < 2 ^ 31) (h1 : ¬ x < 0) (h2 : ¬ nI len ≤ x) : ∃ j : Nat, j < len ∧ x = nI j := by
  obtain h | h | ⟨j, hj, hx⟩ := pk_ix x hl
  · exact absurd h h1
  · exact absurd h h2
  · exact ⟨j, hj, hx⟩
theorem vp_in_g {x : Int32} {len : Nat} (hl : len < 2 ^ 31) (h1 : ¬ x < 0) (h2 : ¬ nI len ≤ x) : vp_in x len := by
  obtain ⟨j, hj, rfl⟩ := idx_of hl h1 h2
  exact vp_in_nI hj hl
theorem bI_1 {c : Prop} (h : c) : 1 = bI c := by rw [bI, if_pos h]
theorem bI_0 {c : Prop} (h : ¬ c) : 0 = bI c := by rw [bI, if_neg h]
def entF (gi : GI) (a len : Nat) (i : Int32) : Int32 := if ¬ i < 0 ∧ ¬ nI len ≤ i then gi a i.toNatClampNeg else 0
def putF (gi : GI) (a len : Nat) (i v : Int32) : GI := if ¬ i < 0 ∧ ¬ nI len ≤ i then wI gi a i.toNatClampNeg v else gi
theorem entF_n {gi : GI} {a len i : Nat} (hi : i < len) (hl : len < 2 ^ 31) : entF gi a len (nI i) = gi a i := by
  rw [entF, if_pos ⟨nI_pos (by omega), nI_ge hi hl⟩, nI_clamp (by omega)]
theorem putF_n {gi : GI} {a len i : Nat} {v : Int32} (hi : i < len) (hl : len < 2 ^ 31) : putF gi a len (nI i) v = wI gi a i v := by
  rw [putF, if_pos ⟨nI_pos (by omega), nI_ge hi hl⟩, nI_clamp (by omega)]
theorem ct_isWithin_dummy : True := trivial
set_option maxHeartbeats 4000000 in
set_option maxRecDepth 100000 in
theorem ct_isWithin (G : BcG) (gi : GI) (x a b : Int32) : Ct G mX8_isWithin [.int x, .int a, .int b] (hp gi) (pI (bI (a ≤ x ∧ x ≤ b)) (hp gi)) := by
  refine ct_of [some (.int x), some (.int a), some (.int b)] w_1 (by decide) rfl (Nat.le_of_ble_eq_true rfl) rfl ?_
  refine go_iload_n 1 dX8_isWithin_0 rfl rfl ls_0 ?_
  refine go_iload_n 2 dX8_isWithin_1 rfl rfl (ls_s ls_0) ?_
  refine go_icmp_lt 14 5 dX8_isWithin_2 (by decide) rfl (fun c_2 => ?_) (fun c_2 => ?_)
  · refine go_iconst 15 (v := 0) dX8_isWithin_14 rfl (by decide) ?_
    exact go_ret_z dX8_isWithin_15 rfl rfl rfl rfl (pI_of (bI_0 (c := a ≤ x ∧ x ≤ b) (fun z => absurd c_2 (Int32.not_lt.mpr z.1))) rfl)
  · refine go_iload_n 6 dX8_isWithin_5 rfl rfl ls_0 ?_
    refine go_iload_n 7 dX8_isWithin_6 rfl rfl (ls_s (ls_s ls_0)) ?_
    refine go_icmp_gt 14 10 dX8_isWithin_7 (by decide) rfl (fun c_7 => ?_) (fun c_7 => ?_)
    · refine go_iconst 15 (v := 0) dX8_isWithin_14 rfl (by decide) ?_
      exact go_ret_z dX8_isWithin_15 rfl rfl rfl rfl (pI_of (bI_0 (c := a ≤ x ∧ x ≤ b) (fun z => absurd c_7 (Int32.not_lt.mpr z.2))) rfl)
    · refine go_iconst 11 (v := 1) dX8_isWithin_10 rfl (by decide) ?_
      refine go_goto 15 dX8_isWithin_11 (by decide) ?_
      exact go_ret_z dX8_isWithin_15 rfl rfl rfl rfl (pI_of (bI_1 (c := a ≤ x ∧ x ≤ b) ⟨Int32.not_lt.mp c_2, Int32.not_lt.mp c_7⟩) rfl)
set_option maxHeartbeats 4000000 in
set_option maxRecDepth 100000 in
theorem ct_entryAt (G : BcG) (gi : GI) (a len : Nat) (x : Int32) (ha : tA a 20 len) (hl : len < 2 ^ 31) : Ct G mX8_entryAt [.ref (G.1 + a), .int x] (hp gi) (pI (entF gi a len x) (hp gi)) := by
  refine ct_of [some (.ref (G.1 + a)), some (.int x)] w_1 (by decide) rfl (Nat.le_of_ble_eq_true rfl) rfl ?_
  refine go_iload_n 1 dX8_entryAt_0 rfl rfl (ls_s ls_0) ?_
  refine go_if_lt 16 4 dX8_entryAt_1 (by decide) rfl (fun c_1 => ?_) (fun c_1 => ?_)
  · refine go_iconst 17 (v := 0) dX8_entryAt_16 rfl (by decide) ?_
    exact go_ret_i dX8_entryAt_17 rfl rfl rfl (pI_of (by simp [entF, *]) rfl)
  · refine go_iload_n 5 dX8_entryAt_4 rfl rfl (ls_s ls_0) ?_
    refine go_aload_n 6 dX8_entryAt_5 rfl rfl ls_0 ?_
    refine gp_alen 7 (v := nI len) dX8_entryAt_6 rfl ha (by decide) (by decide) rfl ?_
    refine go_icmp_ge 16 10 dX8_entryAt_7 (by decide) rfl (fun c_7 => ?_) (fun c_7 => ?_)
    · refine go_iconst 17 (v := 0) dX8_entryAt_16 rfl (by decide) ?_
      exact go_ret_i dX8_entryAt_17 rfl rfl rfl (pI_of (by simp [entF, *]) rfl)
    · refine go_aload_n 11 dX8_entryAt_10 rfl rfl ls_0 ?_
      refine go_iload_n 12 dX8_entryAt_11 rfl rfl (ls_s ls_0) ?_
      refine gp_iald 13 dX8_entryAt_12 rfl ha (vp_in_g hl c_1 c_7) ?_
      refine go_goto 17 dX8_entryAt_13 (by decide) ?_
      exact go_ret_i dX8_entryAt_17 rfl rfl rfl (pI_of (by simp [entF, *]) rfl)
set_option maxHeartbeats 4000000 in
set_option maxRecDepth 100000 in
theorem ct_putEntry (G : BcG) (gi : GI) (a len : Nat) (x y : Int32) (ha : tA a 20 len) (hl : len < 2 ^ 31) : Ct G mX8_putEntry [.ref (G.1 + a), .int x, .int y] (hp gi) (pV (hp (putF gi a len x y))) := by
  refine ct_of [some (.ref (G.1 + a)), some (.int x), some (.int y)] w_1 (by decide) rfl (Nat.le_of_ble_eq_true rfl) rfl ?_
  refine go_iload_n 1 dX8_putEntry_0 rfl rfl (ls_s ls_0) ?_
  refine go_if_lt 14 4 dX8_putEntry_1 (by decide) rfl (fun c_1 => ?_) (fun c_1 => ?_)
  · exact go_ret_v dX8_putEntry_14 rfl rfl rfl ⟨rfl, by simp [putF, *]⟩
  · refine go_iload_n 5 dX8_putEntry_4 rfl rfl (ls_s ls_0) ?_
    refine go_aload_n 6 dX8_putEntry_5 rfl rfl ls_0 ?_
    refine gp_alen 7 (v := nI len) dX8_putEntry_6 rfl ha (by decide) (by decide) rfl ?_
    refine go_icmp_ge 14 10 dX8_putEntry_7 (by decide) rfl (fun c_7 => ?_) (fun c_7 => ?_)
    · exact go_ret_v dX8_putEntry_14 rfl rfl rfl ⟨rfl, by simp [putF, *]⟩
    · refine go_aload_n 11 dX8_putEntry_10 rfl rfl ls_0 ?_
      refine go_iload_n 12 dX8_putEntry_11 rfl rfl (ls_s ls_0) ?_
      refine go_iload_n 13 dX8_putEntry_12 rfl rfl (ls_s (ls_s ls_0)) ?_
      refine gp_iast 14 dX8_putEntry_13 rfl ha (vp_in_g hl c_1 c_7) ?_
      exact go_ret_v dX8_putEntry_14 rfl rfl rfl ⟨rfl, by simp [putF, *]⟩
def rsF (x : Int32) : Int32 := if x = -1 then 2 else if 0 ≤ x then 0 else 3
set_option maxHeartbeats 4000000 in
set_option maxRecDepth 100000 in
theorem ct_reasonOf (G : BcG) (gi : GI) (x : Int32) : Ct G mX8_reasonOf [.int x] (hp gi) (pI (rsF x) (hp gi)) := by
  refine ct_of [some (.int x)] w_1 (by decide) rfl (Nat.le_of_ble_eq_true rfl) rfl ?_
  refine go_iload_n 1 dX8_reasonOf_0 rfl rfl ls_0 ?_
  refine go_iconst 2 (v := (-1)) dX8_reasonOf_1 rfl (by decide) ?_
  refine go_icmp_ne 7 5 dX8_reasonOf_2 (by decide) rfl (fun c_2 => ?_) (fun c_2 => ?_)
  · refine go_iload_n 8 dX8_reasonOf_7 rfl rfl ls_0 ?_
    refine go_if_ge 15 11 dX8_reasonOf_8 (by decide) rfl (fun c_8 => ?_) (fun c_8 => ?_)
    · refine go_iconst 16 (v := 0) dX8_reasonOf_15 rfl (by decide) ?_
      exact go_ret_i dX8_reasonOf_16 rfl rfl rfl (pI_of (by simp [rsF, *]) rfl)
    · refine go_iconst 12 (v := 3) dX8_reasonOf_11 rfl (by decide) ?_
      refine go_goto 16 dX8_reasonOf_12 (by decide) ?_
      exact go_ret_i dX8_reasonOf_16 rfl rfl rfl (pI_of (by simp [rsF, *]) rfl)
  · refine go_iconst 6 (v := 2) dX8_reasonOf_5 rfl (by decide) ?_
    exact go_ret_i dX8_reasonOf_6 rfl rfl rfl (pI_of (by simp [rsF, *]) rfl)
def dS (gi : GI) (k : Nat) (j : Nat) : Int32 := gi k j
set_option maxHeartbeats 4000000 in
set_option maxRecDepth 100000 in
theorem ct_Stage_detail (G : BcG) (gi : GI) (k : Nat) (hk : tO k 6) (j : Nat) (hj : j < 4) : Ct G mX6_detail [.ref (G.1 + k), .int (nI j)] (hp gi) (pI (gi k j) (hp gi)) := by
  obtain rfl | rfl | rfl | rfl : j = 0 ∨ j = 1 ∨ j = 2 ∨ j = 3 := by omega
  · refine ct_of [some (.ref (G.1 + k)), some (.int (nI 0))] w_4 (by decide) rfl (Nat.le_of_ble_eq_true rfl) rfl ?_
    refine go_iload_n 1 dX6_detail_0 rfl rfl (ls_s ls_0) ?_
    refine go_tabIn 28 dX6_detail_1 (off := 27) (by decide +kernel) (by decide +kernel) (by decide +kernel) (by decide) ?_
    refine go_aload_n 29 dX6_detail_28 rfl rfl ls_0 ?_
    refine gp_getI 32 dX6_detail_29 rfl f_X6_7 rfl hk ?_
    exact go_ret_i dX6_detail_32 rfl rfl rfl (pI_of rfl rfl)
  · refine ct_of [some (.ref (G.1 + k)), some (.int (nI 1))] w_4 (by decide) rfl (Nat.le_of_ble_eq_true rfl) rfl ?_
    refine go_iload_n 1 dX6_detail_0 rfl rfl (ls_s ls_0) ?_
    refine go_tabIn 33 dX6_detail_1 (off := 32) (by decide +kernel) (by decide +kernel) (by decide +kernel) (by decide) ?_
    refine go_aload_n 34 dX6_detail_33 rfl rfl ls_0 ?_
    refine gp_getI 37 dX6_detail_34 rfl f_X6_13 rfl hk ?_
    exact go_ret_i dX6_detail_37 rfl rfl rfl (pI_of rfl rfl)
  · refine ct_of [some (.ref (G.1 + k)), some (.int (nI 2))] w_4 (by decide) rfl (Nat.le_of_ble_eq_true rfl) rfl ?_
    refine go_iload_n 1 dX6_detail_0 rfl rfl (ls_s ls_0) ?_
    refine go_tabIn 38 dX6_detail_1 (off := 37) (by decide +kernel) (by decide +kernel) (by decide +kernel) (by decide) ?_
    refine go_aload_n 39 dX6_detail_38 rfl rfl ls_0 ?_
    refine gp_getI 42 dX6_detail_39 rfl f_X6_16 rfl hk ?_
    exact go_ret_i dX6_detail_42 rfl rfl rfl (pI_of rfl rfl)
  · refine ct_of [some (.ref (G.1 + k)), some (.int (nI 3))] w_4 (by decide) rfl (Nat.le_of_ble_eq_true rfl) rfl ?_
    refine go_iload_n 1 dX6_detail_0 rfl rfl (ls_s ls_0) ?_
    refine go_tabOut 43 dX6_detail_1 (by decide +kernel) (by decide) ?_
    refine go_aload_n 44 dX6_detail_43 rfl rfl ls_0 ?_
    refine gp_getI 47 dX6_detail_44 rfl f_X6_19 rfl hk ?_
    exact go_ret_i dX6_detail_47 rfl rfl rfl (pI_of rfl rfl)
set_option maxHeartbeats 4000000 in
set_option maxRecDepth 100000 in
theorem ct_Vessel_detail (G : BcG) (gi : GI) (k : Nat) (hk : tO k 7) (j : Nat) (hj : j < 5) : Ct G mX7_detail [.ref (G.1 + k), .int (nI j)] (hp gi) (pI (gi k j) (hp gi)) := by
  obtain rfl | rfl | rfl | rfl | rfl : j = 0 ∨ j = 1 ∨ j = 2 ∨ j = 3 ∨ j = 4 := by omega
  · refine ct_of [some (.ref (G.1 + k)), some (.int (nI 0))] w_5 (by decide) rfl (Nat.le_of_ble_eq_true rfl) rfl ?_
    refine go_iload_n 1 dX7_detail_0 rfl rfl (ls_s ls_0) ?_
    refine go_tabIn 32 dX7_detail_1 (off := 31) (by decide +kernel) (by decide +kernel) (by decide +kernel) (by decide) ?_
    refine go_aload_n 33 dX7_detail_32 rfl rfl ls_0 ?_
    refine gp_getI 36 dX7_detail_33 rfl f_X7_18 rfl hk ?_
    exact go_ret_i dX7_detail_36 rfl rfl rfl (pI_of rfl rfl)
  · refine ct_of [some (.ref (G.1 + k)), some (.int (nI 1))] w_5 (by decide) rfl (Nat.le_of_ble_eq_true rfl) rfl ?_
    refine go_iload_n 1 dX7_detail_0 rfl rfl (ls_s ls_0) ?_
    refine go_tabIn 37 dX7_detail_1 (off := 36) (by decide +kernel) (by decide +kernel) (by decide +kernel) (by decide) ?_
    refine go_aload_n 38 dX7_detail_37 rfl rfl ls_0 ?_
    refine gp_getI 41 dX7_detail_38 rfl f_X7_21 rfl hk ?_
    exact go_ret_i dX7_detail_41 rfl rfl rfl (pI_of rfl rfl)
  · refine ct_of [some (.ref (G.1 + k)), some (.int (nI 2))] w_5 (by decide) rfl (Nat.le_of_ble_eq_true rfl) rfl ?_
    refine go_iload_n 1 dX7_detail_0 rfl rfl (ls_s ls_0) ?_
    refine go_tabIn 42 dX7_detail_1 (off := 41) (by decide +kernel) (by decide +kernel) (by decide +kernel) (by decide) ?_
    refine go_aload_n 43 dX7_detail_42 rfl rfl ls_0 ?_
    refine gp_getI 46 dX7_detail_43 rfl f_X7_9 rfl hk ?_
    exact go_ret_i dX7_detail_46 rfl rfl rfl (pI_of rfl rfl)
  · refine ct_of [some (.ref (G.1 + k)), some (.int (nI 3))] w_5 (by decide) rfl (Nat.le_of_ble_eq_true rfl) rfl ?_
    refine go_iload_n 1 dX7_detail_0 rfl rfl (ls_s ls_0) ?_
    refine go_tabIn 47 dX7_detail_1 (off := 46) (by decide +kernel) (by decide +kernel) (by decide +kernel) (by decide) ?_
    refine go_aload_n 48 dX7_detail_47 rfl rfl ls_0 ?_
    refine gp_getI 51 dX7_detail_48 rfl f_X7_15 rfl hk ?_
    exact go_ret_i dX7_detail_51 rfl rfl rfl (pI_of rfl rfl)
  · refine ct_of [some (.ref (G.1 + k)), some (.int (nI 4))] w_5 (by decide) rfl (Nat.le_of_ble_eq_true rfl) rfl ?_
    refine go_iload_n 1 dX7_detail_0 rfl rfl (ls_s ls_0) ?_
    refine go_tabOut 52 dX7_detail_1 (by decide +kernel) (by decide) ?_
    refine go_aload_n 53 dX7_detail_52 rfl rfl ls_0 ?_
    refine gp_getI 56 dX7_detail_53 rfl f_X7_24 rfl hk ?_
    exact go_ret_i dX7_detail_56 rfl rfl rfl (pI_of rfl rfl)
/-- Math.max(0, x) as the class has it -/
def mx0 (x : Int32) : Int32 := if 0 < x then x else 0
def dL (gi : GI) (k : Nat) (t : Int32) (j : Nat) : Int32 := if j = 2 then mx0 (gi k 2 - t) else gi k j
noncomputable def dB (gi : GI) (k : Nat) (t : Int32) (j : Nat) : Int32 := match j with
  | 0 => gi k 1 | 1 => gi k 4 | 2 => gi k 7 | 3 => gi k 8 | 4 => gi k 9 | 5 => mx0 (t - gi k 10) | 6 => bI (gi k 11 ≤ t) | 7 => bI (¬ gi k 6 = 0) | 8 => gi k 5 | 9 => gi k 11 | _ => gi k 12
set_option maxHeartbeats 4000000 in
set_option maxRecDepth 100000 in
theorem ct_Line_detail (G : BcG) (gi : GI) (k : Nat) (hk : tO k 2) (t : Int32) (j : Nat) (hj : j < 4) : Ct G mX2_detail [.ref (G.1 + k), .int (nI j), .int t] (hp gi) (pI (dL gi k t j) (hp gi)) := by
  obtain rfl | rfl | rfl | rfl : j = 0 ∨ j = 1 ∨ j = 2 ∨ j = 3 := by omega
  · refine ct_of [some (.ref (G.1 + k)), some (.int (nI 0)), some (.int t)] w_6 (by decide) rfl (Nat.le_of_ble_eq_true rfl) rfl ?_
    refine go_iload_n 1 dX2_detail_0 rfl rfl (ls_s ls_0) ?_
    refine go_tabIn 28 dX2_detail_1 (off := 27) (by decide +kernel) (by decide +kernel) (by decide +kernel) (by decide) ?_
    refine go_aload_n 29 dX2_detail_28 rfl rfl ls_0 ?_
    refine gp_getI 32 dX2_detail_29 rfl f_X2_7 rfl hk ?_
    exact go_ret_i dX2_detail_32 rfl rfl rfl (pI_of rfl rfl)
  · refine ct_of [some (.ref (G.1 + k)), some (.int (nI 1)), some (.int t)] w_6 (by decide) rfl (Nat.le_of_ble_eq_true rfl) rfl ?_
    refine go_iload_n 1 dX2_detail_0 rfl rfl (ls_s ls_0) ?_
    refine go_tabIn 33 dX2_detail_1 (off := 32) (by decide +kernel) (by decide +kernel) (by decide +kernel) (by decide) ?_
    refine go_aload_n 34 dX2_detail_33 rfl rfl ls_0 ?_
    refine gp_getI 37 dX2_detail_34 rfl f_X2_13 rfl hk ?_
    exact go_ret_i dX2_detail_37 rfl rfl rfl (pI_of rfl rfl)
  · refine ct_of [some (.ref (G.1 + k)), some (.int (nI 2)), some (.int t)] w_6 (by decide) rfl (Nat.le_of_ble_eq_true rfl) rfl ?_
    refine go_iload_n 1 dX2_detail_0 rfl rfl (ls_s ls_0) ?_
    refine go_tabIn 38 dX2_detail_1 (off := 37) (by decide +kernel) (by decide +kernel) (by decide +kernel) (by decide) ?_
    refine go_iconst 39 (v := 0) dX2_detail_38 rfl (by decide) ?_
    refine go_aload_n 40 dX2_detail_39 rfl rfl ls_0 ?_
    refine gp_getI 43 dX2_detail_40 rfl f_X2_16 rfl hk ?_
    refine go_iload_n 44 dX2_detail_43 rfl rfl (ls_s (ls_s ls_0)) ?_
    refine go_isub 45 dX2_detail_44 rfl ?_
    refine go_mmax 48 dX2_detail_45 rfl w_598 w_577 w_11 w_578 (by decide) (Nat.le_of_ble_eq_true rfl) (by decide) (by decide) ?_
    exact go_ret_i dX2_detail_48 rfl rfl rfl (pI_of rfl rfl)
  · refine ct_of [some (.ref (G.1 + k)), some (.int (nI 3)), some (.int t)] w_6 (by decide) rfl (Nat.le_of_ble_eq_true rfl) rfl ?_
    refine go_iload_n 1 dX2_detail_0 rfl rfl (ls_s ls_0) ?_
    refine go_tabOut 49 dX2_detail_1 (by decide +kernel) (by decide) ?_
    refine go_aload_n 50 dX2_detail_49 rfl rfl ls_0 ?_
    refine gp_getI 53 dX2_detail_50 rfl f_X2_19 rfl hk ?_
    exact go_ret_i dX2_detail_53 rfl rfl rfl (pI_of rfl rfl)
set_option maxHeartbeats 4000000 in
set_option maxRecDepth 100000 in
theorem ct_isFree (G : BcG) (gi : GI) (k : Nat) (hk : tO k 2) (t : Int32) : Ct G mX2_isFree [.ref (G.1 + k), .int t] (hp gi) (pI (bI (gi k 2 ≤ t)) (hp gi)) := by
  refine ct_of [some (.ref (G.1 + k)), some (.int t)] w_6 (by decide) rfl (Nat.le_of_ble_eq_true rfl) rfl ?_
  refine go_aload_n 1 dX2_isFree_0 rfl rfl ls_0 ?_
  refine gp_getI 4 dX2_isFree_1 rfl f_X2_16 rfl hk ?_
  refine go_iload_n 5 dX2_isFree_4 rfl rfl (ls_s ls_0) ?_
  refine go_icmp_gt 12 8 dX2_isFree_5 (by decide) rfl (fun c_5 => ?_) (fun c_5 => ?_)
  · refine go_iconst 13 (v := 0) dX2_isFree_12 rfl (by decide) ?_
    exact go_ret_z dX2_isFree_13 rfl rfl rfl rfl (pI_of (bI_0 (c := gi k 2 ≤ t) (Int32.not_le.mpr c_5)) rfl)
  · refine go_iconst 9 (v := 1) dX2_isFree_8 rfl (by decide) ?_
    refine go_goto 13 dX2_isFree_9 (by decide) ?_
    exact go_ret_z dX2_isFree_13 rfl rfl rfl rfl (pI_of (bI_1 (c := gi k 2 ≤ t) (Int32.not_lt.mp c_5)) rfl)
def jnM (x y : Int32) : Int32 := (1 : Int32) <<< (x &&& 31) ||| (1 : Int32) <<< (y &&& 31)
set_option maxHeartbeats 4000000 in
set_option maxRecDepth 100000 in
theorem ct_joins (G : BcG) (gi : GI) (k : Nat) (hk : tO k 2) (x y : Int32) : Ct G mX2_joins [.ref (G.1 + k), .int x, .int y] (hp gi) (pI (bI (gi k 0 &&& jnM x y = jnM x y)) (hp gi)) := by
  refine ct_of [some (.ref (G.1 + k)), some (.int x), some (.int y), none] w_6 (by decide) rfl (Nat.le_of_ble_eq_true rfl) rfl ?_
  refine go_iconst 1 (v := 1) dX2_joins_0 rfl (by decide) ?_
  refine go_iload_n 2 dX2_joins_1 rfl rfl (ls_s ls_0) ?_
  refine go_ishl 3 dX2_joins_2 rfl ?_
  refine go_iconst 4 (v := 1) dX2_joins_3 rfl (by decide) ?_
  refine go_iload_n 5 dX2_joins_4 rfl rfl (ls_s (ls_s ls_0)) ?_
  refine go_ishl 6 dX2_joins_5 rfl ?_
  refine go_ior 7 dX2_joins_6 rfl ?_
  refine go_istore_n 8 dX2_joins_7 rfl rfl (by decide) (st_s (st_s (st_s st_0))) ?_
  refine go_aload_n 9 dX2_joins_8 rfl rfl ls_0 ?_
  refine gp_getI 12 dX2_joins_9 rfl f_X2_7 rfl hk ?_
  refine go_iload_n 13 dX2_joins_12 rfl rfl (ls_s (ls_s (ls_s ls_0))) ?_
  refine go_iand 14 dX2_joins_13 rfl ?_
  refine go_iload_n 15 dX2_joins_14 rfl rfl (ls_s (ls_s (ls_s ls_0))) ?_
  refine go_icmp_ne 22 18 dX2_joins_15 (by decide) rfl (fun c_15 => ?_) (fun c_15 => ?_)
  · refine go_iconst 23 (v := 0) dX2_joins_22 rfl (by decide) ?_
    exact go_ret_z dX2_joins_23 rfl rfl rfl rfl (pI_of (bI_0 (c := gi k 0 &&& jnM x y = jnM x y) c_15) rfl)
  · refine go_iconst 19 (v := 1) dX2_joins_18 rfl (by decide) ?_
    refine go_goto 23 dX2_joins_19 (by decide) ?_
    exact go_ret_z dX2_joins_23 rfl rfl rfl rfl (pI_of (bI_1 (c := gi k 0 &&& jnM x y = jnM x y) c_15) rfl)
def mfF (sp m : Int32) : Int32 := if sp < 1 then 0 else (m + sp - 1) / sp
set_option maxHeartbeats 4000000 in
set_option maxRecDepth 100000 in
theorem ct_minutesFor (G : BcG) (gi : GI) (k : Nat) (hk : tO k 2) (m : Int32) : Ct G mX2_minutesFor [.ref (G.1 + k), .int m] (hp gi) (pI (mfF (gi k 1) m) (hp gi)) := by
  refine ct_of [some (.ref (G.1 + k)), some (.int m)] w_6 (by decide) rfl (Nat.le_of_ble_eq_true rfl) rfl ?_
  refine go_aload_n 1 dX2_minutesFor_0 rfl rfl ls_0 ?_
  refine gp_getI 4 dX2_minutesFor_1 rfl f_X2_13 rfl hk ?_
  refine go_iconst 5 (v := 1) dX2_minutesFor_4 rfl (by decide) ?_
  refine go_icmp_ge 12 8 dX2_minutesFor_5 (by decide) rfl (fun c_5 => ?_) (fun c_5 => ?_)
  · refine go_iload_n 13 dX2_minutesFor_12 rfl rfl (ls_s ls_0) ?_
    refine go_aload_n 14 dX2_minutesFor_13 rfl rfl ls_0 ?_
    refine gp_getI 17 dX2_minutesFor_14 rfl f_X2_13 rfl hk ?_
    refine go_iadd 18 dX2_minutesFor_17 rfl ?_
    refine go_iconst 19 (v := 1) dX2_minutesFor_18 rfl (by decide) ?_
    refine go_isub 20 dX2_minutesFor_19 rfl ?_
    refine go_aload_n 21 dX2_minutesFor_20 rfl rfl ls_0 ?_
    refine gp_getI 24 dX2_minutesFor_21 rfl f_X2_13 rfl hk ?_
    refine go_idiv 25 dX2_minutesFor_24 rfl (fun z => by rw [z] at c_5; exact absurd c_5 (by decide)) ?_
    exact go_ret_i dX2_minutesFor_25 rfl rfl rfl (pI_of (by rw [mfF, if_neg (Int32.not_lt.mpr c_5)]) rfl)
  · refine go_iconst 9 (v := 0) dX2_minutesFor_8 rfl (by decide) ?_
    refine go_goto 25 dX2_minutesFor_9 (by decide) ?_
    exact go_ret_i dX2_minutesFor_25 rfl rfl rfl (pI_of (by rw [mfF, if_pos (Int32.not_le.mp c_5)]) rfl)
set_option maxHeartbeats 4000000 in
set_option maxRecDepth 100000 in
theorem ct_suits (G : BcG) (gi : GI) (k : Nat) (hk : tO k 7) (x m : Int32) : Ct G mX7_suits [.ref (G.1 + k), .int x, .int m] (hp gi) (pI (bI (gi k 0 = x ∧ m ≤ gi k 1)) (hp gi)) := by
  refine ct_of [some (.ref (G.1 + k)), some (.int x), some (.int m)] w_5 (by decide) rfl (Nat.le_of_ble_eq_true rfl) rfl ?_
  refine go_aload_n 1 dX7_suits_0 rfl rfl ls_0 ?_
  refine gp_getI 4 dX7_suits_1 rfl f_X7_18 rfl hk ?_
  refine go_iload_n 5 dX7_suits_4 rfl rfl (ls_s ls_0) ?_
  refine go_icmp_ne 20 8 dX7_suits_5 (by decide) rfl (fun c_5 => ?_) (fun c_5 => ?_)
  · refine go_iconst 21 (v := 0) dX7_suits_20 rfl (by decide) ?_
    exact go_ret_z dX7_suits_21 rfl rfl rfl rfl (pI_of (bI_0 (c := gi k 0 = x ∧ m ≤ gi k 1) (fun z => c_5 z.1)) rfl)
  · refine go_aload_n 9 dX7_suits_8 rfl rfl ls_0 ?_
    refine gp_getI 12 dX7_suits_9 rfl f_X7_21 rfl hk ?_
    refine go_iload_n 13 dX7_suits_12 rfl rfl (ls_s (ls_s ls_0)) ?_
    refine go_icmp_lt 20 16 dX7_suits_13 (by decide) rfl (fun c_13 => ?_) (fun c_13 => ?_)
    · refine go_iconst 21 (v := 0) dX7_suits_20 rfl (by decide) ?_
      exact go_ret_z dX7_suits_21 rfl rfl rfl rfl (pI_of (bI_0 (c := gi k 0 = x ∧ m ≤ gi k 1) (fun z => absurd c_13 (Int32.not_lt.mpr z.2))) rfl)
    · refine go_iconst 17 (v := 1) dX7_suits_16 rfl (by decide) ?_
      refine go_goto 21 dX7_suits_17 (by decide) ?_
      exact go_ret_z dX7_suits_21 rfl rfl rfl rfl (pI_of (bI_1 (c := gi k 0 = x ∧ m ≤ gi k 1) ⟨c_5, Int32.not_lt.mp c_13⟩) rfl)
set_option maxHeartbeats 4000000 in
set_option maxRecDepth 100000 in
theorem ct_canTake (G : BcG) (gi : GI) (k : Nat) (hk : tO k 7) (x m : Int32) : Ct G mX7_canTake [.ref (G.1 + k), .int x, .int m] (hp gi) (pI (bI (gi k 2 = -1 ∧ gi k 0 = x ∧ m ≤ gi k 1)) (hp gi)) := by
  refine ct_of [some (.ref (G.1 + k)), some (.int x), some (.int m)] w_5 (by decide) rfl (Nat.le_of_ble_eq_true rfl) rfl ?_
  refine go_aload_n 1 dX7_canTake_0 rfl rfl ls_0 ?_
  refine gp_getI 4 dX7_canTake_1 rfl f_X7_9 rfl hk ?_
  refine go_iconst 5 (v := (-1)) dX7_canTake_4 rfl (by decide) ?_
  refine go_icmp_ne 21 8 dX7_canTake_5 (by decide) rfl (fun c_5 => ?_) (fun c_5 => ?_)
  · refine go_iconst 22 (v := 0) dX7_canTake_21 rfl (by decide) ?_
    exact go_ret_z dX7_canTake_22 rfl rfl rfl rfl (pI_of (bI_0 (c := gi k 2 = -1 ∧ gi k 0 = x ∧ m ≤ gi k 1) (fun z => c_5 z.1)) rfl)
  · refine go_aload_n 9 dX7_canTake_8 rfl rfl ls_0 ?_
    refine go_iload_n 10 dX7_canTake_9 rfl rfl (ls_s ls_0) ?_
    refine go_iload_n 11 dX7_canTake_10 rfl rfl (ls_s (ls_s ls_0)) ?_
    refine go_VI (M' := mX7_suits) 14 dX7_canTake_11 rfl w_455 okX7_suits ⟨Nat.le_of_ble_eq_true rfl, Nat.le_of_ble_eq_true rfl⟩ (ct_suits G gi _ hk _ _) rfl rfl hk (by decide) rfl (kk := ?_)
    refine go_ifeq_b 21 17 dX7_canTake_14 (by decide) rfl (fun c_14 => ?_) (fun c_14 => ?_)
    · refine go_iconst 22 (v := 0) dX7_canTake_21 rfl (by decide) ?_
      exact go_ret_z dX7_canTake_22 rfl rfl rfl rfl (pI_of (bI_0 (c := gi k 2 = -1 ∧ gi k 0 = x ∧ m ≤ gi k 1) (fun z => c_14 z.2)) rfl)
    · refine go_iconst 18 (v := 1) dX7_canTake_17 rfl (by decide) ?_
      refine go_goto 22 dX7_canTake_18 (by decide) ?_
      exact go_ret_z dX7_canTake_22 rfl rfl rfl rfl (pI_of (bI_1 (c := gi k 2 = -1 ∧ gi k 0 = x ∧ m ≤ gi k 1) ⟨c_5, c_14⟩) rfl)
set_option maxHeartbeats 4000000 in
set_option maxRecDepth 100000 in
theorem ct_isRipe (G : BcG) (gi : GI) (k : Nat) (hk : tO k 0) (t : Int32) : Ct G mX0_isRipe [.ref (G.1 + k), .int t] (hp gi) (pI (bI (gi k 11 ≤ t)) (hp gi)) := by
  refine ct_of [some (.ref (G.1 + k)), some (.int t)] w_7 (by decide) rfl (Nat.le_of_ble_eq_true rfl) rfl ?_
  refine go_iload_n 1 dX0_isRipe_0 rfl rfl (ls_s ls_0) ?_
  refine go_aload_n 2 dX0_isRipe_1 rfl rfl ls_0 ?_
  refine gp_getI 5 dX0_isRipe_2 rfl f_X0_44 rfl hk ?_
  refine go_icmp_lt 12 8 dX0_isRipe_5 (by decide) rfl (fun c_5 => ?_) (fun c_5 => ?_)
  · refine go_iconst 13 (v := 0) dX0_isRipe_12 rfl (by decide) ?_
    exact go_ret_z dX0_isRipe_13 rfl rfl rfl rfl (pI_of (bI_0 (c := gi k 11 ≤ t) (Int32.not_le.mpr c_5)) rfl)
  · refine go_iconst 9 (v := 1) dX0_isRipe_8 rfl (by decide) ?_
    refine go_goto 13 dX0_isRipe_9 (by decide) ?_
    exact go_ret_z dX0_isRipe_13 rfl rfl rfl rfl (pI_of (bI_1 (c := gi k 11 ≤ t) (Int32.not_lt.mp c_5)) rfl)
set_option maxHeartbeats 4000000 in
set_option maxRecDepth 100000 in
theorem ct_Batch_detail (G : BcG) (gi : GI) (k : Nat) (hk : tO k 0) (t : Int32) (j : Nat) (hj : j < 11) : Ct G mX0_detail [.ref (G.1 + k), .int (nI j), .int t] (hp gi) (pI (dB gi k t j) (hp gi)) := by
  obtain rfl | rfl | rfl | rfl | rfl | rfl | rfl | rfl | rfl | rfl | rfl : j = 0 ∨ j = 1 ∨ j = 2 ∨ j = 3 ∨ j = 4 ∨ j = 5 ∨ j = 6 ∨ j = 7 ∨ j = 8 ∨ j = 9 ∨ j = 10 := by omega
  · refine ct_of [some (.ref (G.1 + k)), some (.int (nI 0)), some (.int t)] w_7 (by decide) rfl (Nat.le_of_ble_eq_true rfl) rfl ?_
    refine go_iload_n 1 dX0_detail_0 rfl rfl (ls_s ls_0) ?_
    refine go_tabIn 56 dX0_detail_1 (off := 55) (by decide +kernel) (by decide +kernel) (by decide +kernel) (by decide) ?_
    refine go_aload_n 57 dX0_detail_56 rfl rfl ls_0 ?_
    refine gp_getI 60 dX0_detail_57 rfl f_X0_13 rfl hk ?_
    exact go_ret_i dX0_detail_60 rfl rfl rfl (pI_of rfl rfl)
  · refine ct_of [some (.ref (G.1 + k)), some (.int (nI 1)), some (.int t)] w_7 (by decide) rfl (Nat.le_of_ble_eq_true rfl) rfl ?_
    refine go_iload_n 1 dX0_detail_0 rfl rfl (ls_s ls_0) ?_
    refine go_tabIn 61 dX0_detail_1 (off := 60) (by decide +kernel) (by decide +kernel) (by decide +kernel) (by decide) ?_
    refine go_aload_n 62 dX0_detail_61 rfl rfl ls_0 ?_
    refine gp_getI 65 dX0_detail_62 rfl f_X0_23 rfl hk ?_
    exact go_ret_i dX0_detail_65 rfl rfl rfl (pI_of rfl rfl)
  · refine ct_of [some (.ref (G.1 + k)), some (.int (nI 2)), some (.int t)] w_7 (by decide) rfl (Nat.le_of_ble_eq_true rfl) rfl ?_
    refine go_iload_n 1 dX0_detail_0 rfl rfl (ls_s ls_0) ?_
    refine go_tabIn 66 dX0_detail_1 (off := 65) (by decide +kernel) (by decide +kernel) (by decide +kernel) (by decide) ?_
    refine go_aload_n 67 dX0_detail_66 rfl rfl ls_0 ?_
    refine gp_getI 70 dX0_detail_67 rfl f_X0_32 rfl hk ?_
    exact go_ret_i dX0_detail_70 rfl rfl rfl (pI_of rfl rfl)
  · refine ct_of [some (.ref (G.1 + k)), some (.int (nI 3)), some (.int t)] w_7 (by decide) rfl (Nat.le_of_ble_eq_true rfl) rfl ?_
    refine go_iload_n 1 dX0_detail_0 rfl rfl (ls_s ls_0) ?_
    refine go_tabIn 71 dX0_detail_1 (off := 70) (by decide +kernel) (by decide +kernel) (by decide +kernel) (by decide) ?_
    refine go_aload_n 72 dX0_detail_71 rfl rfl ls_0 ?_
    refine gp_getI 75 dX0_detail_72 rfl f_X0_35 rfl hk ?_
    exact go_ret_i dX0_detail_75 rfl rfl rfl (pI_of rfl rfl)
  · refine ct_of [some (.ref (G.1 + k)), some (.int (nI 4)), some (.int t)] w_7 (by decide) rfl (Nat.le_of_ble_eq_true rfl) rfl ?_
    refine go_iload_n 1 dX0_detail_0 rfl rfl (ls_s ls_0) ?_
    refine go_tabIn 76 dX0_detail_1 (off := 75) (by decide +kernel) (by decide +kernel) (by decide +kernel) (by decide) ?_
    refine go_aload_n 77 dX0_detail_76 rfl rfl ls_0 ?_
    refine gp_getI 80 dX0_detail_77 rfl f_X0_38 rfl hk ?_
    exact go_ret_i dX0_detail_80 rfl rfl rfl (pI_of rfl rfl)
  · refine ct_of [some (.ref (G.1 + k)), some (.int (nI 5)), some (.int t)] w_7 (by decide) rfl (Nat.le_of_ble_eq_true rfl) rfl ?_
    refine go_iload_n 1 dX0_detail_0 rfl rfl (ls_s ls_0) ?_
    refine go_tabIn 81 dX0_detail_1 (off := 80) (by decide +kernel) (by decide +kernel) (by decide +kernel) (by decide) ?_
    refine go_iconst 82 (v := 0) dX0_detail_81 rfl (by decide) ?_
    refine go_iload_n 83 dX0_detail_82 rfl rfl (ls_s (ls_s ls_0)) ?_
    refine go_aload_n 84 dX0_detail_83 rfl rfl ls_0 ?_
    refine gp_getI 87 dX0_detail_84 rfl f_X0_41 rfl hk ?_
    refine go_isub 88 dX0_detail_87 rfl ?_
    refine go_mmax 91 dX0_detail_88 rfl w_576 w_577 w_11 w_578 (by decide) (Nat.le_of_ble_eq_true rfl) (by decide) (by decide) ?_
    exact go_ret_i dX0_detail_91 rfl rfl rfl (pI_of rfl rfl)
  · refine ct_of [some (.ref (G.1 + k)), some (.int (nI 6)), some (.int t)] w_7 (by decide) rfl (Nat.le_of_ble_eq_true rfl) rfl ?_
    refine go_iload_n 1 dX0_detail_0 rfl rfl (ls_s ls_0) ?_
    refine go_tabIn 92 dX0_detail_1 (off := 91) (by decide +kernel) (by decide +kernel) (by decide +kernel) (by decide) ?_
    refine go_aload_n 93 dX0_detail_92 rfl rfl ls_0 ?_
    refine go_iload_n 94 dX0_detail_93 rfl rfl (ls_s (ls_s ls_0)) ?_
    refine go_VI (M' := mX0_isRipe) 97 dX0_detail_94 rfl w_579 okX0_isRipe ⟨Nat.le_of_ble_eq_true rfl, Nat.le_of_ble_eq_true rfl⟩ (ct_isRipe G gi _ hk _) rfl rfl hk (by decide) rfl (kk := ?_)
    refine go_ifeq_b 104 100 dX0_detail_97 (by decide) rfl (fun c_97 => ?_) (fun c_97 => ?_)
    · refine go_iconst 105 (v := 0) dX0_detail_104 rfl (by decide) ?_
      exact go_ret_i dX0_detail_105 rfl rfl rfl (pI_of (bI_0 (c := gi k 11 ≤ t) c_97) rfl)
    · refine go_iconst 101 (v := 1) dX0_detail_100 rfl (by decide) ?_
      refine go_goto 105 dX0_detail_101 (by decide) ?_
      exact go_ret_i dX0_detail_105 rfl rfl rfl (pI_of (bI_1 (c := gi k 11 ≤ t) c_97) rfl)
  · refine ct_of [some (.ref (G.1 + k)), some (.int (nI 7)), some (.int t)] w_7 (by decide) rfl (Nat.le_of_ble_eq_true rfl) rfl ?_
    refine go_iload_n 1 dX0_detail_0 rfl rfl (ls_s ls_0) ?_
    refine go_tabIn 106 dX0_detail_1 (off := 105) (by decide +kernel) (by decide +kernel) (by decide +kernel) (by decide) ?_
    refine go_aload_n 107 dX0_detail_106 rfl rfl ls_0 ?_
    refine gp_getI 110 dX0_detail_107 rfl f_X0_29 rfl hk ?_
    refine go_if_eq 117 113 dX0_detail_110 (by decide) rfl (fun c_110 => ?_) (fun c_110 => ?_)
    · refine go_iconst 118 (v := 0) dX0_detail_117 rfl (by decide) ?_
      exact go_ret_i dX0_detail_118 rfl rfl rfl (pI_of (bI_0 (c := ¬ gi k 6 = 0) (fun z => z c_110)) rfl)
    · refine go_iconst 114 (v := 1) dX0_detail_113 rfl (by decide) ?_
      refine go_goto 118 dX0_detail_114 (by decide) ?_
      exact go_ret_i dX0_detail_118 rfl rfl rfl (pI_of (bI_1 (c := ¬ gi k 6 = 0) c_110) rfl)
  · refine ct_of [some (.ref (G.1 + k)), some (.int (nI 8)), some (.int t)] w_7 (by decide) rfl (Nat.le_of_ble_eq_true rfl) rfl ?_
    refine go_iload_n 1 dX0_detail_0 rfl rfl (ls_s ls_0) ?_
    refine go_tabIn 119 dX0_detail_1 (off := 118) (by decide +kernel) (by decide +kernel) (by decide +kernel) (by decide) ?_
    refine go_aload_n 120 dX0_detail_119 rfl rfl ls_0 ?_
    refine gp_getI 123 dX0_detail_120 rfl f_X0_26 rfl hk ?_
    exact go_ret_i dX0_detail_123 rfl rfl rfl (pI_of rfl rfl)
  · refine ct_of [some (.ref (G.1 + k)), some (.int (nI 9)), some (.int t)] w_7 (by decide) rfl (Nat.le_of_ble_eq_true rfl) rfl ?_
    refine go_iload_n 1 dX0_detail_0 rfl rfl (ls_s ls_0) ?_
    refine go_tabIn 124 dX0_detail_1 (off := 123) (by decide +kernel) (by decide +kernel) (by decide +kernel) (by decide) ?_
    refine go_aload_n 125 dX0_detail_124 rfl rfl ls_0 ?_
    refine gp_getI 128 dX0_detail_125 rfl f_X0_44 rfl hk ?_
    exact go_ret_i dX0_detail_128 rfl rfl rfl (pI_of rfl rfl)
  · refine ct_of [some (.ref (G.1 + k)), some (.int (nI 10)), some (.int t)] w_7 (by decide) rfl (Nat.le_of_ble_eq_true rfl) rfl ?_
    refine go_iload_n 1 dX0_detail_0 rfl rfl (ls_s ls_0) ?_
    refine go_tabOut 129 dX0_detail_1 (by decide +kernel) (by decide) ?_
    refine go_aload_n 130 dX0_detail_129 rfl rfl ls_0 ?_
    refine gp_getI 133 dX0_detail_130 rfl f_X0_47 rfl hk ?_
    exact go_ret_i dX0_detail_133 rfl rfl rfl (pI_of rfl rfl)
end
section
/-! WHAT THE SYSTEM IS: a row of numbers A, and what each call makes of it -/
abbrev AA : Type := Nat → Int32
def iN (x : Int32) : Nat := x.toNatClampNeg
theorem iN_n {n : Nat} (h : n < 2 ^ 31) : iN (nI n) = n := nI_clamp h
noncomputable def cIf {α : Type} (c : Prop) (a b : α) : α := @ite α c (Classical.propDecidable c) a b
theorem cIf_t {α : Type} {c : Prop} {a b : α} (h : c) : cIf c a b = a := by rw [cIf, if_pos h]
theorem cIf_f {α : Type} {c : Prop} {a b : α} (h : ¬ c) : cIf c a b = b := by rw [cIf, if_neg h]
theorem upd_eq (f : Nat → Int32) (k : Nat) (v : Int32) : upd f k v k = v := by simp [upd]
theorem upd_ne {f : Nat → Int32} {k j : Nat} {v : Int32} (h : j ≠ k) : upd f k v j = f j := by simp [upd, h]
def nR (A : AA) : Nat := iN (A 2)
def nV (A : AA) : Nat := iN (A 3)
def nL (A : AA) : Nat := iN (A 4)
def bR (A : AA) (b : Nat) : Nat := iN (A (145 + 9 * b + 1))
def bS (A : AA) (b : Nat) : Nat := iN (A (145 + 9 * b + 3))
def bV (A : AA) (b : Nat) : Nat := iN (A (145 + 9 * b + 4))
def stg (A : AA) (r k w : Nat) : Int32 := A (31 + 18 * r + 2 + 4 * k + w)
def nS (A : AA) (r : Nat) : Nat := iN (A (31 + 18 * r + 1))
def ovF (A : AA) (b : Nat) : Int32 := A (145 + 9 * b + 5) + stg A (bR A b) (bS A b) 1
def rpF (A : AA) (b : Nat) : Int32 := ovF A b + stg A (bR A b) (bS A b) 2
def gdF (A : AA) (b : Nat) : Int32 := ovF A b + stg A (bR A b) (bS A b) 3
def prF (A : AA) (b : Nat) : Int32 := A (31 + 18 * bR A b)
noncomputable def clF (A : AA) (v : Nat) (p : Int32) : Int32 := cIf (A (103 + 5 * v + 3) < 0) 0 (A (15 + 4 * iN (A (103 + 5 * v + 3)) + iN p))
def tkF (A : AA) (v : Nat) (kind mass : Int32) : Prop := A (103 + 5 * v + 2) < 0 ∧ A (103 + 5 * v) = kind ∧ mass ≤ A (103 + 5 * v + 1)
def live (A : AA) (b : Nat) : Prop := A (145 + 9 * b) = 1
def isRec (A : AA) (x : Int32) : Prop := ∃ r, r < nR A ∧ x = nI r
def isVes (A : AA) (x : Int32) : Prop := ∃ v, v < nV A ∧ x = nI v
def isLin (A : AA) (x : Int32) : Prop := ∃ k, k < nL A ∧ x = nI k
def isBat (A : AA) (x : Int32) : Prop := ∃ b, b < 6 ∧ x = nI b ∧ live A b
def inR (x a b : Int32) : Prop := a ≤ x ∧ x ≤ b
def lnOk (A : AA) (k : Nat) (both : Int32) : Prop := A (133 + 4 * k) &&& both = both ∧ A (133 + 4 * k + 2) ≤ A 5
noncomputable def lnF (A : AA) (both : Int32) : Nat → Nat → Int32
  | _, 0 => -4
  | i, n + 1 => cIf (lnOk A i both) (nI i) (lnF A both (i + 1) n)
def ltC (A : AA) (b v : Nat) : Prop := rpF A b ≤ A 5 ∧ bS A b + 1 < nS A (bR A b) ∧ tkF A v (stg A (bR A b) (bS A b + 1) 0) (A (145 + 9 * b + 2))
/-- the line by which a batch could be moved to a vessel now, or -4 -/
noncomputable def ltF (A : AA) (b v : Nat) : Int32 := cIf (ltC A b v) (lnF A (jnM (nI v) (A (145 + 9 * b + 4))) 0 (nL A)) (-4)
noncomputable def mtF (A : AA) (b v k : Nat) : Int32 := clF A v (prF A b) + (A (145 + 9 * b + 2) + A (133 + 4 * k + 1) - 1) / A (133 + 4 * k + 1)
noncomputable def lowF (A : AA) : Nat → Nat → Nat
  | i, 0 => i
  | i, n + 1 => cIf (live A i) (lowF A (i + 1) n) i
abbrev RA : Type := Int32 × AA
noncomputable def fRecipe (A : AA) (p : Int32) : RA := cIf (¬ inR p 0 3) (-1, A) (cIf (A 2 = 4) (-3, A) (A 2, upd (upd (upd A (31 + 18 * nR A) p) (31 + 18 * nR A + 1) 0) 2 (A 2 + 1)))
def isMade (A : AA) (x : Int32) : Prop := ∃ b, b < 6 ∧ live A b ∧ A (145 + 9 * b + 1) = x
noncomputable def fStage (A : AA) (x kind work least most : Int32) : RA :=
  cIf (¬ (isRec A x ∧ inR kind 0 2 ∧ inR work 1 200 ∧ inR least 0 500 ∧ inR most least 500)) (-1, A)
    (cIf (isMade A x) (-2, A) (cIf (A (31 + 18 * iN x + 1) = 4) (-3, A)
      (A (31 + 18 * iN x + 1), upd (upd (upd (upd (upd A (31 + 18 * iN x + 2 + 4 * nS A (iN x)) kind) (31 + 18 * iN x + 2 + 4 * nS A (iN x) + 1) work) (31 + 18 * iN x + 2 + 4 * nS A (iN x) + 2) least) (31 + 18 * iN x + 2 + 4 * nS A (iN x) + 3) most) (31 + 18 * iN x + 1) (A (31 + 18 * iN x + 1) + 1))))
noncomputable def fVessel (A : AA) (kind size : Int32) : RA :=
  cIf (¬ (inR kind 0 2 ∧ inR size 1 999)) (-1, A) (cIf (A 3 = 6) (-3, A)
    (A 3, upd (upd (upd (upd (upd (upd A (103 + 5 * nV A) kind) (103 + 5 * nV A + 1) size) (103 + 5 * nV A + 2) (-1)) (103 + 5 * nV A + 3) (-1)) (103 + 5 * nV A + 4) 0) 3 (A 3 + 1)))
/-- a set of at least two of the vessels that there are -/
def setOk (A : AA) (x : Int32) : Prop := ∃ s : Nat, s < 2 ^ nV A ∧ x = nI s ∧ 2 ≤ (s % 2 + s / 2 % 2 + s / 4 % 2 + s / 8 % 2 + s / 16 % 2 + s / 32 % 2)
noncomputable def fLine (A : AA) (x speed : Int32) : RA :=
  cIf (¬ (setOk A x ∧ inR speed 1 99)) (-1, A) (cIf (A 4 = 3) (-3, A)
    (A 4, upd (upd (upd (upd (upd A (133 + 4 * nL A) x) (133 + 4 * nL A + 1) speed) (133 + 4 * nL A + 2) 0) (133 + 4 * nL A + 3) 0) 4 (A 4 + 1)))
noncomputable def fCleaning (A : AA) (x y m : Int32) : RA := cIf (¬ (inR x 0 3 ∧ inR y 0 3 ∧ inR m 0 99)) (-1, A) (A (15 + 4 * iN x + iN y), upd A (15 + 4 * iN x + iN y) m)
noncomputable def fStageOf (A : AA) (x k w : Int32) : Int32 :=
  cIf (¬ (isRec A x ∧ 0 ≤ k ∧ inR w 0 4)) (-1) (cIf (A (31 + 18 * iN x + 1) ≤ k) (-4) (cIf (w = 4) (A (31 + 18 * iN x)) (A (31 + 18 * iN x + 2 + 4 * iN k + iN w))))
/-- the batch b is put into the vessel v -/
noncomputable def beginA (A : AA) (r m v b : Nat) : AA :=
  let c := clF A v (A (31 + 18 * r))
  upd (upd (upd (upd (upd (upd (upd (upd (upd (upd (upd (upd (upd A (145 + 9 * b) 1) (145 + 9 * b + 1) (nI r)) (145 + 9 * b + 2) (nI m)) (145 + 9 * b + 3) 0) (145 + 9 * b + 6) 0) (145 + 9 * b + 7) 0) (145 + 9 * b + 8) (nI m)) (103 + 5 * v + 4) (A (103 + 5 * v + 4) + c)) (103 + 5 * v + 3) (A (31 + 18 * r))) (103 + 5 * v + 2) (nI b)) (145 + 9 * b + 4) (nI v)) (145 + 9 * b + 5) (A 5 + c)) 6 (A 6 + nI m)
noncomputable def fBegin (A : AA) (x m y : Int32) : RA :=
  cIf (¬ (isRec A x ∧ inR m 1 999 ∧ isVes A y)) (-1, A) (cIf (¬ (¬ A (31 + 18 * iN x + 1) = 0 ∧ tkF A (iN y) (stg A (iN x) 0 0) m)) (-2, A)
    (nI (lowF A 0 6), beginA A (iN x) (iN m) (iN y) (lowF A 0 6)))
/-- what a transfer takes of a mass -/
def lsF (A : AA) (m : Int32) : Int32 := m * A 0 / 1000
noncomputable def moveA (A : AA) (b v k : Nat) : AA :=
  let c := clF A v (prF A b)
  let till := A 5 + mtF A b v k
  let m := A (145 + 9 * b + 2)
  upd (upd (upd (upd (upd (upd (upd (upd (upd (upd (upd A (133 + 4 * k + 2) till) (133 + 4 * k + 3) (A (133 + 4 * k + 3) + m)) (103 + 5 * bV A b + 2) (-1)) (103 + 5 * v + 4) (A (103 + 5 * v + 4) + c)) (103 + 5 * v + 3) (prF A b)) (103 + 5 * v + 2) (nI b)) (145 + 9 * b + 4) (nI v)) (145 + 9 * b + 5) till) (145 + 9 * b + 3) (A (145 + 9 * b + 3) + 1)) 8 (A 8 + lsF A m)) (145 + 9 * b + 2) (m - lsF A m)
noncomputable def fMove (A : AA) (x y : Int32) : RA :=
  cIf (¬ (isBat A x ∧ isVes A y)) (-1, A) (cIf (ltF A (iN x) (iN y) < 0) (-2, A) (ltF A (iN x) (iN y), moveA A (iN x) (iN y) (iN (ltF A (iN x) (iN y)))))
/-- the batch is gone out of its vessel -/
def goneA (A : AA) (b : Nat) : AA := upd (upd A (103 + 5 * bV A b + 2) (-1)) (145 + 9 * b) 0
noncomputable def fEnd (A : AA) (x : Int32) : RA :=
  cIf (¬ isBat A x) (-1, A) (cIf (¬ (rpF A (iN x) ≤ A 5 ∧ ¬ bS A (iN x) + 1 < nS A (bR A (iN x)))) (-2, A)
    (A (145 + 9 * iN x + 2), cIf (A (145 + 9 * iN x + 6) = 1) (upd (goneA A (iN x)) (11 + iN (prF A (iN x))) (A (11 + iN (prF A (iN x))) + A (145 + 9 * iN x + 2)))
      (upd (upd (goneA A (iN x)) 7 (A 7 + A (145 + 9 * iN x + 2))) 9 (A 9 + 1))))
noncomputable def fDiscard (A : AA) (x : Int32) : RA :=
  cIf (¬ isBat A x) (-1, A) (A (145 + 9 * iN x + 2), upd (goneA A (iN x)) 8 (A 8 + A (145 + 9 * iN x + 2)))
def blOk (A : AA) (b : Nat) (m : Int32) : Prop :=
  A (145 + 9 * b + 3) = 0 ∧ A (145 + 9 * b + 6) = 0 ∧ m ≤ A (103 + 5 * bV A b + 1) - A (145 + 9 * b + 2) ∧ A (145 + 9 * b + 7) + m ≤ A 1 * A (145 + 9 * b + 8) / 100 ∧ m ≤ A (11 + iN (prF A b))
noncomputable def fBlend (A : AA) (x m : Int32) : RA :=
  cIf (¬ (isBat A x ∧ inR m 1 999)) (-1, A) (cIf (¬ blOk A (iN x) m) (-2, A)
    (A (145 + 9 * iN x + 2) + m, upd (upd (upd A (11 + iN (prF A (iN x))) (A (11 + iN (prF A (iN x))) - m)) (145 + 9 * iN x + 7) (A (145 + 9 * iN x + 7) + m)) (145 + 9 * iN x + 2) (A (145 + 9 * iN x + 2) + m)))
/-- does it spoil by now -/
def spC (A : AA) (b : Nat) : Prop := live A b ∧ A (145 + 9 * b + 6) = 0 ∧ gdF A b < A 5
noncomputable def psF (A : AA) : Nat → Nat → Nat → Int32 × AA
  | _, 0, c => (nI c, A)
  | i, n + 1, c => cIf (spC A i) (psF (upd A (145 + 9 * i + 6) 1) (i + 1) n (c + 1)) (psF A (i + 1) n c)
noncomputable def fPass (A : AA) (m : Int32) : RA :=
  cIf (¬ inR m 1 999) (-1, A) (cIf (30000 < A 5 + m) (-3, A)
    ((psF (upd A 5 (A 5 + m)) 0 6 0).1, upd (psF (upd A 5 (A 5 + m)) 0 6 0).2 10 ((psF (upd A 5 (A 5 + m)) 0 6 0).2 10 + (psF (upd A 5 (A 5 + m)) 0 6 0).1)))
noncomputable def fSet (A : AA) (w x : Int32) : RA := cIf (¬ (inR w 0 1 ∧ inR x 0 (cIf (w = 0) 100 50))) (-1, A) (A (iN w), upd A (iN w) x)
/-! what is told -/
noncomputable def bfF (A : AA) (b : Nat) (w : Nat) : Int32 := match w with
  | 0 => A (145 + 9 * b + 1) | 1 => A (145 + 9 * b + 2) | 2 => A (145 + 9 * b + 3) | 3 => A (145 + 9 * b + 4) | 4 => A (145 + 9 * b + 5)
  | 5 => cIf (ovF A b < A 5) (A 5 - ovF A b) 0 | 6 => bI (rpF A b ≤ A 5) | 7 => A (145 + 9 * b + 6) | 8 => A (145 + 9 * b + 7) | 9 => rpF A b | _ => gdF A b
noncomputable def fBatchOf (A : AA) (x w : Int32) : Int32 := cIf (¬ (isBat A x ∧ inR w 0 10)) (-1) (bfF A (iN x) (iN w))
noncomputable def fVesselOf (A : AA) (x w : Int32) : Int32 := cIf (¬ (isVes A x ∧ inR w 0 4)) (-1) (cIf (A (103 + 5 * iN x + iN w) < 0) (-4) (A (103 + 5 * iN x + iN w)))
noncomputable def fLineOf (A : AA) (x w : Int32) : Int32 := cIf (¬ (isLin A x ∧ inR w 0 3)) (-1) (cIf (w = 2) (cIf (A 5 < A (133 + 4 * iN x + 2)) (A (133 + 4 * iN x + 2) - A 5) 0) (A (133 + 4 * iN x + iN w)))
noncomputable def smF (A : AA) (f : Nat → Int32) : Nat → Nat → Int32 → Int32
  | _, 0, s => s
  | i, n + 1, s => smF A f (i + 1) n (s + cIf (live A i) (f i) 0)
noncomputable def tgF (A : AA) (b : Nat) : Nat → Nat → Int32 → Int32
  | _, 0, s => s
  | v, n + 1, s => tgF A b (v + 1) n (s ||| cIf (ltF A b v < 0) 0 ((1 : Int32) <<< (nI v &&& 31)))
noncomputable def fTargets (A : AA) (x : Int32) : Int32 := cIf (¬ isBat A x) (-1) (tgF A (iN x) 0 (nV A) 0)
noncomputable def qkF (A : AA) (b : Nat) : Nat → Nat → Option (Nat × Int32) → Option (Nat × Int32)
  | _, 0, s => s
  | v, n + 1, s => qkF A b (v + 1) n (cIf (¬ ltF A b v < 0 ∧ ∀ q, s = some q → mtF A b v (iN (ltF A b v)) < q.2) (some (v, mtF A b v (iN (ltF A b v)))) s)
noncomputable def fQuickest (A : AA) (x w : Int32) : Int32 := cIf (¬ (isBat A x ∧ inR w 0 1)) (-1) (match qkF A (iN x) 0 (nV A) none with
  | none => -4
  | some q => cIf (w = 0) (nI q.1) q.2)
def isRoom (A : AA) (kind mass : Int32) : Prop := ∃ v, v < nV A ∧ A (103 + 5 * v) = kind ∧ mass ≤ A (103 + 5 * v + 1)
noncomputable def snF (A : AA) (r : Nat) : Nat → Nat → Int32 → Int32 → Int32
  | _, 0, _, t => t
  | k, n + 1, m, t => cIf (¬ isRoom A (stg A r k 0) m) (-4) (snF A r (k + 1) n (m - lsF A m) (t + (stg A r k 1 + stg A r k 2)))
noncomputable def fSoonest (A : AA) (x : Int32) : Int32 := cIf (¬ isBat A x) (-1)
  (snF A (bR A (iN x)) (bS A (iN x) + 1) (nS A (bR A (iN x)) - (bS A (iN x) + 1)) (A (145 + 9 * iN x + 2)) (cIf (rpF A (iN x) ≤ A 5) (A 5) (rpF A (iN x))))
/-- may it spoil yet -/
def cnS (A : AA) (b : Nat) : Prop := live A b ∧ A (145 + 9 * b + 6) = 0
def bfr (A : AA) (k b : Nat) : Prop := cnS A k ∧ (gdF A k < gdF A b ∨ (gdF A k = gdF A b ∧ k < b))
noncomputable def ahF (A : AA) (b : Nat) : Nat → Nat → Nat → Nat
  | _, 0, s => s
  | k, n + 1, s => ahF A b (k + 1) n (cIf (bfr A k b) (s + 1) s)
noncomputable def ugF (A : AA) (place : Int32) : Nat → Nat → Int32
  | _, 0 => -4
  | b, n + 1 => cIf (cnS A b ∧ nI (ahF A b 0 6 0) = place) (nI b) (ugF A place (b + 1) n)
noncomputable def fUrgent (A : AA) (x : Int32) : Int32 := cIf (x < 0) (-1) (ugF A x 0 6)
end
section
/-! WHAT HOLDS OF THE ROW A, AND HOW A PLANT's CELLS TELL IT -/
/-- a number of at most c -/
def bd (x : Int32) (c : Nat) : Prop := x = nI (iN x) ∧ iN x ≤ c
theorem bd_n {n c : Nat} (h : n ≤ c) (hc : c < 2 ^ 31) : bd (nI n) c := by
  have e := iN_n (n := n) (by omega)
  exact ⟨by rw [e], by rw [e]; exact h⟩
theorem bd_mono {x : Int32} {c d : Nat} (h : bd x c) (hd : c ≤ d) : bd x d := ⟨h.1, Nat.le_trans h.2 hd⟩
theorem bd_0 (c : Nat) : bd 0 c := ⟨rfl, Nat.zero_le _⟩
theorem bd_ex {x : Int32} {c : Nat} (h : bd x c) : ∃ n, n ≤ c ∧ x = nI n := ⟨iN x, h.2, h.1⟩
theorem bd_nn {x : Int32} {c : Nat} (h : bd x c) (hc : c < 2 ^ 31) : ¬ x < 0 := by rw [h.1]; exact nI_pos (by have := h.2; omega)
def InvS (A : AA) : Prop := bd (A 2) 4 ∧ bd (A 3) 6 ∧ bd (A 4) 3 ∧ bd (A 5) 30000 ∧ bd (A 0) 100 ∧ bd (A 1) 50
def InvT (A : AA) : Prop := ∀ i, i < 16 → bd (A (15 + i)) 99
def InvR (A : AA) : Prop := ∀ r, r < 4 → bd (A (31 + 18 * r)) 3 ∧ bd (A (31 + 18 * r + 1)) 4 ∧ ∀ k, k < 4 → bd (stg A r k 0) 2 ∧ bd (stg A r k 1) 200 ∧ bd (stg A r k 2) 500 ∧ bd (stg A r k 3) 500
def InvV (N : Nat) (A : AA) : Prop := ∀ v, v < 6 → bd (A (103 + 5 * v)) 2 ∧ bd (A (103 + 5 * v + 1)) 999 ∧ (A (103 + 5 * v + 2) = -1 ∨ bd (A (103 + 5 * v + 2)) 5) ∧ (A (103 + 5 * v + 3) = -1 ∨ bd (A (103 + 5 * v + 3)) 3) ∧ bd (A (103 + 5 * v + 4)) N
def InvL (A : AA) : Prop := ∀ k, k < 3 → (k < nL A → bd (A (133 + 4 * k + 1)) 99 ∧ 1 ≤ iN (A (133 + 4 * k + 1))) ∧ bd (A (133 + 4 * k + 2)) 32000 ∧ (nL A ≤ k → A (133 + 4 * k + 2) = 0 ∧ A (133 + 4 * k + 3) = 0)
/-- what holds of a batch that is there -/
def InvB1 (A : AA) (b : Nat) : Prop :=
  (A (145 + 9 * b + 1) = nI (bR A b) ∧ bR A b < nR A) ∧ (A (145 + 9 * b + 3) = nI (bS A b) ∧ bS A b < nS A (bR A b)) ∧ (A (145 + 9 * b + 4) = nI (bV A b) ∧ bV A b < nV A ∧ A (103 + 5 * bV A b + 2) = nI b) ∧
  bd (A (145 + 9 * b + 2)) 999 ∧ bd (A (145 + 9 * b + 5)) 32000 ∧ bd (A (145 + 9 * b + 6)) 1 ∧ bd (A (145 + 9 * b + 7)) 999 ∧ bd (A (145 + 9 * b + 8)) 999
def InvB (A : AA) : Prop := ∀ b, b < 6 → (A (145 + 9 * b) = 0 ∨ A (145 + 9 * b) = 1) ∧ (live A b → InvB1 A b)
def Inv (N : Nat) (A : AA) : Prop := InvS A ∧ InvT A ∧ InvR A ∧ InvV N A ∧ InvL A ∧ InvB A ∧ (∀ j, 199 ≤ j → A j = 0) ∧ N < 100000000
/-! the plant at the cell P tells A -/
def RelS (P : Nat) (A : AA) (gi : GI) : Prop := gi P 1 = A 2 ∧ gi P 3 = A 3 ∧ gi P 5 = A 4 ∧ gi P 10 = A 5 ∧ gi P 11 = A 6 ∧ gi P 12 = A 7 ∧ gi P 13 = A 8 ∧ gi P 14 = A 9 ∧ gi P 15 = A 10
def RelR (P : Nat) (A : AA) (gi : GI) : Prop := ∀ r, r < 4 → gi (P + 8 + 6 * r) 0 = A (31 + 18 * r) ∧ gi (P + 8 + 6 * r) 1 = A (31 + 18 * r + 1) ∧ ∀ k, k < 4 → gi (P + 10 + 6 * r + k) 0 = stg A r k 0 ∧ gi (P + 10 + 6 * r + k) 1 = stg A r k 1 ∧ gi (P + 10 + 6 * r + k) 2 = stg A r k 2 ∧ gi (P + 10 + 6 * r + k) 3 = stg A r k 3
def RelV (P : Nat) (A : AA) (gi : GI) : Prop := ∀ v, v < 6 → (v < nV A → gi (P + 32 + v) 0 = A (103 + 5 * v) ∧ gi (P + 32 + v) 1 = A (103 + 5 * v + 1) ∧ gi (P + 32 + v) 2 = A (103 + 5 * v + 2) ∧ gi (P + 32 + v) 3 = A (103 + 5 * v + 3) ∧ gi (P + 32 + v) 4 = A (103 + 5 * v + 4)) ∧ (nV A ≤ v → gi (P + 32 + v) 2 = -1 ∧ gi (P + 32 + v) 3 = -1 ∧ gi (P + 32 + v) 4 = 0)
def RelL (P : Nat) (A : AA) (gi : GI) : Prop := ∀ k, k < 3 → gi (P + 38 + k) 0 = A (133 + 4 * k) ∧ gi (P + 38 + k) 1 = A (133 + 4 * k + 1) ∧ gi (P + 38 + k) 2 = A (133 + 4 * k + 2) ∧ gi (P + 38 + k) 3 = A (133 + 4 * k + 3)
def RelB1 (P : Nat) (A : AA) (gi : GI) (b : Nat) : Prop :=
  gi (P + 41 + b) 1 = A (145 + 9 * b + 1) ∧ gi (P + 41 + b) 2 = prF A b ∧ gi (P + 41 + b) 3 = A (145 + 9 * b + 8) ∧ gi (P + 41 + b) 4 = A (145 + 9 * b + 2) ∧ gi (P + 41 + b) 5 = A (145 + 9 * b + 7) ∧ gi (P + 41 + b) 6 = A (145 + 9 * b + 6) ∧ gi (P + 41 + b) 7 = A (145 + 9 * b + 3) ∧ gi (P + 41 + b) 8 = A (145 + 9 * b + 4) ∧ gi (P + 41 + b) 9 = A (145 + 9 * b + 5) ∧ gi (P + 41 + b) 10 = ovF A b ∧ gi (P + 41 + b) 11 = rpF A b ∧ gi (P + 41 + b) 12 = gdF A b
def RelB (P : Nat) (A : AA) (gi : GI) : Prop := ∀ b, b < 6 → gi (P + 41 + b) 0 = A (145 + 9 * b) ∧ (live A b → RelB1 P A gi b)
def RelT (P : Nat) (A : AA) (gi : GI) : Prop := (∀ i, i < 16 → gi (P + 5) i = A (15 + i)) ∧ gi (P + 6) 0 = A 0 ∧ gi (P + 6) 1 = A 1 ∧ (∀ i, i < 4 → gi (P + 7) i = A (11 + i))
def Rel (P : Nat) (A : AA) (gi : GI) : Prop := RelS P A gi ∧ RelR P A gi ∧ RelV P A gi ∧ RelL P A gi ∧ RelB P A gi ∧ RelT P A gi
/-- outside the plant nothing has changed -/
def Out (P : Nat) (gi gi' : GI) : Prop := ∀ k, k < P ∨ P + 47 ≤ k → gi' k = gi k
theorem Out.rf (P : Nat) (gi : GI) : Out P gi gi := fun _ _ => rfl
theorem Out.wI {P : Nat} {gi gi' : GI} {k j : Nat} {v : Int32} (h : Out P gi gi') (h1 : P ≤ k) (h2 : k < P + 47) : Out P gi (wI gi' k j v) := fun a ha => by rw [wI_row (by omega), h a ha]
theorem Out.trans {P : Nat} {g1 g2 g3 : GI} (h : Out P g1 g2) (h' : Out P g2 g3) : Out P g1 g3 := fun a ha => by rw [h' a ha, h a ha]
section RC
variable {P : Nat} {A A' : AA} {gi gi' : GI}
theorem relS_c (h : RelS P A gi) (hg : gi' P = gi P) (ha : ∀ j, 2 ≤ j → j < 11 → A' j = A j) : RelS P A' gi' := by
  unfold RelS at h ⊢
  rw [hg, ha 2 (by omega) (by omega), ha 3 (by omega) (by omega), ha 4 (by omega) (by omega), ha 5 (by omega) (by omega), ha 6 (by omega) (by omega), ha 7 (by omega) (by omega), ha 8 (by omega) (by omega), ha 9 (by omega) (by omega), ha 10 (by omega) (by omega)]
  exact h
theorem stg_c (ha : ∀ j, 31 ≤ j → j < 103 → A' j = A j) {r k w : Nat} (hr : r < 4) (hk : k < 4) (hw : w < 4) : stg A' r k w = stg A r k w := ha _ (by omega) (by omega)
theorem relR_c (h : RelR P A gi) (hg : ∀ k, 8 ≤ k → k < 32 → gi' (P + k) = gi (P + k)) (ha : ∀ j, 31 ≤ j → j < 103 → A' j = A j) : RelR P A' gi' := by
  intro r hr
  obtain ⟨h1, h2, h3⟩ := h r hr
  have e1 : gi' (P + 8 + 6 * r) = gi (P + 8 + 6 * r) := by rw [show P + 8 + 6 * r = P + (8 + 6 * r) by omega]; exact hg _ (by omega) (by omega)
  refine ⟨by rw [e1, ha _ (by omega) (by omega)]; exact h1, by rw [e1, ha _ (by omega) (by omega)]; exact h2, fun k hk => ?_⟩
  have e2 : gi' (P + 10 + 6 * r + k) = gi (P + 10 + 6 * r + k) := by rw [show P + 10 + 6 * r + k = P + (10 + 6 * r + k) by omega]; exact hg _ (by omega) (by omega)
  rw [e2, stg_c ha hr hk (by omega), stg_c ha hr hk (by omega), stg_c ha hr hk (by omega), stg_c ha hr hk (by omega)]
  exact h3 k hk
theorem relV_c (h : RelV P A gi) (hg : ∀ k, 32 ≤ k → k < 38 → gi' (P + k) = gi (P + k)) (ha : ∀ j, 103 ≤ j → j < 133 → A' j = A j) (hn : A' 3 = A 3) : RelV P A' gi' := by
  intro v hv
  have e1 : gi' (P + 32 + v) = gi (P + 32 + v) := by rw [show P + 32 + v = P + (32 + v) by omega]; exact hg _ (by omega) (by omega)
  rw [e1, ha _ (by omega) (by omega), ha (103 + 5 * v + 1) (by omega) (by omega), ha (103 + 5 * v + 2) (by omega) (by omega), ha (103 + 5 * v + 3) (by omega) (by omega), ha (103 + 5 * v + 4) (by omega) (by omega), show nV A' = nV A by rw [nV, nV, hn]]
  exact h v hv
theorem relL_c (h : RelL P A gi) (hg : ∀ k, 38 ≤ k → k < 41 → gi' (P + k) = gi (P + k)) (ha : ∀ j, 133 ≤ j → j < 145 → A' j = A j) : RelL P A' gi' := by
  intro k hk
  have e1 : gi' (P + 38 + k) = gi (P + 38 + k) := by rw [show P + 38 + k = P + (38 + k) by omega]; exact hg _ (by omega) (by omega)
  rw [e1, ha _ (by omega) (by omega), ha (133 + 4 * k + 1) (by omega) (by omega), ha (133 + 4 * k + 2) (by omega) (by omega), ha (133 + 4 * k + 3) (by omega) (by omega)]
  exact h k hk
theorem relT_c (h : RelT P A gi) (hg : ∀ k, 5 ≤ k → k < 8 → gi' (P + k) = gi (P + k)) (h0 : A' 0 = A 0) (h1 : A' 1 = A 1) (ha : ∀ j, 11 ≤ j → j < 31 → A' j = A j) : RelT P A' gi' := by
  obtain ⟨a, b, c, d⟩ := h
  refine ⟨fun i hi => ?_, ?_, ?_, fun i hi => ?_⟩
  · rw [hg 5 (by omega) (by omega), ha _ (by omega) (by omega)]; exact a i hi
  · rw [hg 6 (by omega) (by omega), h0]; exact b
  · rw [hg 6 (by omega) (by omega), h1]; exact c
  · rw [hg 7 (by omega) (by omega), ha _ (by omega) (by omega)]; exact d i hi
/-- the derived times of a batch depend on its own numbers and its recipe's -/
theorem bat_c {b : Nat} (hb : b < 6) (hr : bR A b < 4) (hs : bS A b < 4) (ha : ∀ j, 31 ≤ j → j < 103 → A' j = A j) (h1 : A' (145 + 9 * b + 1) = A (145 + 9 * b + 1)) (h3 : A' (145 + 9 * b + 3) = A (145 + 9 * b + 3)) (h5 : A' (145 + 9 * b + 5) = A (145 + 9 * b + 5)) :
    bR A' b = bR A b ∧ bS A' b = bS A b ∧ prF A' b = prF A b ∧ ovF A' b = ovF A b ∧ rpF A' b = rpF A b ∧ gdF A' b = gdF A b := by
  have e1 : bR A' b = bR A b := by rw [bR, bR, h1]
  have e2 : bS A' b = bS A b := by rw [bS, bS, h3]
  have e3 : ovF A' b = ovF A b := by rw [ovF, ovF, e1, e2, h5, stg_c ha hr hs (by omega)]
  refine ⟨e1, e2, by rw [prF, prF, e1, ha _ (by omega) (by omega)], e3, ?_, ?_⟩
  · rw [rpF, rpF, e3, e1, e2, stg_c ha hr hs (by omega)]
  · rw [gdF, gdF, e3, e1, e2, stg_c ha hr hs (by omega)]
theorem relB_c (hI : InvB A) (hn : nR A ≤ 4) (hR : InvR A) (h : RelB P A gi) (hg : ∀ k, 41 ≤ k → k < 47 → gi' (P + k) = gi (P + k)) (ha : ∀ j, 31 ≤ j → j < 103 → A' j = A j) (hb : ∀ j, 145 ≤ j → j < 199 → A' j = A j) : RelB P A' gi' := by
  intro b hb6
  have e1 : gi' (P + 41 + b) = gi (P + 41 + b) := by rw [show P + 41 + b = P + (41 + b) by omega]; exact hg _ (by omega) (by omega)
  obtain ⟨h1, h2⟩ := h b hb6
  refine ⟨by rw [e1, hb _ (by omega) (by omega)]; exact h1, fun hl => ?_⟩
  have hl' : live A b := by unfold live at hl ⊢; rw [hb _ (by omega) (by omega)] at hl; exact hl
  have hi := (hI b hb6).2 hl'
  have hr4 : bR A b < 4 := Nat.lt_of_lt_of_le hi.1.2 hn
  have hs4 : bS A b < 4 := Nat.lt_of_lt_of_le hi.2.1.2 (hR _ hr4).2.1.2
  obtain ⟨c1, c2, c3, c4, c5, c6⟩ := bat_c (A' := A') hb6 hr4 hs4 ha (hb _ (by omega) (by omega)) (hb _ (by omega) (by omega)) (hb _ (by omega) (by omega))
  unfold RelB1
  rw [e1, c3, c4, c5, c6, hb _ (by omega) (by omega), hb (145 + 9 * b + 8) (by omega) (by omega), hb (145 + 9 * b + 2) (by omega) (by omega), hb (145 + 9 * b + 7) (by omega) (by omega), hb (145 + 9 * b + 6) (by omega) (by omega), hb (145 + 9 * b + 3) (by omega) (by omega), hb (145 + 9 * b + 4) (by omega) (by omega), hb (145 + 9 * b + 5) (by omega) (by omega)]
  exact h2 hl'
end RC
/-! what Inv gives -/
section IV
variable {N : Nat} {A : AA} (I : Inv N A)
theorem Inv.nR4 (I : Inv N A) : nR A ≤ 4 := I.1.1.2
theorem Inv.nV6 (I : Inv N A) : nV A ≤ 6 := I.1.2.1.2
theorem Inv.nL3 (I : Inv N A) : nL A ≤ 3 := I.1.2.2.1.2
theorem Inv.eR (I : Inv N A) : A 2 = nI (nR A) := I.1.1.1
theorem Inv.eV (I : Inv N A) : A 3 = nI (nV A) := I.1.2.1.1
theorem Inv.eL (I : Inv N A) : A 4 = nI (nL A) := I.1.2.2.1.1
theorem Inv.nS4 (I : Inv N A) {r : Nat} (hr : r < 4) : nS A r ≤ 4 := (I.2.2.1 r hr).2.1.2
theorem Inv.eS (I : Inv N A) {r : Nat} (hr : r < 4) : A (31 + 18 * r + 1) = nI (nS A r) := (I.2.2.1 r hr).2.1.1
theorem Inv.b1 (I : Inv N A) {b : Nat} (hb : b < 6) (hl : live A b) : InvB1 A b := (I.2.2.2.2.2.1 b hb).2 hl
theorem Inv.bR4 (I : Inv N A) {b : Nat} (hb : b < 6) (hl : live A b) : bR A b < 4 := Nat.lt_of_lt_of_le (I.b1 hb hl).1.2 I.nR4
theorem Inv.bS4 (I : Inv N A) {b : Nat} (hb : b < 6) (hl : live A b) : bS A b < 4 := Nat.lt_of_lt_of_le (I.b1 hb hl).2.1.2 (I.nS4 (I.bR4 hb hl))
theorem Inv.bV6 (I : Inv N A) {b : Nat} (hb : b < 6) (hl : live A b) : bV A b < 6 := Nat.lt_of_lt_of_le (I.b1 hb hl).2.2.1.2.1 I.nV6
end IV
end
section
/-! PLANTS: parts by their numbers, helpers over the cells -/
theorem ixn_1 {x : Int32} {n : Nat} (hn : n < 2 ^ 31) (h : x < 0) : ¬ ∃ r, r < n ∧ x = nI r := by
  rintro ⟨r, hr, rfl⟩
  exact nI_pos (by omega) h
theorem ixn_2 {x y : Int32} {n : Nat} (hn : n < 2 ^ 31) (hy : y = nI n) (h : y ≤ x) : ¬ ∃ r, r < n ∧ x = nI r := by
  rintro ⟨r, hr, rfl⟩
  rw [hy] at h
  exact nI_ge hr hn h
theorem ixn_3 {x : Int32} {n m : Nat} (hm : m < 2 ^ 31) (hnm : n ≤ m) (h : nI m ≤ x) : ¬ ∃ r, r < n ∧ x = nI r := by
  rintro ⟨r, hr, rfl⟩
  exact nI_ge (Nat.lt_of_lt_of_le hr hnm) hm h
theorem ix_y {x y : Int32} {n : Nat} (hn : n < 2 ^ 31) (hy : y = nI n) (h1 : ¬ x < 0) (h2 : ¬ y ≤ x) : ∃ r, r < n ∧ x = nI r := idx_of hn h1 (by rw [← hy]; exact h2)
theorem nI_in_r {a b : Nat} (ha : a < 2 ^ 31) (hb : b < 2 ^ 31) (h : nI a = nI b) : a = b := (nI_eq ha hb).mp h
/-- one of n parts (the f of its number), or null -/
def pAt (G : BcG) (gi : GI) (x : Int32) (n : Nat) (f : Nat → Nat) (c : Nat → Prop) : Option Value → BcH → Prop := fun v h' =>
  h' = hp gi ∧ ((∃ r, r < n ∧ x = nI r ∧ c r ∧ v = some (.ref (G.1 + f r))) ∨ ((¬ ∃ r, r < n ∧ x = nI r ∧ c r) ∧ v = some .null))
theorem pAt_y {G : BcG} {gi : GI} {n r : Nat} {f : Nat → Nat} {c : Nat → Prop} (hn : n < 2 ^ 31) (hr : r < n) (hc : c r) : ∀ v h', pAt G gi (nI r) n f c v h' → pA (G.1 + f r) (hp gi) v h' := by
  rintro v h' ⟨rfl, ⟨q, hq, e, -, rfl⟩ | ⟨hno, -⟩⟩
  · have := nI_in_r (by omega) (by omega) e
    subst this
    exact ⟨rfl, rfl⟩
  · exact absurd ⟨r, hr, rfl, hc⟩ hno
theorem pAt_n {G : BcG} {gi : GI} {x : Int32} {n : Nat} {f : Nat → Nat} {c : Nat → Prop} (hno : ¬ ∃ r, r < n ∧ x = nI r ∧ c r) : ∀ v h', pAt G gi x n f c v h' → pZ (hp gi) v h' := by
  rintro v h' ⟨rfl, ⟨q, hq, e, hc, -⟩ | ⟨-, rfl⟩⟩
  · exact absurd ⟨q, hq, e, hc⟩ hno
  · exact ⟨rfl, rfl⟩
theorem nt {x : Int32} {n : Nat} (h : ¬ ∃ r, r < n ∧ x = nI r) : ¬ ∃ r, r < n ∧ x = nI r ∧ True := fun ⟨r, a, b, _⟩ => h ⟨r, a, b⟩
set_option maxHeartbeats 4000000 in
set_option maxRecDepth 100000 in
theorem ct_recipeAt (G : BcG) (gi : GI) {P : Nat} (hP : isP P) (x : Int32) (n : Nat) (hc : gi P 1 = nI n) (hn : n ≤ 4) : Ct G mX3_recipeAt [.ref (G.1 + P), .int x] (hp gi) (pAt G gi x n (fun r => P + 8 + 6 * r) (fun _ => True)) := by
  refine ct_of [some (.ref (G.1 + P)), some (.int x), none] w_2 (by decide) rfl (Nat.le_of_ble_eq_true rfl) rfl ?_
  refine go_iload_n 1 dX3_recipeAt_0 rfl rfl (ls_s ls_0) ?_
  refine go_if_lt 25 4 dX3_recipeAt_1 (by decide) rfl (fun c_1 => ?_) (fun c_1 => ?_)
  · refine go_iconst 26 (v := 0) dX3_recipeAt_25 rfl (by decide) ?_
    refine go_istore_n 27 dX3_recipeAt_26 rfl rfl (by decide) (st_s (st_s st_0)) ?_
    refine go_iload_n 28 dX3_recipeAt_27 rfl rfl (ls_s (ls_s ls_0)) ?_
    refine go_if_eq 40 31 dX3_recipeAt_28 (by decide) rfl (fun c_28 => ?_) (fun c_28 => absurd c_28 (by decide))
    refine go_null 41 dX3_recipeAt_40 rfl ?_
    exact go_ret_n dX3_recipeAt_41 rfl rfl rfl ⟨rfl, Or.inr ⟨nt (ixn_1 (by omega) c_1), rfl⟩⟩
  · refine go_iload_n 5 dX3_recipeAt_4 rfl rfl (ls_s ls_0) ?_
    refine go_aload_n 6 dX3_recipeAt_5 rfl rfl ls_0 ?_
    refine gp_getI 9 dX3_recipeAt_6 rfl f_X3_61 rfl (tP hP) ?_
    refine go_icmp_ge 25 12 dX3_recipeAt_9 (by decide) rfl (fun c_9 => ?_) (fun c_9 => ?_)
    · refine go_iconst 26 (v := 0) dX3_recipeAt_25 rfl (by decide) ?_
      refine go_istore_n 27 dX3_recipeAt_26 rfl rfl (by decide) (st_s (st_s st_0)) ?_
      refine go_iload_n 28 dX3_recipeAt_27 rfl rfl (ls_s (ls_s ls_0)) ?_
      refine go_if_eq 40 31 dX3_recipeAt_28 (by decide) rfl (fun c_28 => ?_) (fun c_28 => absurd c_28 (by decide))
      refine go_null 41 dX3_recipeAt_40 rfl ?_
      exact go_ret_n dX3_recipeAt_41 rfl rfl rfl ⟨rfl, Or.inr ⟨nt (ixn_2 (by omega) hc c_9), rfl⟩⟩
    · refine go_iload_n 13 dX3_recipeAt_12 rfl rfl (ls_s ls_0) ?_
      refine go_aload_n 14 dX3_recipeAt_13 rfl rfl ls_0 ?_
      refine gp_getR 17 dX3_recipeAt_14 rfl f_X3_11 rfl (tP hP) (rR hP) ?_
      refine gp_alen 18 (v := nI 4) dX3_recipeAt_17 rfl (aR hP) (by decide) (by decide) rfl ?_
      refine go_icmp_ge 25 21 dX3_recipeAt_18 (by decide) rfl (fun c_18 => ?_) (fun c_18 => ?_)
      · refine go_iconst 26 (v := 0) dX3_recipeAt_25 rfl (by decide) ?_
        refine go_istore_n 27 dX3_recipeAt_26 rfl rfl (by decide) (st_s (st_s st_0)) ?_
        refine go_iload_n 28 dX3_recipeAt_27 rfl rfl (ls_s (ls_s ls_0)) ?_
        refine go_if_eq 40 31 dX3_recipeAt_28 (by decide) rfl (fun c_28 => ?_) (fun c_28 => absurd c_28 (by decide))
        refine go_null 41 dX3_recipeAt_40 rfl ?_
        exact go_ret_n dX3_recipeAt_41 rfl rfl rfl ⟨rfl, Or.inr ⟨nt (ixn_3 (m := 4) (by decide) hn c_18), rfl⟩⟩
      · refine go_iconst 22 (v := 1) dX3_recipeAt_21 rfl (by decide) ?_
        refine go_goto 26 dX3_recipeAt_22 (by decide) ?_
        refine go_istore_n 27 dX3_recipeAt_26 rfl rfl (by decide) (st_s (st_s st_0)) ?_
        refine go_iload_n 28 dX3_recipeAt_27 rfl rfl (ls_s (ls_s ls_0)) ?_
        refine go_if_eq 40 31 dX3_recipeAt_28 (by decide) rfl (fun c_28 => absurd c_28 (by decide)) (fun c_28 => ?_)
        obtain ⟨r, hr, hx⟩ := ix_y (by omega) hc c_1 c_9
        have hr4 : r < 4 := Nat.lt_of_lt_of_le hr hn
        refine go_aload_n 32 dX3_recipeAt_31 rfl rfl ls_0 ?_
        refine gp_getR 35 dX3_recipeAt_32 rfl f_X3_11 rfl (tP hP) (rR hP) ?_
        refine go_iload_n 36 dX3_recipeAt_35 rfl rfl (ls_s ls_0) ?_
        refine gp_aald 37 (i := r) dX3_recipeAt_36 rfl (aR hP) (by decide) rfl hx hr4 (by decide) (rRi hP hr4) ?_
        refine go_goto 41 dX3_recipeAt_37 (by decide) ?_
        exact go_ret_a dX3_recipeAt_41 rfl rfl rfl ⟨rfl, Or.inl ⟨r, hr, hx, trivial, rfl⟩⟩
set_option maxHeartbeats 4000000 in
set_option maxRecDepth 100000 in
theorem ct_vesselAt (G : BcG) (gi : GI) {P : Nat} (hP : isP P) (x : Int32) (n : Nat) (hc : gi P 3 = nI n) (hn : n ≤ 6) : Ct G mX3_vesselAt [.ref (G.1 + P), .int x] (hp gi) (pAt G gi x n (fun r => P + 32 + r) (fun _ => True)) := by
  refine ct_of [some (.ref (G.1 + P)), some (.int x), none] w_2 (by decide) rfl (Nat.le_of_ble_eq_true rfl) rfl ?_
  refine go_iload_n 1 dX3_vesselAt_0 rfl rfl (ls_s ls_0) ?_
  refine go_if_lt 25 4 dX3_vesselAt_1 (by decide) rfl (fun c_1 => ?_) (fun c_1 => ?_)
  · refine go_iconst 26 (v := 0) dX3_vesselAt_25 rfl (by decide) ?_
    refine go_istore_n 27 dX3_vesselAt_26 rfl rfl (by decide) (st_s (st_s st_0)) ?_
    refine go_iload_n 28 dX3_vesselAt_27 rfl rfl (ls_s (ls_s ls_0)) ?_
    refine go_if_eq 40 31 dX3_vesselAt_28 (by decide) rfl (fun c_28 => ?_) (fun c_28 => absurd c_28 (by decide))
    refine go_null 41 dX3_vesselAt_40 rfl ?_
    exact go_ret_n dX3_vesselAt_41 rfl rfl rfl ⟨rfl, Or.inr ⟨nt (ixn_1 (by omega) c_1), rfl⟩⟩
  · refine go_iload_n 5 dX3_vesselAt_4 rfl rfl (ls_s ls_0) ?_
    refine go_aload_n 6 dX3_vesselAt_5 rfl rfl ls_0 ?_
    refine gp_getI 9 dX3_vesselAt_6 rfl f_X3_65 rfl (tP hP) ?_
    refine go_icmp_ge 25 12 dX3_vesselAt_9 (by decide) rfl (fun c_9 => ?_) (fun c_9 => ?_)
    · refine go_iconst 26 (v := 0) dX3_vesselAt_25 rfl (by decide) ?_
      refine go_istore_n 27 dX3_vesselAt_26 rfl rfl (by decide) (st_s (st_s st_0)) ?_
      refine go_iload_n 28 dX3_vesselAt_27 rfl rfl (ls_s (ls_s ls_0)) ?_
      refine go_if_eq 40 31 dX3_vesselAt_28 (by decide) rfl (fun c_28 => ?_) (fun c_28 => absurd c_28 (by decide))
      refine go_null 41 dX3_vesselAt_40 rfl ?_
      exact go_ret_n dX3_vesselAt_41 rfl rfl rfl ⟨rfl, Or.inr ⟨nt (ixn_2 (by omega) hc c_9), rfl⟩⟩
    · refine go_iload_n 13 dX3_vesselAt_12 rfl rfl (ls_s ls_0) ?_
      refine go_aload_n 14 dX3_vesselAt_13 rfl rfl ls_0 ?_
      refine gp_getR 17 dX3_vesselAt_14 rfl f_X3_19 rfl (tP hP) (rV hP) ?_
      refine gp_alen 18 (v := nI 6) dX3_vesselAt_17 rfl (aV hP) (by decide) (by decide) rfl ?_
      refine go_icmp_ge 25 21 dX3_vesselAt_18 (by decide) rfl (fun c_18 => ?_) (fun c_18 => ?_)
      · refine go_iconst 26 (v := 0) dX3_vesselAt_25 rfl (by decide) ?_
        refine go_istore_n 27 dX3_vesselAt_26 rfl rfl (by decide) (st_s (st_s st_0)) ?_
        refine go_iload_n 28 dX3_vesselAt_27 rfl rfl (ls_s (ls_s ls_0)) ?_
        refine go_if_eq 40 31 dX3_vesselAt_28 (by decide) rfl (fun c_28 => ?_) (fun c_28 => absurd c_28 (by decide))
        refine go_null 41 dX3_vesselAt_40 rfl ?_
        exact go_ret_n dX3_vesselAt_41 rfl rfl rfl ⟨rfl, Or.inr ⟨nt (ixn_3 (m := 6) (by decide) hn c_18), rfl⟩⟩
      · refine go_iconst 22 (v := 1) dX3_vesselAt_21 rfl (by decide) ?_
        refine go_goto 26 dX3_vesselAt_22 (by decide) ?_
        refine go_istore_n 27 dX3_vesselAt_26 rfl rfl (by decide) (st_s (st_s st_0)) ?_
        refine go_iload_n 28 dX3_vesselAt_27 rfl rfl (ls_s (ls_s ls_0)) ?_
        refine go_if_eq 40 31 dX3_vesselAt_28 (by decide) rfl (fun c_28 => absurd c_28 (by decide)) (fun c_28 => ?_)
        obtain ⟨r, hr, hx⟩ := ix_y (by omega) hc c_1 c_9
        have hr4 : r < 6 := Nat.lt_of_lt_of_le hr hn
        refine go_aload_n 32 dX3_vesselAt_31 rfl rfl ls_0 ?_
        refine gp_getR 35 dX3_vesselAt_32 rfl f_X3_19 rfl (tP hP) (rV hP) ?_
        refine go_iload_n 36 dX3_vesselAt_35 rfl rfl (ls_s ls_0) ?_
        refine gp_aald 37 (i := r) dX3_vesselAt_36 rfl (aV hP) (by decide) rfl hx hr4 (by decide) (rVi hP hr4) ?_
        refine go_goto 41 dX3_vesselAt_37 (by decide) ?_
        exact go_ret_a dX3_vesselAt_41 rfl rfl rfl ⟨rfl, Or.inl ⟨r, hr, hx, trivial, rfl⟩⟩
set_option maxHeartbeats 4000000 in
set_option maxRecDepth 100000 in
theorem ct_lineAt (G : BcG) (gi : GI) {P : Nat} (hP : isP P) (x : Int32) (n : Nat) (hc : gi P 5 = nI n) (hn : n ≤ 3) : Ct G mX3_lineAt [.ref (G.1 + P), .int x] (hp gi) (pAt G gi x n (fun r => P + 38 + r) (fun _ => True)) := by
  refine ct_of [some (.ref (G.1 + P)), some (.int x), none] w_2 (by decide) rfl (Nat.le_of_ble_eq_true rfl) rfl ?_
  refine go_iload_n 1 dX3_lineAt_0 rfl rfl (ls_s ls_0) ?_
  refine go_if_lt 25 4 dX3_lineAt_1 (by decide) rfl (fun c_1 => ?_) (fun c_1 => ?_)
  · refine go_iconst 26 (v := 0) dX3_lineAt_25 rfl (by decide) ?_
    refine go_istore_n 27 dX3_lineAt_26 rfl rfl (by decide) (st_s (st_s st_0)) ?_
    refine go_iload_n 28 dX3_lineAt_27 rfl rfl (ls_s (ls_s ls_0)) ?_
    refine go_if_eq 40 31 dX3_lineAt_28 (by decide) rfl (fun c_28 => ?_) (fun c_28 => absurd c_28 (by decide))
    refine go_null 41 dX3_lineAt_40 rfl ?_
    exact go_ret_n dX3_lineAt_41 rfl rfl rfl ⟨rfl, Or.inr ⟨nt (ixn_1 (by omega) c_1), rfl⟩⟩
  · refine go_iload_n 5 dX3_lineAt_4 rfl rfl (ls_s ls_0) ?_
    refine go_aload_n 6 dX3_lineAt_5 rfl rfl ls_0 ?_
    refine gp_getI 9 dX3_lineAt_6 rfl f_X3_68 rfl (tP hP) ?_
    refine go_icmp_ge 25 12 dX3_lineAt_9 (by decide) rfl (fun c_9 => ?_) (fun c_9 => ?_)
    · refine go_iconst 26 (v := 0) dX3_lineAt_25 rfl (by decide) ?_
      refine go_istore_n 27 dX3_lineAt_26 rfl rfl (by decide) (st_s (st_s st_0)) ?_
      refine go_iload_n 28 dX3_lineAt_27 rfl rfl (ls_s (ls_s ls_0)) ?_
      refine go_if_eq 40 31 dX3_lineAt_28 (by decide) rfl (fun c_28 => ?_) (fun c_28 => absurd c_28 (by decide))
      refine go_null 41 dX3_lineAt_40 rfl ?_
      exact go_ret_n dX3_lineAt_41 rfl rfl rfl ⟨rfl, Or.inr ⟨nt (ixn_2 (by omega) hc c_9), rfl⟩⟩
    · refine go_iload_n 13 dX3_lineAt_12 rfl rfl (ls_s ls_0) ?_
      refine go_aload_n 14 dX3_lineAt_13 rfl rfl ls_0 ?_
      refine gp_getR 17 dX3_lineAt_14 rfl f_X3_25 rfl (tP hP) (rL hP) ?_
      refine gp_alen 18 (v := nI 3) dX3_lineAt_17 rfl (aL hP) (by decide) (by decide) rfl ?_
      refine go_icmp_ge 25 21 dX3_lineAt_18 (by decide) rfl (fun c_18 => ?_) (fun c_18 => ?_)
      · refine go_iconst 26 (v := 0) dX3_lineAt_25 rfl (by decide) ?_
        refine go_istore_n 27 dX3_lineAt_26 rfl rfl (by decide) (st_s (st_s st_0)) ?_
        refine go_iload_n 28 dX3_lineAt_27 rfl rfl (ls_s (ls_s ls_0)) ?_
        refine go_if_eq 40 31 dX3_lineAt_28 (by decide) rfl (fun c_28 => ?_) (fun c_28 => absurd c_28 (by decide))
        refine go_null 41 dX3_lineAt_40 rfl ?_
        exact go_ret_n dX3_lineAt_41 rfl rfl rfl ⟨rfl, Or.inr ⟨nt (ixn_3 (m := 3) (by decide) hn c_18), rfl⟩⟩
      · refine go_iconst 22 (v := 1) dX3_lineAt_21 rfl (by decide) ?_
        refine go_goto 26 dX3_lineAt_22 (by decide) ?_
        refine go_istore_n 27 dX3_lineAt_26 rfl rfl (by decide) (st_s (st_s st_0)) ?_
        refine go_iload_n 28 dX3_lineAt_27 rfl rfl (ls_s (ls_s ls_0)) ?_
        refine go_if_eq 40 31 dX3_lineAt_28 (by decide) rfl (fun c_28 => absurd c_28 (by decide)) (fun c_28 => ?_)
        obtain ⟨r, hr, hx⟩ := ix_y (by omega) hc c_1 c_9
        have hr4 : r < 3 := Nat.lt_of_lt_of_le hr hn
        refine go_aload_n 32 dX3_lineAt_31 rfl rfl ls_0 ?_
        refine gp_getR 35 dX3_lineAt_32 rfl f_X3_25 rfl (tP hP) (rL hP) ?_
        refine go_iload_n 36 dX3_lineAt_35 rfl rfl (ls_s ls_0) ?_
        refine gp_aald 37 (i := r) dX3_lineAt_36 rfl (aL hP) (by decide) rfl hx hr4 (by decide) (rLi hP hr4) ?_
        refine go_goto 41 dX3_lineAt_37 (by decide) ?_
        exact go_ret_a dX3_lineAt_41 rfl rfl rfl ⟨rfl, Or.inl ⟨r, hr, hx, trivial, rfl⟩⟩
set_option maxHeartbeats 4000000 in
set_option maxRecDepth 100000 in
theorem ct_stageAt (G : BcG) (gi : GI) {P : Nat} (hP : isP P) {i : Nat} (hi : i < 4) (x : Int32) (n : Nat) (hc : gi (P + 8 + 6 * i) 1 = nI n) (hn : n ≤ 4) : Ct G mX4_stageAt [.ref (G.1 + (P + 8 + 6 * i)), .int x] (hp gi) (pAt G gi x n (fun r => P + 10 + 6 * i + r) (fun _ => True)) := by
  refine ct_of [some (.ref (G.1 + (P + 8 + 6 * i))), some (.int x), none] w_3 (by decide) rfl (Nat.le_of_ble_eq_true rfl) rfl ?_
  refine go_iload_n 1 dX4_stageAt_0 rfl rfl (ls_s ls_0) ?_
  refine go_if_lt 25 4 dX4_stageAt_1 (by decide) rfl (fun c_1 => ?_) (fun c_1 => ?_)
  · refine go_iconst 26 (v := 0) dX4_stageAt_25 rfl (by decide) ?_
    refine go_istore_n 27 dX4_stageAt_26 rfl rfl (by decide) (st_s (st_s st_0)) ?_
    refine go_iload_n 28 dX4_stageAt_27 rfl rfl (ls_s (ls_s ls_0)) ?_
    refine go_if_eq 40 31 dX4_stageAt_28 (by decide) rfl (fun c_28 => ?_) (fun c_28 => absurd c_28 (by decide))
    refine go_null 41 dX4_stageAt_40 rfl ?_
    exact go_ret_n dX4_stageAt_41 rfl rfl rfl ⟨rfl, Or.inr ⟨nt (ixn_1 (by omega) c_1), rfl⟩⟩
  · refine go_iload_n 5 dX4_stageAt_4 rfl rfl (ls_s ls_0) ?_
    refine go_aload_n 6 dX4_stageAt_5 rfl rfl ls_0 ?_
    refine gp_getI 9 dX4_stageAt_6 rfl f_X4_22 rfl (tR hP hi) ?_
    refine go_icmp_ge 25 12 dX4_stageAt_9 (by decide) rfl (fun c_9 => ?_) (fun c_9 => ?_)
    · refine go_iconst 26 (v := 0) dX4_stageAt_25 rfl (by decide) ?_
      refine go_istore_n 27 dX4_stageAt_26 rfl rfl (by decide) (st_s (st_s st_0)) ?_
      refine go_iload_n 28 dX4_stageAt_27 rfl rfl (ls_s (ls_s ls_0)) ?_
      refine go_if_eq 40 31 dX4_stageAt_28 (by decide) rfl (fun c_28 => ?_) (fun c_28 => absurd c_28 (by decide))
      refine go_null 41 dX4_stageAt_40 rfl ?_
      exact go_ret_n dX4_stageAt_41 rfl rfl rfl ⟨rfl, Or.inr ⟨nt (ixn_2 (by omega) hc c_9), rfl⟩⟩
    · refine go_iload_n 13 dX4_stageAt_12 rfl rfl (ls_s ls_0) ?_
      refine go_aload_n 14 dX4_stageAt_13 rfl rfl ls_0 ?_
      refine gp_getR 17 dX4_stageAt_14 rfl f_X4_11 rfl (tR hP hi) (rK hP hi) ?_
      refine gp_alen 18 (v := nI 4) dX4_stageAt_17 rfl (aK hP hi) (by decide) (by decide) rfl ?_
      refine go_icmp_ge 25 21 dX4_stageAt_18 (by decide) rfl (fun c_18 => ?_) (fun c_18 => ?_)
      · refine go_iconst 26 (v := 0) dX4_stageAt_25 rfl (by decide) ?_
        refine go_istore_n 27 dX4_stageAt_26 rfl rfl (by decide) (st_s (st_s st_0)) ?_
        refine go_iload_n 28 dX4_stageAt_27 rfl rfl (ls_s (ls_s ls_0)) ?_
        refine go_if_eq 40 31 dX4_stageAt_28 (by decide) rfl (fun c_28 => ?_) (fun c_28 => absurd c_28 (by decide))
        refine go_null 41 dX4_stageAt_40 rfl ?_
        exact go_ret_n dX4_stageAt_41 rfl rfl rfl ⟨rfl, Or.inr ⟨nt (ixn_3 (m := 4) (by decide) hn c_18), rfl⟩⟩
      · refine go_iconst 22 (v := 1) dX4_stageAt_21 rfl (by decide) ?_
        refine go_goto 26 dX4_stageAt_22 (by decide) ?_
        refine go_istore_n 27 dX4_stageAt_26 rfl rfl (by decide) (st_s (st_s st_0)) ?_
        refine go_iload_n 28 dX4_stageAt_27 rfl rfl (ls_s (ls_s ls_0)) ?_
        refine go_if_eq 40 31 dX4_stageAt_28 (by decide) rfl (fun c_28 => absurd c_28 (by decide)) (fun c_28 => ?_)
        obtain ⟨r, hr, hx⟩ := ix_y (by omega) hc c_1 c_9
        have hr4 : r < 4 := Nat.lt_of_lt_of_le hr hn
        refine go_aload_n 32 dX4_stageAt_31 rfl rfl ls_0 ?_
        refine gp_getR 35 dX4_stageAt_32 rfl f_X4_11 rfl (tR hP hi) (rK hP hi) ?_
        refine go_iload_n 36 dX4_stageAt_35 rfl rfl (ls_s ls_0) ?_
        refine gp_aald 37 (i := r) dX4_stageAt_36 rfl (aK hP hi) (by decide) rfl hx hr4 (by decide) (rKi hP hi hr4) ?_
        refine go_goto 41 dX4_stageAt_37 (by decide) ?_
        exact go_ret_a dX4_stageAt_41 rfl rfl rfl ⟨rfl, Or.inl ⟨r, hr, hx, trivial, rfl⟩⟩
set_option maxHeartbeats 4000000 in
set_option maxRecDepth 100000 in
theorem ct_batchAt (G : BcG) (gi : GI) {P : Nat} (hP : isP P) (x : Int32) : Ct G mX3_batchAt [.ref (G.1 + P), .int x] (hp gi) (pAt G gi x 6 (fun r => P + 41 + r) (fun r => ¬ gi (P + 41 + r) 0 = 0)) := by
  refine ct_of [some (.ref (G.1 + P)), some (.int x), none] w_2 (by decide) rfl (Nat.le_of_ble_eq_true rfl) rfl ?_
  refine go_iload_n 1 dX3_batchAt_0 rfl rfl (ls_s ls_0) ?_
  refine go_if_lt 29 4 dX3_batchAt_1 (by decide) rfl (fun c_1 => ?_) (fun c_1 => ?_)
  · refine go_iconst 30 (v := 0) dX3_batchAt_29 rfl (by decide) ?_
    refine go_istore_n 31 dX3_batchAt_30 rfl rfl (by decide) (st_s (st_s st_0)) ?_
    refine go_iload_n 32 dX3_batchAt_31 rfl rfl (ls_s (ls_s ls_0)) ?_
    refine go_if_eq 44 35 dX3_batchAt_32 (by decide) rfl (fun c_32 => ?_) (fun c_32 => absurd c_32 (by decide))
    refine go_null 45 dX3_batchAt_44 rfl ?_
    exact go_ret_n dX3_batchAt_45 rfl rfl rfl ⟨rfl, Or.inr ⟨(fun z => ixn_1 (n := 6) (by decide) c_1 ⟨z.choose, z.choose_spec.1, z.choose_spec.2.1⟩), rfl⟩⟩
  · refine go_iload_n 5 dX3_batchAt_4 rfl rfl (ls_s ls_0) ?_
    refine go_aload_n 6 dX3_batchAt_5 rfl rfl ls_0 ?_
    refine gp_getR 9 dX3_batchAt_6 rfl f_X3_31 rfl (tP hP) (rB hP) ?_
    refine gp_alen 10 (v := nI 6) dX3_batchAt_9 rfl (aB hP) (by decide) (by decide) rfl ?_
    refine go_icmp_ge 29 13 dX3_batchAt_10 (by decide) rfl (fun c_10 => ?_) (fun c_10 => ?_)
    · refine go_iconst 30 (v := 0) dX3_batchAt_29 rfl (by decide) ?_
      refine go_istore_n 31 dX3_batchAt_30 rfl rfl (by decide) (st_s (st_s st_0)) ?_
      refine go_iload_n 32 dX3_batchAt_31 rfl rfl (ls_s (ls_s ls_0)) ?_
      refine go_if_eq 44 35 dX3_batchAt_32 (by decide) rfl (fun c_32 => ?_) (fun c_32 => absurd c_32 (by decide))
      refine go_null 45 dX3_batchAt_44 rfl ?_
      exact go_ret_n dX3_batchAt_45 rfl rfl rfl ⟨rfl, Or.inr ⟨(fun z => ixn_3 (n := 6) (m := 6) (by decide) (by decide) c_10 ⟨z.choose, z.choose_spec.1, z.choose_spec.2.1⟩), rfl⟩⟩
    · obtain ⟨r, hr, hx⟩ := idx_of (len := 6) (by decide) c_1 c_10
      refine go_aload_n 14 dX3_batchAt_13 rfl rfl ls_0 ?_
      refine gp_getR 17 dX3_batchAt_14 rfl f_X3_31 rfl (tP hP) (rB hP) ?_
      refine go_iload_n 18 dX3_batchAt_17 rfl rfl (ls_s ls_0) ?_
      refine gp_aald 19 (i := r) dX3_batchAt_18 rfl (aB hP) (by decide) rfl hx hr (by decide) (rBi hP hr) ?_
      refine gp_getI 22 dX3_batchAt_19 rfl f_X3_102 rfl (tB hP hr) ?_
      refine go_if_eq 29 25 dX3_batchAt_22 (by decide) rfl (fun c_22 => ?_) (fun c_22 => ?_)
      · refine go_iconst 30 (v := 0) dX3_batchAt_29 rfl (by decide) ?_
        refine go_istore_n 31 dX3_batchAt_30 rfl rfl (by decide) (st_s (st_s st_0)) ?_
        refine go_iload_n 32 dX3_batchAt_31 rfl rfl (ls_s (ls_s ls_0)) ?_
        refine go_if_eq 44 35 dX3_batchAt_32 (by decide) rfl (fun c_32 => ?_) (fun c_32 => absurd c_32 (by decide))
        refine go_null 45 dX3_batchAt_44 rfl ?_
        exact go_ret_n dX3_batchAt_45 rfl rfl rfl ⟨rfl, Or.inr ⟨(fun ⟨q, hq, e, hc⟩ => by rw [hx] at e; have := nI_in_r (by omega) (by omega) e; subst this; exact hc c_22), rfl⟩⟩
      · refine go_iconst 26 (v := 1) dX3_batchAt_25 rfl (by decide) ?_
        refine go_goto 30 dX3_batchAt_26 (by decide) ?_
        refine go_istore_n 31 dX3_batchAt_30 rfl rfl (by decide) (st_s (st_s st_0)) ?_
        refine go_iload_n 32 dX3_batchAt_31 rfl rfl (ls_s (ls_s ls_0)) ?_
        refine go_if_eq 44 35 dX3_batchAt_32 (by decide) rfl (fun c_32 => absurd c_32 (by decide)) (fun c_32 => ?_)
        refine go_aload_n 36 dX3_batchAt_35 rfl rfl ls_0 ?_
        refine gp_getR 39 dX3_batchAt_36 rfl f_X3_31 rfl (tP hP) (rB hP) ?_
        refine go_iload_n 40 dX3_batchAt_39 rfl rfl (ls_s ls_0) ?_
        refine gp_aald 41 (i := r) dX3_batchAt_40 rfl (aB hP) (by decide) rfl hx hr (by decide) (rBi hP hr) ?_
        refine go_goto 45 dX3_batchAt_41 (by decide) ?_
        exact go_ret_a dX3_batchAt_45 rfl rfl rfl ⟨rfl, Or.inl ⟨r, hr, hx, c_22, rfl⟩⟩
def cmF (gi : GI) (P v : Nat) (p : Int32) : Int32 := if gi (P + 32 + v) 3 = -1 then 0 else entF gi (P + 5) 16 (gi (P + 32 + v) 3 * 4 + p)
def ocF (gi : GI) (P v : Nat) (b p : Int32) : GI := wI (wI (wI gi (P + 32 + v) 4 (gi (P + 32 + v) 4 + cmF gi P v p)) (P + 32 + v) 2 b) (P + 32 + v) 3 p
set_option maxHeartbeats 4000000 in
set_option maxRecDepth 100000 in
theorem ct_cleaningMinutes (G : BcG) (gi : GI) {P : Nat} (hP : isP P) {v : Nat} (hv : v < 6) (p : Int32) : Ct G mX3_cleaningMinutes [.ref (G.1 + P), .ref (G.1 + (P + 32 + v)), .int p] (hp gi) (pI (cmF gi P v p) (hp gi)) := by
  refine ct_of [some (.ref (G.1 + P)), some (.ref (G.1 + (P + 32 + v))), some (.int p)] w_2 (by decide) rfl (Nat.le_of_ble_eq_true rfl) rfl ?_
  refine go_aload_n 1 dX3_cleaningMinutes_0 rfl rfl (ls_s ls_0) ?_
  refine gp_getI 4 dX3_cleaningMinutes_1 rfl f_X3_202 rfl (tV hP hv) ?_
  refine go_iconst 5 (v := (-1)) dX3_cleaningMinutes_4 rfl (by decide) ?_
  refine go_icmp_ne 10 8 dX3_cleaningMinutes_5 (by decide) rfl (fun c_5 => ?_) (fun c_5 => ?_)
  · refine go_aload_n 11 dX3_cleaningMinutes_10 rfl rfl ls_0 ?_
    refine gp_getR 14 dX3_cleaningMinutes_11 rfl f_X3_35 rfl (tP hP) (rT hP) ?_
    refine go_aload_n 15 dX3_cleaningMinutes_14 rfl rfl (ls_s ls_0) ?_
    refine gp_getI 18 dX3_cleaningMinutes_15 rfl f_X3_202 rfl (tV hP hv) ?_
    refine go_iconst 19 (v := 4) dX3_cleaningMinutes_18 rfl (by decide) ?_
    refine go_imul 20 dX3_cleaningMinutes_19 rfl ?_
    refine go_iload_n 21 dX3_cleaningMinutes_20 rfl rfl (ls_s (ls_s ls_0)) ?_
    refine go_iadd 22 dX3_cleaningMinutes_21 rfl ?_
    refine go_TI (M' := mX8_entryAt) 25 dX3_cleaningMinutes_22 rfl x_X3_168 okX8_entryAt ⟨Nat.le_of_ble_eq_true rfl, Nat.le_of_ble_eq_true rfl⟩ (ct_entryAt G gi _ 16 _ (aT hP) (by decide)) rfl rfl (kk := ?_)
    exact go_ret_i dX3_cleaningMinutes_25 rfl rfl rfl (pI_of (by rw [cmF, if_neg c_5]) rfl)
  · refine go_iconst 9 (v := 0) dX3_cleaningMinutes_8 rfl (by decide) ?_
    exact go_ret_i dX3_cleaningMinutes_9 rfl rfl rfl (pI_of (by rw [cmF, if_pos c_5]) rfl)
set_option maxHeartbeats 4000000 in
set_option maxRecDepth 100000 in
theorem ct_occupy (G : BcG) (gi : GI) {P : Nat} (hP : isP P) {v : Nat} (hv : v < 6) (b p : Int32) : Ct G mX3_occupy [.ref (G.1 + P), .ref (G.1 + (P + 32 + v)), .int b, .int p] (hp gi) (pI (cmF gi P v p) (hp (ocF gi P v b p))) := by
  refine ct_of [some (.ref (G.1 + P)), some (.ref (G.1 + (P + 32 + v))), some (.int b), some (.int p), none] w_2 (by decide) rfl (Nat.le_of_ble_eq_true rfl) rfl ?_
  refine go_aload_n 1 dX3_occupy_0 rfl rfl ls_0 ?_
  refine go_aload_n 2 dX3_occupy_1 rfl rfl (ls_s ls_0) ?_
  refine go_iload_n 3 dX3_occupy_2 rfl rfl (ls_s (ls_s (ls_s ls_0))) ?_
  refine go_VI (M' := mX3_cleaningMinutes) 6 dX3_occupy_3 rfl w_463 okX3_cleaningMinutes ⟨Nat.le_of_ble_eq_true rfl, Nat.le_of_ble_eq_true rfl⟩ (ct_cleaningMinutes G gi hP hv _) rfl rfl (tP hP) (by decide) rfl (kk := ?_)
  refine go_istore 8 dX3_occupy_6 rfl (by decide) (st_s (st_s (st_s (st_s st_0)))) ?_
  refine go_aload_n 9 dX3_occupy_8 rfl rfl (ls_s ls_0) ?_
  refine go_dup 10 dX3_occupy_9 rfl rfl ?_
  refine gp_getI 13 dX3_occupy_10 rfl f_X3_196 rfl (tV hP hv) ?_
  refine go_iload 15 dX3_occupy_13 rfl (ls_s (ls_s (ls_s (ls_s ls_0)))) ?_
  refine go_iadd 16 dX3_occupy_15 rfl ?_
  refine gp_putI 19 dX3_occupy_16 rfl f_X3_196 rfl (tV hP hv) rfl rfl ?_
  refine go_aload_n 20 dX3_occupy_19 rfl rfl (ls_s ls_0) ?_
  refine go_iload_n 21 dX3_occupy_20 rfl rfl (ls_s (ls_s ls_0)) ?_
  refine gp_putI 24 dX3_occupy_21 rfl f_X3_199 rfl (tV hP hv) rfl rfl ?_
  refine go_aload_n 25 dX3_occupy_24 rfl rfl (ls_s ls_0) ?_
  refine go_iload_n 26 dX3_occupy_25 rfl rfl (ls_s (ls_s (ls_s ls_0))) ?_
  refine gp_putI 29 dX3_occupy_26 rfl f_X3_202 rfl (tV hP hv) rfl rfl ?_
  refine go_iload 31 dX3_occupy_29 rfl (ls_s (ls_s (ls_s (ls_s ls_0)))) ?_
  exact go_ret_i dX3_occupy_31 rfl rfl rfl (pI_of rfl rfl)
set_option maxHeartbeats 4000000 in
set_option maxRecDepth 100000 in
theorem ct_transferLoss (G : BcG) (gi : GI) {P : Nat} (hP : isP P) (m : Int32) : Ct G mX3_transferLoss [.ref (G.1 + P), .int m] (hp gi) (pI (m * gi (P + 6) 0 / 1000) (hp gi)) := by
  refine ct_of [some (.ref (G.1 + P)), some (.int m)] w_2 (by decide) rfl (Nat.le_of_ble_eq_true rfl) rfl ?_
  refine go_iload_n 1 dX3_transferLoss_0 rfl rfl (ls_s ls_0) ?_
  refine go_aload_n 2 dX3_transferLoss_1 rfl rfl ls_0 ?_
  refine gp_getR 5 dX3_transferLoss_2 rfl f_X3_39 rfl (tP hP) (rS hP) ?_
  refine go_iconst 6 (v := 0) dX3_transferLoss_5 rfl (by decide) ?_
  refine go_TI (M' := mX8_entryAt) 9 dX3_transferLoss_6 rfl x_X3_168 okX8_entryAt ⟨Nat.le_of_ble_eq_true rfl, Nat.le_of_ble_eq_true rfl⟩ (ct_entryAt G gi _ 2 _ (aS hP) (by decide)) rfl rfl (kk := ?_)
  refine go_imul 10 dX3_transferLoss_9 rfl ?_
  refine go_sipush 13 (v := 1000) dX3_transferLoss_10 rfl (by decide) ?_
  refine go_idiv 14 dX3_transferLoss_13 rfl (by decide) ?_
  exact go_ret_i dX3_transferLoss_14 rfl rfl rfl (pI_of (by rw [show (0 : Int32) = nI 0 from rfl, entF_n (by decide) (by decide)]) rfl)
set_option maxHeartbeats 4000000 in
set_option maxRecDepth 100000 in
theorem ct_leaveVessel (G : BcG) (gi : GI) {P : Nat} (hP : isP P) {b v n : Nat} (hb : b < 6) (hv : v < 6) (hbv : gi (P + 41 + b) 8 = nI v) (hcV : gi P 3 = nI n) (hn6 : n ≤ 6) (hvn : v < n) : Ct G mX3_leaveVessel [.ref (G.1 + P), .ref (G.1 + (P + 41 + b))] (hp gi) (pV (hp (wI gi (P + 32 + v) 2 (-1)))) := by
  refine ct_of [some (.ref (G.1 + P)), some (.ref (G.1 + (P + 41 + b))), none] w_2 (by decide) rfl (Nat.le_of_ble_eq_true rfl) rfl ?_
  refine go_aload_n 1 dX3_leaveVessel_0 rfl rfl ls_0 ?_
  refine go_aload_n 2 dX3_leaveVessel_1 rfl rfl (ls_s ls_0) ?_
  refine gp_getI 5 dX3_leaveVessel_2 rfl f_X3_245 rfl (tB hP hb) ?_
  refine go_top (y := (nI v)) hbv ?_
  refine go_VA (M' := mX3_vesselAt) 8 dX3_leaveVessel_5 rfl w_395 okX3_vesselAt ⟨Nat.le_of_ble_eq_true rfl, Nat.le_of_ble_eq_true rfl⟩ (Ct.weak (ct_vesselAt G gi hP _ _ hcV hn6) (pAt_y (f := fun r => P + 32 + r) (c := fun _ => True) (by omega) hvn trivial)) rfl rfl (tP hP) (by decide) rfl (kk := ?_)
  refine go_astore_n 9 dX3_leaveVessel_8 rfl rfl (by decide) (st_s (st_s st_0)) ?_
  refine go_aload_n 10 dX3_leaveVessel_9 rfl rfl (ls_s (ls_s ls_0)) ?_
  refine go_ifnull 13 dX3_leaveVessel_10 rfl ?_
  refine go_aload_n 14 dX3_leaveVessel_13 rfl rfl (ls_s (ls_s ls_0)) ?_
  refine go_iconst 15 (v := (-1)) dX3_leaveVessel_14 rfl (by decide) ?_
  refine gp_putI 18 dX3_leaveVessel_15 rfl f_X3_199 rfl (tV hP hv) rfl rfl ?_
  exact go_ret_v dX3_leaveVessel_18 rfl rfl rfl ⟨rfl, rfl⟩
set_option maxHeartbeats 4000000 in
set_option maxRecDepth 100000 in
theorem ct_remove (G : BcG) (gi : GI) {P : Nat} (hP : isP P) {b v n : Nat} (hb : b < 6) (hv : v < 6) (hbv : gi (P + 41 + b) 8 = nI v) (hcV : gi P 3 = nI n) (hn6 : n ≤ 6) (hvn : v < n) : Ct G mX3_remove [.ref (G.1 + P), .ref (G.1 + (P + 41 + b))] (hp gi) (pV (hp (wI (wI gi (P + 32 + v) 2 (-1)) (P + 41 + b) 0 0))) := by
  refine ct_of [some (.ref (G.1 + P)), some (.ref (G.1 + (P + 41 + b)))] w_2 (by decide) rfl (Nat.le_of_ble_eq_true rfl) rfl ?_
  refine go_aload_n 1 dX3_remove_0 rfl rfl ls_0 ?_
  refine go_aload_n 2 dX3_remove_1 rfl rfl (ls_s ls_0) ?_
  refine go_VN (M' := mX3_leaveVessel) 5 dX3_remove_2 rfl w_507 okX3_leaveVessel ⟨Nat.le_of_ble_eq_true rfl, Nat.le_of_ble_eq_true rfl⟩ (ct_leaveVessel G gi hP (v := v) (n := n) hb hv hbv hcV hn6 hvn) rfl rfl (tP hP) (by decide) rfl (kk := ?_)
  refine go_aload_n 6 dX3_remove_5 rfl rfl (ls_s ls_0) ?_
  refine go_iconst 7 (v := 0) dX3_remove_6 rfl (by decide) ?_
  refine gp_putI 10 dX3_remove_7 rfl f_X3_102 rfl (tB hP hb) rfl rfl ?_
  exact go_ret_v dX3_remove_10 rfl rfl rfl ⟨rfl, rfl⟩
set_option maxHeartbeats 4000000 in
set_option maxRecDepth 100000 in
theorem ct_addOffGrade (G : BcG) (gi : GI) {P : Nat} (hP : isP P) {p : Nat} (hp4 : p < 4) (m : Int32) : Ct G mX3_addOffGrade [.ref (G.1 + P), .int (nI p), .int m] (hp gi) (pV (hp (wI gi (P + 7) p (gi (P + 7) p + m)))) := by
  refine ct_of [some (.ref (G.1 + P)), some (.int (nI p)), some (.int m)] w_2 (by decide) rfl (Nat.le_of_ble_eq_true rfl) rfl ?_
  refine go_aload_n 1 dX3_addOffGrade_0 rfl rfl ls_0 ?_
  refine gp_getR 4 dX3_addOffGrade_1 rfl f_X3_42 rfl (tP hP) (rO hP) ?_
  refine go_iload_n 5 dX3_addOffGrade_4 rfl rfl (ls_s ls_0) ?_
  refine go_aload_n 6 dX3_addOffGrade_5 rfl rfl ls_0 ?_
  refine gp_getR 9 dX3_addOffGrade_6 rfl f_X3_42 rfl (tP hP) (rO hP) ?_
  refine go_iload_n 10 dX3_addOffGrade_9 rfl rfl (ls_s ls_0) ?_
  refine go_TI (M' := mX8_entryAt) 13 dX3_addOffGrade_10 rfl x_X3_168 okX8_entryAt ⟨Nat.le_of_ble_eq_true rfl, Nat.le_of_ble_eq_true rfl⟩ (ct_entryAt G gi _ 4 _ (aO hP) (by decide)) rfl rfl (kk := ?_)
  refine go_iload_n 14 dX3_addOffGrade_13 rfl rfl (ls_s (ls_s ls_0)) ?_
  refine go_iadd 15 dX3_addOffGrade_14 rfl ?_
  refine go_TN (M' := mX8_putEntry) 18 dX3_addOffGrade_15 rfl x_X3_49 okX8_putEntry ⟨Nat.le_of_ble_eq_true rfl, Nat.le_of_ble_eq_true rfl⟩ (ct_putEntry G gi _ 4 _ _ (aO hP) (by decide)) rfl rfl (kk := ?_)
  exact go_ret_v dX3_addOffGrade_18 rfl rfl rfl ⟨rfl, by rw [entF_n hp4 (by decide), putF_n hp4 (by decide)]⟩
def nxS (gi : GI) (P r k n : Nat) : Prop := k + 1 < n
set_option maxHeartbeats 4000000 in
set_option maxRecDepth 100000 in
theorem ct_nextStage_y (G : BcG) (gi : GI) {P : Nat} (hP : isP P) {b r k n s : Nat} (hb : b < 6) (hr : r < 4) (hbr : gi (P + 41 + b) 1 = nI r) (hcR : gi P 1 = nI n) (hn4 : n ≤ 4) (hrn : r < n) (hbk : gi (P + 41 + b) 7 = nI k) (hk9 : k < 9) (hcS : gi (P + 8 + 6 * r) 1 = nI s) (hs4 : s ≤ 4) (hk : k + 1 < s) : Ct G mX3_nextStage [.ref (G.1 + P), .ref (G.1 + (P + 41 + b))] (hp gi) (pA (G.1 + (P + 10 + 6 * r + (k + 1))) (hp gi)) := by
  refine ct_of [some (.ref (G.1 + P)), some (.ref (G.1 + (P + 41 + b))), none] w_2 (by decide) rfl (Nat.le_of_ble_eq_true rfl) rfl ?_
  refine go_aload_n 1 dX3_nextStage_0 rfl rfl ls_0 ?_
  refine go_aload_n 2 dX3_nextStage_1 rfl rfl (ls_s ls_0) ?_
  refine gp_getI 5 dX3_nextStage_2 rfl f_X3_142 rfl (tB hP hb) ?_
  refine go_top (y := (nI r)) hbr ?_
  refine go_VA (M' := mX3_recipeAt) 8 dX3_nextStage_5 rfl w_362 okX3_recipeAt ⟨Nat.le_of_ble_eq_true rfl, Nat.le_of_ble_eq_true rfl⟩ (Ct.weak (ct_recipeAt G gi hP _ _ hcR hn4) (pAt_y (f := fun r => P + 8 + 6 * r) (c := fun _ => True) (by omega) hrn trivial)) rfl rfl (tP hP) (by decide) rfl (kk := ?_)
  refine go_astore_n 9 dX3_nextStage_8 rfl rfl (by decide) (st_s (st_s st_0)) ?_
  refine go_aload_n 10 dX3_nextStage_9 rfl rfl (ls_s (ls_s ls_0)) ?_
  refine go_ifnonnull 17 dX3_nextStage_10 (by decide) ?_
  refine go_aload_n 18 dX3_nextStage_17 rfl rfl (ls_s (ls_s ls_0)) ?_
  refine go_aload_n 19 dX3_nextStage_18 rfl rfl (ls_s ls_0) ?_
  refine gp_getI 22 dX3_nextStage_19 rfl f_X3_236 rfl (tB hP hb) ?_
  refine go_top (y := (nI k)) hbk ?_
  refine go_iconst 23 (v := 1) dX3_nextStage_22 rfl (by decide) ?_
  refine go_iadd 24 dX3_nextStage_23 rfl ?_
  refine go_top (y := (nI (k + 1))) (nI_1 k) ?_
  refine go_VA (M' := mX4_stageAt) 27 dX3_nextStage_24 rfl w_383 okX4_stageAt ⟨Nat.le_of_ble_eq_true rfl, Nat.le_of_ble_eq_true rfl⟩ (Ct.weak (ct_stageAt G gi hP hr _ _ hcS hs4) (pAt_y (f := fun q => P + 10 + 6 * r + q) (c := fun _ => True) (by omega) hk trivial)) rfl rfl (tR hP hr) (by decide) rfl (kk := ?_)
  exact go_ret_a dX3_nextStage_27 rfl rfl rfl ⟨rfl, rfl⟩
set_option maxHeartbeats 4000000 in
set_option maxRecDepth 100000 in
theorem ct_nextStage_n (G : BcG) (gi : GI) {P : Nat} (hP : isP P) {b r k n s : Nat} (hb : b < 6) (hr : r < 4) (hbr : gi (P + 41 + b) 1 = nI r) (hcR : gi P 1 = nI n) (hn4 : n ≤ 4) (hrn : r < n) (hbk : gi (P + 41 + b) 7 = nI k) (hk9 : k < 9) (hcS : gi (P + 8 + 6 * r) 1 = nI s) (hs4 : s ≤ 4) (hk : ¬ k + 1 < s) : Ct G mX3_nextStage [.ref (G.1 + P), .ref (G.1 + (P + 41 + b))] (hp gi) (pZ (hp gi)) := by
  refine ct_of [some (.ref (G.1 + P)), some (.ref (G.1 + (P + 41 + b))), none] w_2 (by decide) rfl (Nat.le_of_ble_eq_true rfl) rfl ?_
  refine go_aload_n 1 dX3_nextStage_0 rfl rfl ls_0 ?_
  refine go_aload_n 2 dX3_nextStage_1 rfl rfl (ls_s ls_0) ?_
  refine gp_getI 5 dX3_nextStage_2 rfl f_X3_142 rfl (tB hP hb) ?_
  refine go_top (y := (nI r)) hbr ?_
  refine go_VA (M' := mX3_recipeAt) 8 dX3_nextStage_5 rfl w_362 okX3_recipeAt ⟨Nat.le_of_ble_eq_true rfl, Nat.le_of_ble_eq_true rfl⟩ (Ct.weak (ct_recipeAt G gi hP _ _ hcR hn4) (pAt_y (f := fun r => P + 8 + 6 * r) (c := fun _ => True) (by omega) hrn trivial)) rfl rfl (tP hP) (by decide) rfl (kk := ?_)
  refine go_astore_n 9 dX3_nextStage_8 rfl rfl (by decide) (st_s (st_s st_0)) ?_
  refine go_aload_n 10 dX3_nextStage_9 rfl rfl (ls_s (ls_s ls_0)) ?_
  refine go_ifnonnull 17 dX3_nextStage_10 (by decide) ?_
  refine go_aload_n 18 dX3_nextStage_17 rfl rfl (ls_s (ls_s ls_0)) ?_
  refine go_aload_n 19 dX3_nextStage_18 rfl rfl (ls_s ls_0) ?_
  refine gp_getI 22 dX3_nextStage_19 rfl f_X3_236 rfl (tB hP hb) ?_
  refine go_top (y := (nI k)) hbk ?_
  refine go_iconst 23 (v := 1) dX3_nextStage_22 rfl (by decide) ?_
  refine go_iadd 24 dX3_nextStage_23 rfl ?_
  refine go_top (y := (nI (k + 1))) (nI_1 k) ?_
  refine go_VZ (M' := mX4_stageAt) 27 dX3_nextStage_24 rfl w_383 okX4_stageAt ⟨Nat.le_of_ble_eq_true rfl, Nat.le_of_ble_eq_true rfl⟩ (Ct.weak (ct_stageAt G gi hP hr _ _ hcS hs4) (pAt_n (nt (fun ⟨q, hq, e⟩ => hk (by have := nI_in_r (by omega) (by omega) e; omega))))) rfl rfl (tR hP hr) (by decide) rfl (kk := ?_)
  exact go_ret_n dX3_nextStage_27 rfl rfl rfl ⟨rfl, rfl⟩
end
section
/-! WHAT THE CLASS WRITES TELLS WHAT THE ROW BECOMES: call by call -/
section RO
variable {N P : Nat} {A A' : AA} {gi gi' : GI}
theorem relB_d (h : RelB P A gi) (hg : ∀ k, 41 ≤ k → k < 47 → gi' (P + k) = gi (P + k)) (hb : ∀ j, 145 ≤ j → j < 199 → A' j = A j) (hr : ∀ b, b < 6 → live A b → prF A' b = prF A b ∧ ovF A' b = ovF A b ∧ rpF A' b = rpF A b ∧ gdF A' b = gdF A b) : RelB P A' gi' := by
  intro b hb6
  have e1 : gi' (P + 41 + b) = gi (P + 41 + b) := by rw [show P + 41 + b = P + (41 + b) by omega]; exact hg _ (by omega) (by omega)
  obtain ⟨h1, h2⟩ := h b hb6
  refine ⟨by rw [e1, hb _ (by omega) (by omega)]; exact h1, fun hl => ?_⟩
  have hl' : live A b := by unfold live at hl ⊢; rw [hb _ (by omega) (by omega)] at hl; exact hl
  obtain ⟨c3, c4, c5, c6⟩ := hr b hb6 hl'
  unfold RelB1
  rw [e1, c3, c4, c5, c6, hb _ (by omega) (by omega), hb (145 + 9 * b + 8) (by omega) (by omega), hb (145 + 9 * b + 2) (by omega) (by omega), hb (145 + 9 * b + 7) (by omega) (by omega), hb (145 + 9 * b + 6) (by omega) (by omega), hb (145 + 9 * b + 3) (by omega) (by omega), hb (145 + 9 * b + 4) (by omega) (by omega), hb (145 + 9 * b + 5) (by omega) (by omega)]
  exact h2 hl'
/-- the same recipe's numbers give the same times -/
theorem bat_d {b r : Nat} (hbr : bR A b = r) (h1 : A' (145 + 9 * b + 1) = A (145 + 9 * b + 1)) (h3 : A' (145 + 9 * b + 3) = A (145 + 9 * b + 3)) (h5 : A' (145 + 9 * b + 5) = A (145 + 9 * b + 5)) (hp : A' (31 + 18 * r) = A (31 + 18 * r)) (hs : ∀ w, w < 4 → stg A' r (bS A b) w = stg A r (bS A b) w) :
    prF A' b = prF A b ∧ ovF A' b = ovF A b ∧ rpF A' b = rpF A b ∧ gdF A' b = gdF A b := by
  subst hbr
  have e1 : bR A' b = bR A b := by rw [bR, bR, h1]
  have e2 : bS A' b = bS A b := by rw [bS, bS, h3]
  have e3 : ovF A' b = ovF A b := by rw [ovF, ovF, e1, e2, h5, hs 1 (by omega)]
  refine ⟨by rw [prF, prF, e1, hp], e3, ?_, ?_⟩
  · rw [rpF, rpF, e3, e1, e2, hs 2 (by omega)]
  · rw [gdF, gdF, e3, e1, e2, hs 3 (by omega)]
theorem rel_recipe (h : Rel P A gi) (I : Inv N A) (hn : nR A < 4) (p : Int32) : Rel P (upd (upd (upd A (31 + 18 * nR A) p) (31 + 18 * nR A + 1) 0) 2 (nI (nR A + 1))) (wI (wI (wI gi P 1 (nI (nR A + 1))) (P + 8 + 6 * nR A) 0 p) (P + 8 + 6 * nR A) 1 0) := by
  obtain ⟨hS, hR, hV, hL, hB, hT⟩ := h
  generalize hnn : nR A = n at hn ⊢
  refine ⟨?_, ?_, relV_c hV (fun k h1 h2 => ?_) (fun j h1 h2 => ?_) ?_, relL_c hL (fun k h1 h2 => ?_) (fun j h1 h2 => ?_), relB_d hB (fun k h1 h2 => ?_) (fun j h1 h2 => ?_) (fun b hb hl => ?_), relT_c hT (fun k h1 h2 => ?_) ?_ ?_ (fun j h1 h2 => ?_)⟩
  · obtain ⟨a1, a2, a3, a4, a5, a6, a7, a8, a9⟩ := hS
    refine ⟨?_, ?_, ?_, ?_, ?_, ?_, ?_, ?_, ?_⟩ <;> simp (disch := omega) only [wI_ne, wI_eq, upd_ne, upd_eq] <;> assumption
  · intro r hr
    obtain ⟨h1, h2, h3⟩ := hR r hr
    by_cases e : r = n
    · subst e
      refine ⟨?_, ?_, fun k hk => ?_⟩
      · simp (disch := omega) only [wI_ne, wI_eq, upd_ne, upd_eq]
      · simp (disch := omega) only [wI_ne, wI_eq, upd_ne, upd_eq]
      · obtain ⟨q0, q1, q2, q3⟩ := h3 k hk
        unfold stg at *
        simp (disch := omega) only [wI_ne, wI_eq, upd_ne, upd_eq]
        exact ⟨q0, q1, q2, q3⟩
    · refine ⟨?_, ?_, fun k hk => ?_⟩
      · simp (disch := omega) only [wI_ne, wI_eq, upd_ne, upd_eq]; exact h1
      · simp (disch := omega) only [wI_ne, wI_eq, upd_ne, upd_eq]; exact h2
      · obtain ⟨q0, q1, q2, q3⟩ := h3 k hk
        unfold stg at *
        simp (disch := omega) only [wI_ne, wI_eq, upd_ne, upd_eq]
        exact ⟨q0, q1, q2, q3⟩
  · simp (disch := omega) only [wI_row]
  · simp (disch := omega) only [upd_ne]
  · simp (disch := omega) only [upd_ne]
  · simp (disch := omega) only [wI_row]
  · simp (disch := omega) only [upd_ne]
  · simp (disch := omega) only [wI_row]
  · simp (disch := omega) only [upd_ne]
  · have i := (I.b1 hb hl)
    have hlt : bR A b < n := by rw [← hnn]; exact i.1.2
    have hs4 := I.bS4 hb hl
    refine bat_d rfl ?_ ?_ ?_ ?_ (fun w hw => ?_)
    · simp (disch := omega) only [upd_ne]
    · simp (disch := omega) only [upd_ne]
    · simp (disch := omega) only [upd_ne]
    · simp (disch := omega) only [upd_ne]
    · unfold stg; simp (disch := omega) only [upd_ne]
  · simp (disch := omega) only [wI_row]
  · simp (disch := omega) only [upd_ne]
  · simp (disch := omega) only [upd_ne]
  · simp (disch := omega) only [upd_ne]
theorem rel_stage (h : Rel P A gi) (I : Inv N A) {r : Nat} (hr0 : r < nR A) (hm : ¬ isMade A (nI r)) (hn : nS A r < 4) (a0 a1 a2 a3 : Int32) :
    Rel P (upd (upd (upd (upd (upd A (31 + 18 * r + 2 + 4 * nS A r) a0) (31 + 18 * r + 2 + 4 * nS A r + 1) a1) (31 + 18 * r + 2 + 4 * nS A r + 2) a2) (31 + 18 * r + 2 + 4 * nS A r + 3) a3) (31 + 18 * r + 1) (nI (nS A r + 1)))
      (wI (wI (wI (wI (wI gi (P + 8 + 6 * r) 1 (nI (nS A r + 1))) (P + 10 + 6 * r + nS A r) 0 a0) (P + 10 + 6 * r + nS A r) 1 a1) (P + 10 + 6 * r + nS A r) 2 a2) (P + 10 + 6 * r + nS A r) 3 a3) := by
  obtain ⟨hS, hR, hV, hL, hB, hT⟩ := h
  have hr4 : r < 4 := Nat.lt_of_lt_of_le hr0 I.nR4
  generalize hnn : nS A r = n at hn ⊢
  refine ⟨relS_c hS ?_ (fun j h1 h2 => ?_), ?_, relV_c hV (fun k h1 h2 => ?_) (fun j h1 h2 => ?_) ?_, relL_c hL (fun k h1 h2 => ?_) (fun j h1 h2 => ?_), relB_d hB (fun k h1 h2 => ?_) (fun j h1 h2 => ?_) (fun b hb hl => ?_), relT_c hT (fun k h1 h2 => ?_) ?_ ?_ (fun j h1 h2 => ?_)⟩
  · simp (disch := omega) only [wI_row]
  · simp (disch := omega) only [upd_ne]
  · intro q hq
    obtain ⟨h1, h2, h3⟩ := hR q hq
    by_cases e : q = r
    · subst e
      refine ⟨?_, ?_, fun k hk => ?_⟩
      · simp (disch := omega) only [wI_ne, wI_eq, upd_ne, upd_eq]; exact h1
      · simp (disch := omega) only [wI_ne, wI_eq, upd_ne, upd_eq]
      · obtain ⟨q0, q1, q2, q3⟩ := h3 k hk
        unfold stg at *
        by_cases e2 : k = n
        · subst e2
          simp (disch := omega) only [Nat.add_zero, wI_ne, wI_eq, upd_ne, upd_eq, and_self]
        · simp (disch := omega) only [Nat.add_zero, wI_ne, wI_eq, upd_ne, upd_eq] at *
          exact ⟨q0, q1, q2, q3⟩
    · refine ⟨?_, ?_, fun k hk => ?_⟩
      · simp (disch := omega) only [wI_ne, wI_eq, upd_ne, upd_eq]; exact h1
      · simp (disch := omega) only [wI_ne, wI_eq, upd_ne, upd_eq]; exact h2
      · obtain ⟨q0, q1, q2, q3⟩ := h3 k hk
        unfold stg at *
        simp (disch := omega) only [wI_ne, wI_eq, upd_ne, upd_eq]
        exact ⟨q0, q1, q2, q3⟩
  · simp (disch := omega) only [wI_row]
  · simp (disch := omega) only [upd_ne]
  · simp (disch := omega) only [upd_ne]
  · simp (disch := omega) only [wI_row]
  · simp (disch := omega) only [upd_ne]
  · simp (disch := omega) only [wI_row]
  · simp (disch := omega) only [upd_ne]
  · have i := (I.b1 hb hl)
    have hs4 := I.bS4 hb hl
    have hne : bR A b ≠ r := fun e => hm ⟨b, hb, hl, by rw [i.1.1, e]⟩
    have h4 := I.bR4 hb hl
    refine bat_d rfl ?_ ?_ ?_ ?_ (fun w hw => ?_)
    · simp (disch := omega) only [upd_ne]
    · simp (disch := omega) only [upd_ne]
    · simp (disch := omega) only [upd_ne]
    · simp (disch := omega) only [upd_ne]
    · unfold stg; simp (disch := omega) only [upd_ne]
  · simp (disch := omega) only [wI_row]
  · simp (disch := omega) only [upd_ne]
  · simp (disch := omega) only [upd_ne]
  · simp (disch := omega) only [upd_ne]
theorem rel_vessel (h : Rel P A gi) (I : Inv N A) (hn : nV A < 6) (a0 a1 : Int32) :
    Rel P (upd (upd (upd (upd (upd (upd A (103 + 5 * nV A) a0) (103 + 5 * nV A + 1) a1) (103 + 5 * nV A + 2) (-1)) (103 + 5 * nV A + 3) (-1)) (103 + 5 * nV A + 4) 0) 3 (nI (nV A + 1)))
      (wI (wI (wI gi P 3 (nI (nV A + 1))) (P + 32 + nV A) 0 a0) (P + 32 + nV A) 1 a1) := by
  obtain ⟨hS, hR, hV, hL, hB, hT⟩ := h
  generalize hnn : nV A = n at hn ⊢
  refine ⟨?_, relR_c hR (fun k h1 h2 => ?_) (fun j h1 h2 => ?_), ?_, relL_c hL (fun k h1 h2 => ?_) (fun j h1 h2 => ?_), relB_c I.2.2.2.2.2.1 I.nR4 I.2.2.1 hB (fun k h1 h2 => ?_) (fun j h1 h2 => ?_) (fun j h1 h2 => ?_), relT_c hT (fun k h1 h2 => ?_) ?_ ?_ (fun j h1 h2 => ?_)⟩
  · obtain ⟨a1, a2, a3, a4, a5, a6, a7, a8, a9⟩ := hS
    refine ⟨?_, ?_, ?_, ?_, ?_, ?_, ?_, ?_, ?_⟩ <;> simp (disch := omega) only [wI_ne, wI_eq, upd_ne, upd_eq] <;> assumption
  · simp (disch := omega) only [wI_row]
  · simp (disch := omega) only [upd_ne]
  · intro v hv
    have hnv : nV (upd (upd (upd (upd (upd (upd A (103 + 5 * n) a0) (103 + 5 * n + 1) a1) (103 + 5 * n + 2) (-1)) (103 + 5 * n + 3) (-1)) (103 + 5 * n + 4) 0) 3 (nI (n + 1))) = n + 1 := by rw [nV, upd_eq, iN_n (by omega)]
    rw [hnv]
    obtain ⟨h1, h2⟩ := hV v hv
    rw [hnn] at h1 h2
    by_cases e : v = n
    · subst e
      obtain ⟨b1, b2, b3⟩ := h2 (Nat.le_refl _)
      refine ⟨fun _ => ?_, fun z => by omega⟩
      simp (disch := omega) only [wI_ne, wI_eq, upd_ne, upd_eq]
      exact ⟨trivial, trivial, b1, b2, b3⟩
    · refine ⟨fun z => ?_, fun z => ?_⟩
      · simp (disch := omega) only [wI_ne, wI_eq, upd_ne, upd_eq]
        exact h1 (by omega)
      · simp (disch := omega) only [wI_ne, wI_eq, upd_ne, upd_eq]
        exact h2 (by omega)
  · simp (disch := omega) only [wI_row]
  · simp (disch := omega) only [upd_ne]
  · simp (disch := omega) only [wI_row]
  · simp (disch := omega) only [upd_ne]
  · simp (disch := omega) only [upd_ne]
  · simp (disch := omega) only [wI_row]
  · simp (disch := omega) only [upd_ne]
  · simp (disch := omega) only [upd_ne]
  · simp (disch := omega) only [upd_ne]
theorem rel_line (h : Rel P A gi) (I : Inv N A) (hn : nL A < 3) (a0 a1 : Int32) :
    Rel P (upd (upd (upd (upd (upd A (133 + 4 * nL A) a0) (133 + 4 * nL A + 1) a1) (133 + 4 * nL A + 2) 0) (133 + 4 * nL A + 3) 0) 4 (nI (nL A + 1)))
      (wI (wI (wI gi P 5 (nI (nL A + 1))) (P + 38 + nL A) 0 a0) (P + 38 + nL A) 1 a1) := by
  obtain ⟨hS, hR, hV, hL, hB, hT⟩ := h
  have hz := (I.2.2.2.2.1 (nL A) hn).2.2 (Nat.le_refl _)
  generalize hnn : nL A = n at hn hz ⊢
  refine ⟨?_, relR_c hR (fun k h1 h2 => ?_) (fun j h1 h2 => ?_), relV_c hV (fun k h1 h2 => ?_) (fun j h1 h2 => ?_) ?_, ?_, relB_c I.2.2.2.2.2.1 I.nR4 I.2.2.1 hB (fun k h1 h2 => ?_) (fun j h1 h2 => ?_) (fun j h1 h2 => ?_), relT_c hT (fun k h1 h2 => ?_) ?_ ?_ (fun j h1 h2 => ?_)⟩
  · obtain ⟨a1, a2, a3, a4, a5, a6, a7, a8, a9⟩ := hS
    refine ⟨?_, ?_, ?_, ?_, ?_, ?_, ?_, ?_, ?_⟩ <;> simp (disch := omega) only [wI_ne, wI_eq, upd_ne, upd_eq] <;> assumption
  · simp (disch := omega) only [wI_row]
  · simp (disch := omega) only [upd_ne]
  · simp (disch := omega) only [wI_row]
  · simp (disch := omega) only [upd_ne]
  · simp (disch := omega) only [upd_ne]
  · intro k hk
    have hk2 := hL k hk
    by_cases e : k = n
    · subst e
      rw [hz.1, hz.2] at hk2
      simp (disch := omega) only [wI_ne, wI_eq, upd_ne, upd_eq]
      exact ⟨trivial, trivial, hk2.2.2.1, hk2.2.2.2⟩
    · simp (disch := omega) only [wI_ne, wI_eq, upd_ne, upd_eq]
      exact hk2
  · simp (disch := omega) only [wI_row]
  · simp (disch := omega) only [upd_ne]
  · simp (disch := omega) only [upd_ne]
  · simp (disch := omega) only [wI_row]
  · simp (disch := omega) only [upd_ne]
  · simp (disch := omega) only [upd_ne]
  · simp (disch := omega) only [upd_ne]
/-- a number outside recipes, vessels, lines and batches -/
theorem rel_low (h : Rel P A gi) (I : Inv N A) (hs : RelS P A' gi') (ht : RelT P A' gi') (hg : ∀ k, 8 ≤ k → k < 47 → gi' (P + k) = gi (P + k)) (ha : ∀ j, 31 ≤ j → j < 199 → A' j = A j) (h3 : A' 3 = A 3) : Rel P A' gi' := by
  obtain ⟨hS, hR, hV, hL, hB, hT⟩ := h
  exact ⟨hs, relR_c hR (fun k h1 h2 => hg k (by omega) (by omega)) (fun j h1 h2 => ha j (by omega) (by omega)), relV_c hV (fun k h1 h2 => hg k (by omega) (by omega)) (fun j h1 h2 => ha j (by omega) (by omega)) h3, relL_c hL (fun k h1 h2 => hg k (by omega) (by omega)) (fun j h1 h2 => ha j (by omega) (by omega)),
    relB_c I.2.2.2.2.2.1 I.nR4 I.2.2.1 hB (fun k h1 h2 => hg k (by omega) (by omega)) (fun j h1 h2 => ha j (by omega) (by omega)) (fun j h1 h2 => ha j (by omega) (by omega)), ht⟩
theorem rel_table (h : Rel P A gi) (I : Inv N A) {i : Nat} (hi : i < 16) (x : Int32) : Rel P (upd A (15 + i) x) (wI gi (P + 5) i x) := by
  obtain ⟨t1, t2, t3, t4⟩ := h.2.2.2.2.2
  refine rel_low h I (relS_c h.1 ?_ (fun j h1 h2 => ?_)) ⟨fun q hq => ?_, ?_, ?_, fun q hq => ?_⟩ (fun k h1 h2 => ?_) (fun j h1 h2 => ?_) ?_
  · simp (disch := omega) only [wI_row]
  · simp (disch := omega) only [upd_ne]
  · by_cases e : q = i
    · subst e
      simp only [wI_eq, upd_eq]
    · simp (disch := omega) only [wI_ne, upd_ne]
      exact t1 q hq
  · simp (disch := omega) only [wI_ne, upd_ne]; exact t2
  · simp (disch := omega) only [wI_ne, upd_ne]; exact t3
  · simp (disch := omega) only [wI_ne, upd_ne]; exact t4 q hq
  · simp (disch := omega) only [wI_row]
  · simp (disch := omega) only [upd_ne]
  · simp (disch := omega) only [upd_ne]
theorem rel_set (h : Rel P A gi) (I : Inv N A) {i : Nat} (hi : i < 2) (x : Int32) : Rel P (upd A i x) (wI gi (P + 6) i x) := by
  obtain ⟨t1, t2, t3, t4⟩ := h.2.2.2.2.2
  refine rel_low h I (relS_c h.1 ?_ (fun j h1 h2 => ?_)) ⟨fun q hq => ?_, ?_, ?_, fun q hq => ?_⟩ (fun k h1 h2 => ?_) (fun j h1 h2 => ?_) ?_
  · simp (disch := omega) only [wI_row]
  · simp (disch := omega) only [upd_ne]
  · simp (disch := omega) only [wI_ne, upd_ne]; exact t1 q hq
  · by_cases e : i = 0
    · subst e; simp only [wI_eq, upd_eq]
    · simp (disch := omega) only [wI_ne, upd_ne]; exact t2
  · by_cases e : i = 1
    · subst e; simp only [wI_eq, upd_eq]
    · simp (disch := omega) only [wI_ne, upd_ne]; exact t3
  · simp (disch := omega) only [wI_ne, upd_ne]; exact t4 q hq
  · simp (disch := omega) only [wI_row]
  · simp (disch := omega) only [upd_ne]
  · simp (disch := omega) only [upd_ne]
theorem rel_off (h : Rel P A gi) (I : Inv N A) {i : Nat} (hi : i < 4) (x : Int32) : Rel P (upd A (11 + i) x) (wI gi (P + 7) i x) := by
  obtain ⟨t1, t2, t3, t4⟩ := h.2.2.2.2.2
  refine rel_low h I (relS_c h.1 ?_ (fun j h1 h2 => ?_)) ⟨fun q hq => ?_, ?_, ?_, fun q hq => ?_⟩ (fun k h1 h2 => ?_) (fun j h1 h2 => ?_) ?_
  · simp (disch := omega) only [wI_row]
  · simp (disch := omega) only [upd_ne]
  · simp (disch := omega) only [wI_ne, upd_ne]; exact t1 q hq
  · simp (disch := omega) only [wI_ne, upd_ne]; exact t2
  · simp (disch := omega) only [wI_ne, upd_ne]; exact t3
  · by_cases e : q = i
    · subst e
      simp only [wI_eq, upd_eq]
    · simp (disch := omega) only [wI_ne, upd_ne]
      exact t4 q hq
  · simp (disch := omega) only [wI_row]
  · simp (disch := omega) only [upd_ne]
  · simp (disch := omega) only [upd_ne]
end RO
end
section
/-! THE SAME, OF BATCHES -/
section RB
variable {N P : Nat} {A A' : AA} {gi gi' : GI}
/-- a batch that the call leaves as it was -/
theorem relB_o {b : Nat} (I : Inv N A) (h : RelB P A gi) (hb : b < 6) (hg : gi' (P + 41 + b) = gi (P + 41 + b)) (hw : ∀ w, w < 9 → A' (145 + 9 * b + w) = A (145 + 9 * b + w)) (ha : ∀ j, 31 ≤ j → j < 103 → A' j = A j) : gi' (P + 41 + b) 0 = A' (145 + 9 * b) ∧ (live A' b → RelB1 P A' gi' b) := by
  obtain ⟨h1, h2⟩ := h b hb
  have e0 := hw 0 (by omega)
  rw [Nat.add_zero] at e0
  refine ⟨by rw [hg, e0]; exact h1, fun hl => ?_⟩
  have hl' : live A b := by unfold live at hl ⊢; rw [e0] at hl; exact hl
  obtain ⟨-, -, c3, c4, c5, c6⟩ := bat_c (A' := A') hb (I.bR4 hb hl') (I.bS4 hb hl') ha (hw 1 (by omega)) (hw 3 (by omega)) (hw 5 (by omega))
  unfold RelB1
  rw [hg, c3, c4, c5, c6, hw 1 (by omega), hw 2 (by omega), hw 3 (by omega), hw 4 (by omega), hw 5 (by omega), hw 6 (by omega), hw 7 (by omega), hw 8 (by omega)]
  exact h2 hl'
theorem relV_o {v : Nat} (h : RelV P A gi) (hv : v < 6) (hg : gi' (P + 32 + v) = gi (P + 32 + v)) (hw : ∀ w, w < 5 → A' (103 + 5 * v + w) = A (103 + 5 * v + w)) (h3 : A' 3 = A 3) :
    (v < nV A' → gi' (P + 32 + v) 0 = A' (103 + 5 * v) ∧ gi' (P + 32 + v) 1 = A' (103 + 5 * v + 1) ∧ gi' (P + 32 + v) 2 = A' (103 + 5 * v + 2) ∧ gi' (P + 32 + v) 3 = A' (103 + 5 * v + 3) ∧ gi' (P + 32 + v) 4 = A' (103 + 5 * v + 4)) ∧ (nV A' ≤ v → gi' (P + 32 + v) 2 = -1 ∧ gi' (P + 32 + v) 3 = -1 ∧ gi' (P + 32 + v) 4 = 0) := by
  have e0 := hw 0 (by omega)
  rw [Nat.add_zero] at e0
  rw [hg, e0, hw 1 (by omega), hw 2 (by omega), hw 3 (by omega), hw 4 (by omega), show nV A' = nV A by rw [nV, nV, h3]]
  exact h v hv

theorem rel_end_s (h : Rel P A gi) (I : Inv N A) {b p : Nat} {x : Int32} (hl : live A b) (hb : b < 6) (hp : p < 4) : Rel P (upd (upd (upd A (103 + 5 * bV A b + 2) (-1)) (145 + 9 * b) 0) (11 + p) x) (wI (wI (wI gi (P + 7) p x) (P + 32 + bV A b) 2 (-1)) (P + 41 + b) 0 0) := by
  obtain ⟨hS, hR, hV, hL, hB, hT⟩ := h
  have i := I.b1 hb hl
  have hr4 := I.bR4 hb hl
  have hs4 := I.bS4 hb hl
  have hv6 := I.bV6 hb hl
  refine ⟨relS_c hS ?_ (fun j h1 h2 => ?_), relR_c hR (fun k h1 h2 => ?_) (fun j h1 h2 => ?_), fun q hq => ?_, relL_c hL (fun k h1 h2 => ?_) (fun j h1 h2 => ?_), fun q hq => ?_, ⟨fun q hq => ?_, ?_, ?_, fun q hq => ?_⟩⟩
  · simp (disch := omega) only [wI_row]
  · simp (disch := omega) only [upd_ne]
  · simp (disch := omega) only [wI_row]
  · simp (disch := omega) only [upd_ne]
  · by_cases e0 : q = (bV A b)
    · rw [e0]
      have hq2 := hV (bV A b) (Nat.lt_of_lt_of_le i.2.2.1.2.1 I.nV6)
      refine ⟨fun _ => ?_, fun z => absurd i.2.2.1.2.1 (Nat.not_lt.mpr (Nat.le_trans (Nat.le_of_eq (by unfold nV; simp (disch := omega) only [upd_ne])) z))⟩
      obtain ⟨b0, b1, b2, b3, b4⟩ := hq2.1 i.2.2.1.2.1
      refine ⟨?_, ?_, ?_, ?_, ?_⟩ <;> simp (disch := omega) only [wI_ne, wI_eq, upd_ne, upd_eq] <;> assumption
    · refine relV_o hV hq ?_ (fun w hw => ?_) ?_
      · simp (disch := omega) only [wI_row]
      · simp (disch := omega) only [upd_ne]
      · simp (disch := omega) only [upd_ne]
  · simp (disch := omega) only [wI_row]
  · simp (disch := omega) only [upd_ne]
  · by_cases e : q = b
    · rw [e]
      refine ⟨?_, fun hl2 => absurd hl2 ?_⟩
      · simp (disch := omega) only [wI_ne, wI_eq, upd_ne, upd_eq]
      · unfold live
        simp (disch := omega) only [wI_ne, wI_eq, upd_ne, upd_eq]
        decide
    · refine relB_o I hB hq ?_ (fun w hw => ?_) (fun j h1 h2 => ?_)
      · simp (disch := omega) only [wI_row]
      · simp (disch := omega) only [upd_ne]
      · simp (disch := omega) only [upd_ne]
  · obtain ⟨t1, t2, t3, t4⟩ := hT
    have t := t1 q hq
    simp (disch := omega) only [wI_ne, wI_eq, upd_ne, upd_eq]
    exact t
  · obtain ⟨t1, t2, t3, t4⟩ := hT
    simp (disch := omega) only [wI_ne, wI_eq, upd_ne, upd_eq]
    exact t2
  · obtain ⟨t1, t2, t3, t4⟩ := hT
    simp (disch := omega) only [wI_ne, wI_eq, upd_ne, upd_eq]
    exact t3
  · obtain ⟨t1, t2, t3, t4⟩ := hT
    have t := t4 q hq
    by_cases e : q = p
    · rw [e] at *
      simp (disch := omega) only [wI_ne, wI_eq, upd_ne, upd_eq]
    · simp (disch := omega) only [wI_ne, wI_eq, upd_ne, upd_eq]
      exact t

theorem rel_end_m (h : Rel P A gi) (I : Inv N A) {b : Nat} {x y : Int32} (hl : live A b) (hb : b < 6) : Rel P (upd (upd (upd (upd A (103 + 5 * bV A b + 2) (-1)) (145 + 9 * b) 0) 7 x) 9 y) (wI (wI (wI (wI gi P 12 x) P 14 y) (P + 32 + bV A b) 2 (-1)) (P + 41 + b) 0 0) := by
  obtain ⟨hS, hR, hV, hL, hB, hT⟩ := h
  have i := I.b1 hb hl
  have hr4 := I.bR4 hb hl
  have hs4 := I.bS4 hb hl
  have hv6 := I.bV6 hb hl
  refine ⟨?_, relR_c hR (fun k h1 h2 => ?_) (fun j h1 h2 => ?_), fun q hq => ?_, relL_c hL (fun k h1 h2 => ?_) (fun j h1 h2 => ?_), fun q hq => ?_, relT_c hT (fun k h1 h2 => ?_) ?_ ?_ (fun j h1 h2 => ?_)⟩
  · obtain ⟨a1, a2, a3, a4, a5, a6, a7, a8, a9⟩ := hS
    refine ⟨?_, ?_, ?_, ?_, ?_, ?_, ?_, ?_, ?_⟩ <;> simp (disch := omega) only [wI_ne, wI_eq, upd_ne, upd_eq] <;> assumption
  · simp (disch := omega) only [wI_row]
  · simp (disch := omega) only [upd_ne]
  · by_cases e0 : q = (bV A b)
    · rw [e0]
      have hq2 := hV (bV A b) (Nat.lt_of_lt_of_le i.2.2.1.2.1 I.nV6)
      refine ⟨fun _ => ?_, fun z => absurd i.2.2.1.2.1 (Nat.not_lt.mpr (Nat.le_trans (Nat.le_of_eq (by unfold nV; simp (disch := omega) only [upd_ne])) z))⟩
      obtain ⟨b0, b1, b2, b3, b4⟩ := hq2.1 i.2.2.1.2.1
      refine ⟨?_, ?_, ?_, ?_, ?_⟩ <;> simp (disch := omega) only [wI_ne, wI_eq, upd_ne, upd_eq] <;> assumption
    · refine relV_o hV hq ?_ (fun w hw => ?_) ?_
      · simp (disch := omega) only [wI_row]
      · simp (disch := omega) only [upd_ne]
      · simp (disch := omega) only [upd_ne]
  · simp (disch := omega) only [wI_row]
  · simp (disch := omega) only [upd_ne]
  · by_cases e : q = b
    · rw [e]
      refine ⟨?_, fun hl2 => absurd hl2 ?_⟩
      · simp (disch := omega) only [wI_ne, wI_eq, upd_ne, upd_eq]
      · unfold live
        simp (disch := omega) only [wI_ne, wI_eq, upd_ne, upd_eq]
        decide
    · refine relB_o I hB hq ?_ (fun w hw => ?_) (fun j h1 h2 => ?_)
      · simp (disch := omega) only [wI_row]
      · simp (disch := omega) only [upd_ne]
      · simp (disch := omega) only [upd_ne]
  · simp (disch := omega) only [wI_row]
  · simp (disch := omega) only [upd_ne]
  · simp (disch := omega) only [upd_ne]
  · simp (disch := omega) only [upd_ne]

theorem rel_discard (h : Rel P A gi) (I : Inv N A) {b : Nat} {x : Int32} (hl : live A b) (hb : b < 6) : Rel P (upd (upd (upd A (103 + 5 * bV A b + 2) (-1)) (145 + 9 * b) 0) 8 x) (wI (wI (wI gi P 13 x) (P + 32 + bV A b) 2 (-1)) (P + 41 + b) 0 0) := by
  obtain ⟨hS, hR, hV, hL, hB, hT⟩ := h
  have i := I.b1 hb hl
  have hr4 := I.bR4 hb hl
  have hs4 := I.bS4 hb hl
  have hv6 := I.bV6 hb hl
  refine ⟨?_, relR_c hR (fun k h1 h2 => ?_) (fun j h1 h2 => ?_), fun q hq => ?_, relL_c hL (fun k h1 h2 => ?_) (fun j h1 h2 => ?_), fun q hq => ?_, relT_c hT (fun k h1 h2 => ?_) ?_ ?_ (fun j h1 h2 => ?_)⟩
  · obtain ⟨a1, a2, a3, a4, a5, a6, a7, a8, a9⟩ := hS
    refine ⟨?_, ?_, ?_, ?_, ?_, ?_, ?_, ?_, ?_⟩ <;> simp (disch := omega) only [wI_ne, wI_eq, upd_ne, upd_eq] <;> assumption
  · simp (disch := omega) only [wI_row]
  · simp (disch := omega) only [upd_ne]
  · by_cases e0 : q = (bV A b)
    · rw [e0]
      have hq2 := hV (bV A b) (Nat.lt_of_lt_of_le i.2.2.1.2.1 I.nV6)
      refine ⟨fun _ => ?_, fun z => absurd i.2.2.1.2.1 (Nat.not_lt.mpr (Nat.le_trans (Nat.le_of_eq (by unfold nV; simp (disch := omega) only [upd_ne])) z))⟩
      obtain ⟨b0, b1, b2, b3, b4⟩ := hq2.1 i.2.2.1.2.1
      refine ⟨?_, ?_, ?_, ?_, ?_⟩ <;> simp (disch := omega) only [wI_ne, wI_eq, upd_ne, upd_eq] <;> assumption
    · refine relV_o hV hq ?_ (fun w hw => ?_) ?_
      · simp (disch := omega) only [wI_row]
      · simp (disch := omega) only [upd_ne]
      · simp (disch := omega) only [upd_ne]
  · simp (disch := omega) only [wI_row]
  · simp (disch := omega) only [upd_ne]
  · by_cases e : q = b
    · rw [e]
      refine ⟨?_, fun hl2 => absurd hl2 ?_⟩
      · simp (disch := omega) only [wI_ne, wI_eq, upd_ne, upd_eq]
      · unfold live
        simp (disch := omega) only [wI_ne, wI_eq, upd_ne, upd_eq]
        decide
    · refine relB_o I hB hq ?_ (fun w hw => ?_) (fun j h1 h2 => ?_)
      · simp (disch := omega) only [wI_row]
      · simp (disch := omega) only [upd_ne]
      · simp (disch := omega) only [upd_ne]
  · simp (disch := omega) only [wI_row]
  · simp (disch := omega) only [upd_ne]
  · simp (disch := omega) only [upd_ne]
  · simp (disch := omega) only [upd_ne]

theorem rel_blend (h : Rel P A gi) (I : Inv N A) {b p : Nat} {x y z : Int32} (hl : live A b) (hb : b < 6) (hp : p < 4) : Rel P (upd (upd (upd A (11 + p) x) (145 + 9 * b + 7) y) (145 + 9 * b + 2) z) (wI (wI (wI gi (P + 7) p x) (P + 41 + b) 5 y) (P + 41 + b) 4 z) := by
  obtain ⟨hS, hR, hV, hL, hB, hT⟩ := h
  have i := I.b1 hb hl
  have hr4 := I.bR4 hb hl
  have hs4 := I.bS4 hb hl
  have hv6 := I.bV6 hb hl
  refine ⟨relS_c hS ?_ (fun j h1 h2 => ?_), relR_c hR (fun k h1 h2 => ?_) (fun j h1 h2 => ?_), relV_c hV (fun k h1 h2 => ?_) (fun j h1 h2 => ?_) ?_, relL_c hL (fun k h1 h2 => ?_) (fun j h1 h2 => ?_), fun q hq => ?_, ⟨fun q hq => ?_, ?_, ?_, fun q hq => ?_⟩⟩
  · simp (disch := omega) only [wI_row]
  · simp (disch := omega) only [upd_ne]
  · simp (disch := omega) only [wI_row]
  · simp (disch := omega) only [upd_ne]
  · simp (disch := omega) only [wI_row]
  · simp (disch := omega) only [upd_ne]
  · simp (disch := omega) only [upd_ne]
  · simp (disch := omega) only [wI_row]
  · simp (disch := omega) only [upd_ne]
  · by_cases e : q = b
    · rw [e]
      obtain ⟨g0, g1⟩ := hB b hb
      obtain ⟨f1, f2, f3, f4, f5, f6, f7, f8, f9, f10, f11, f12⟩ := g1 hl
      have hd := bat_c (A' := (upd (upd (upd A (11 + p) x) (145 + 9 * b + 7) y) (145 + 9 * b + 2) z)) hb hr4 hs4 (fun j h1 h2 => by simp (disch := omega) only [upd_ne]) (by simp (disch := omega) only [upd_ne]) (by simp (disch := omega) only [upd_ne]) (by simp (disch := omega) only [upd_ne])
      refine ⟨?_, fun _ => ?_⟩
      · simp (disch := omega) only [wI_ne, wI_eq, upd_ne, upd_eq]; exact g0
      · unfold RelB1
        rw [hd.2.2.1, hd.2.2.2.1, hd.2.2.2.2.1, hd.2.2.2.2.2]
        refine ⟨?_, ?_, ?_, ?_, ?_, ?_, ?_, ?_, ?_, ?_, ?_, ?_⟩ <;> simp (disch := omega) only [wI_ne, wI_eq, upd_ne, upd_eq] <;> assumption
    · refine relB_o I hB hq ?_ (fun w hw => ?_) (fun j h1 h2 => ?_)
      · simp (disch := omega) only [wI_row]
      · simp (disch := omega) only [upd_ne]
      · simp (disch := omega) only [upd_ne]
  · obtain ⟨t1, t2, t3, t4⟩ := hT
    have t := t1 q hq
    simp (disch := omega) only [wI_ne, wI_eq, upd_ne, upd_eq]
    exact t
  · obtain ⟨t1, t2, t3, t4⟩ := hT
    simp (disch := omega) only [wI_ne, wI_eq, upd_ne, upd_eq]
    exact t2
  · obtain ⟨t1, t2, t3, t4⟩ := hT
    simp (disch := omega) only [wI_ne, wI_eq, upd_ne, upd_eq]
    exact t3
  · obtain ⟨t1, t2, t3, t4⟩ := hT
    have t := t4 q hq
    by_cases e : q = p
    · rw [e] at *
      simp (disch := omega) only [wI_ne, wI_eq, upd_ne, upd_eq]
    · simp (disch := omega) only [wI_ne, wI_eq, upd_ne, upd_eq]
      exact t

theorem rel_spoil (h : Rel P A gi) (I : Inv N A) {b : Nat} {x : Int32} (hl : live A b) (hb : b < 6) : Rel P (upd A (145 + 9 * b + 6) x) (wI gi (P + 41 + b) 6 x) := by
  obtain ⟨hS, hR, hV, hL, hB, hT⟩ := h
  have i := I.b1 hb hl
  have hr4 := I.bR4 hb hl
  have hs4 := I.bS4 hb hl
  have hv6 := I.bV6 hb hl
  refine ⟨relS_c hS ?_ (fun j h1 h2 => ?_), relR_c hR (fun k h1 h2 => ?_) (fun j h1 h2 => ?_), relV_c hV (fun k h1 h2 => ?_) (fun j h1 h2 => ?_) ?_, relL_c hL (fun k h1 h2 => ?_) (fun j h1 h2 => ?_), fun q hq => ?_, relT_c hT (fun k h1 h2 => ?_) ?_ ?_ (fun j h1 h2 => ?_)⟩
  · simp (disch := omega) only [wI_row]
  · simp (disch := omega) only [upd_ne]
  · simp (disch := omega) only [wI_row]
  · simp (disch := omega) only [upd_ne]
  · simp (disch := omega) only [wI_row]
  · simp (disch := omega) only [upd_ne]
  · simp (disch := omega) only [upd_ne]
  · simp (disch := omega) only [wI_row]
  · simp (disch := omega) only [upd_ne]
  · by_cases e : q = b
    · rw [e]
      obtain ⟨g0, g1⟩ := hB b hb
      obtain ⟨f1, f2, f3, f4, f5, f6, f7, f8, f9, f10, f11, f12⟩ := g1 hl
      have hd := bat_c (A' := (upd A (145 + 9 * b + 6) x)) hb hr4 hs4 (fun j h1 h2 => by simp (disch := omega) only [upd_ne]) (by simp (disch := omega) only [upd_ne]) (by simp (disch := omega) only [upd_ne]) (by simp (disch := omega) only [upd_ne])
      refine ⟨?_, fun _ => ?_⟩
      · simp (disch := omega) only [wI_ne, wI_eq, upd_ne, upd_eq]; exact g0
      · unfold RelB1
        rw [hd.2.2.1, hd.2.2.2.1, hd.2.2.2.2.1, hd.2.2.2.2.2]
        refine ⟨?_, ?_, ?_, ?_, ?_, ?_, ?_, ?_, ?_, ?_, ?_, ?_⟩ <;> simp (disch := omega) only [wI_ne, wI_eq, upd_ne, upd_eq] <;> assumption
    · refine relB_o I hB hq ?_ (fun w hw => ?_) (fun j h1 h2 => ?_)
      · simp (disch := omega) only [wI_row]
      · simp (disch := omega) only [upd_ne]
      · simp (disch := omega) only [upd_ne]
  · simp (disch := omega) only [wI_row]
  · simp (disch := omega) only [upd_ne]
  · simp (disch := omega) only [upd_ne]
  · simp (disch := omega) only [upd_ne]

theorem rel_time (h : Rel P A gi) (I : Inv N A) {x : Int32} : Rel P (upd A 5 x) (wI gi P 10 x) := by
  obtain ⟨hS, hR, hV, hL, hB, hT⟩ := h
  refine ⟨?_, relR_c hR (fun k h1 h2 => ?_) (fun j h1 h2 => ?_), relV_c hV (fun k h1 h2 => ?_) (fun j h1 h2 => ?_) ?_, relL_c hL (fun k h1 h2 => ?_) (fun j h1 h2 => ?_), relB_c I.2.2.2.2.2.1 I.nR4 I.2.2.1 hB (fun k h1 h2 => ?_) (fun j h1 h2 => ?_) (fun j h1 h2 => ?_), relT_c hT (fun k h1 h2 => ?_) ?_ ?_ (fun j h1 h2 => ?_)⟩
  · obtain ⟨a1, a2, a3, a4, a5, a6, a7, a8, a9⟩ := hS
    refine ⟨?_, ?_, ?_, ?_, ?_, ?_, ?_, ?_, ?_⟩ <;> simp (disch := omega) only [wI_ne, wI_eq, upd_ne, upd_eq] <;> assumption
  · simp (disch := omega) only [wI_row]
  · simp (disch := omega) only [upd_ne]
  · simp (disch := omega) only [wI_row]
  · simp (disch := omega) only [upd_ne]
  · simp (disch := omega) only [upd_ne]
  · simp (disch := omega) only [wI_row]
  · simp (disch := omega) only [upd_ne]
  · simp (disch := omega) only [wI_row]
  · simp (disch := omega) only [upd_ne]
  · simp (disch := omega) only [upd_ne]
  · simp (disch := omega) only [wI_row]
  · simp (disch := omega) only [upd_ne]
  · simp (disch := omega) only [upd_ne]
  · simp (disch := omega) only [upd_ne]

theorem rel_bad (h : Rel P A gi) (I : Inv N A) {x : Int32} : Rel P (upd A 10 x) (wI gi P 15 x) := by
  obtain ⟨hS, hR, hV, hL, hB, hT⟩ := h
  refine ⟨?_, relR_c hR (fun k h1 h2 => ?_) (fun j h1 h2 => ?_), relV_c hV (fun k h1 h2 => ?_) (fun j h1 h2 => ?_) ?_, relL_c hL (fun k h1 h2 => ?_) (fun j h1 h2 => ?_), relB_c I.2.2.2.2.2.1 I.nR4 I.2.2.1 hB (fun k h1 h2 => ?_) (fun j h1 h2 => ?_) (fun j h1 h2 => ?_), relT_c hT (fun k h1 h2 => ?_) ?_ ?_ (fun j h1 h2 => ?_)⟩
  · obtain ⟨a1, a2, a3, a4, a5, a6, a7, a8, a9⟩ := hS
    refine ⟨?_, ?_, ?_, ?_, ?_, ?_, ?_, ?_, ?_⟩ <;> simp (disch := omega) only [wI_ne, wI_eq, upd_ne, upd_eq] <;> assumption
  · simp (disch := omega) only [wI_row]
  · simp (disch := omega) only [upd_ne]
  · simp (disch := omega) only [wI_row]
  · simp (disch := omega) only [upd_ne]
  · simp (disch := omega) only [upd_ne]
  · simp (disch := omega) only [wI_row]
  · simp (disch := omega) only [upd_ne]
  · simp (disch := omega) only [wI_row]
  · simp (disch := omega) only [upd_ne]
  · simp (disch := omega) only [upd_ne]
  · simp (disch := omega) only [wI_row]
  · simp (disch := omega) only [upd_ne]
  · simp (disch := omega) only [upd_ne]
  · simp (disch := omega) only [upd_ne]

theorem rel_begin (h : Rel P A gi) (I : Inv N A) {r v b : Nat} {m cl t x : Int32} (hr : r < nR A) (hv : v < nV A) (hb : b < 6) : Rel P (upd (upd (upd (upd (upd (upd (upd (upd (upd (upd (upd (upd (upd A (145 + 9 * b) 1) (145 + 9 * b + 1) (nI r)) (145 + 9 * b + 2) m) (145 + 9 * b + 3) 0) (145 + 9 * b + 6) 0) (145 + 9 * b + 7) 0) (145 + 9 * b + 8) m) (103 + 5 * v + 4) cl) (103 + 5 * v + 3) (A (31 + 18 * r))) (103 + 5 * v + 2) (nI b)) (145 + 9 * b + 4) (nI v)) (145 + 9 * b + 5) t) 6 x) (wI (wI (wI (wI (wI (wI (wI (wI (wI (wI (wI (wI (wI (wI (wI (wI (wI gi (P + 32 + v) 4 cl) (P + 32 + v) 2 (nI b)) (P + 32 + v) 3 (A (31 + 18 * r))) (P + 41 + b) 0 1) (P + 41 + b) 1 (nI r)) (P + 41 + b) 2 (A (31 + 18 * r))) (P + 41 + b) 3 m) (P + 41 + b) 4 m) (P + 41 + b) 5 0) (P + 41 + b) 6 0) (P + 41 + b) 7 0) (P + 41 + b) 8 (nI v)) (P + 41 + b) 9 t) (P + 41 + b) 10 (t + stg A r 0 1)) (P + 41 + b) 11 (t + stg A r 0 1 + stg A r 0 2)) (P + 41 + b) 12 (t + stg A r 0 1 + stg A r 0 3)) P 11 x) := by
  obtain ⟨hS, hR, hV, hL, hB, hT⟩ := h
  have hr4 : r < 4 := Nat.lt_of_lt_of_le hr I.nR4
  have hv6 : v < 6 := Nat.lt_of_lt_of_le hv I.nV6
  refine ⟨?_, relR_c hR (fun k h1 h2 => ?_) (fun j h1 h2 => ?_), fun q hq => ?_, relL_c hL (fun k h1 h2 => ?_) (fun j h1 h2 => ?_), fun q hq => ?_, relT_c hT (fun k h1 h2 => ?_) ?_ ?_ (fun j h1 h2 => ?_)⟩
  · obtain ⟨a1, a2, a3, a4, a5, a6, a7, a8, a9⟩ := hS
    refine ⟨?_, ?_, ?_, ?_, ?_, ?_, ?_, ?_, ?_⟩ <;> simp (disch := omega) only [wI_ne, wI_eq, upd_ne, upd_eq] <;> assumption
  · simp (disch := omega) only [wI_row]
  · simp (disch := omega) only [upd_ne]
  · by_cases e0 : q = v
    · rw [e0]
      have hq2 := hV v (Nat.lt_of_lt_of_le hv I.nV6)
      refine ⟨fun _ => ?_, fun z => absurd hv (Nat.not_lt.mpr (Nat.le_trans (Nat.le_of_eq (by unfold nV; simp (disch := omega) only [upd_ne])) z))⟩
      obtain ⟨b0, b1, b2, b3, b4⟩ := hq2.1 hv
      refine ⟨?_, ?_, ?_, ?_, ?_⟩ <;> simp (disch := omega) only [wI_ne, wI_eq, upd_ne, upd_eq] <;> assumption
    · refine relV_o hV hq ?_ (fun w hw => ?_) ?_
      · simp (disch := omega) only [wI_row]
      · simp (disch := omega) only [upd_ne]
      · simp (disch := omega) only [upd_ne]
  · simp (disch := omega) only [wI_row]
  · simp (disch := omega) only [upd_ne]
  · by_cases e : q = b
    · rw [e]
      have hr4 : r < 4 := Nat.lt_of_lt_of_le hr I.nR4
      have q1 : bR (upd (upd (upd (upd (upd (upd (upd (upd (upd (upd (upd (upd (upd A (145 + 9 * b) 1) (145 + 9 * b + 1) (nI r)) (145 + 9 * b + 2) m) (145 + 9 * b + 3) 0) (145 + 9 * b + 6) 0) (145 + 9 * b + 7) 0) (145 + 9 * b + 8) m) (103 + 5 * v + 4) cl) (103 + 5 * v + 3) (A (31 + 18 * r))) (103 + 5 * v + 2) (nI b)) (145 + 9 * b + 4) (nI v)) (145 + 9 * b + 5) t) 6 x) b = r := by unfold bR; simp (disch := omega) only [wI_ne, wI_eq, upd_ne, upd_eq]; exact iN_n (by omega)
      have q3 : bS (upd (upd (upd (upd (upd (upd (upd (upd (upd (upd (upd (upd (upd A (145 + 9 * b) 1) (145 + 9 * b + 1) (nI r)) (145 + 9 * b + 2) m) (145 + 9 * b + 3) 0) (145 + 9 * b + 6) 0) (145 + 9 * b + 7) 0) (145 + 9 * b + 8) m) (103 + 5 * v + 4) cl) (103 + 5 * v + 3) (A (31 + 18 * r))) (103 + 5 * v + 2) (nI b)) (145 + 9 * b + 4) (nI v)) (145 + 9 * b + 5) t) 6 x) b = 0 := by unfold bS; simp (disch := omega) only [wI_ne, wI_eq, upd_ne, upd_eq]; rfl
      have q5 : ∀ w, w < 4 → stg (upd (upd (upd (upd (upd (upd (upd (upd (upd (upd (upd (upd (upd A (145 + 9 * b) 1) (145 + 9 * b + 1) (nI r)) (145 + 9 * b + 2) m) (145 + 9 * b + 3) 0) (145 + 9 * b + 6) 0) (145 + 9 * b + 7) 0) (145 + 9 * b + 8) m) (103 + 5 * v + 4) cl) (103 + 5 * v + 3) (A (31 + 18 * r))) (103 + 5 * v + 2) (nI b)) (145 + 9 * b + 4) (nI v)) (145 + 9 * b + 5) t) 6 x) r 0 w = stg A r 0 w := fun w hw => by unfold stg; simp (disch := omega) only [upd_ne]
      refine ⟨?_, fun _ => ?_⟩
      · simp (disch := omega) only [wI_ne, wI_eq, upd_ne, upd_eq]
      · unfold RelB1 rpF gdF ovF prF
        rw [q1, q3, q5 1 (by omega), q5 2 (by omega), q5 3 (by omega)]
        refine ⟨?_, ?_, ?_, ?_, ?_, ?_, ?_, ?_, ?_, ?_, ?_, ?_⟩ <;> simp (disch := omega) only [wI_ne, wI_eq, upd_ne, upd_eq]
    · refine relB_o I hB hq ?_ (fun w hw => ?_) (fun j h1 h2 => ?_)
      · simp (disch := omega) only [wI_row]
      · simp (disch := omega) only [upd_ne]
      · simp (disch := omega) only [upd_ne]
  · simp (disch := omega) only [wI_row]
  · simp (disch := omega) only [upd_ne]
  · simp (disch := omega) only [upd_ne]
  · simp (disch := omega) only [upd_ne]

theorem rel_move (h : Rel P A gi) (I : Inv N A) {u v b k : Nat} {m cl t x c s1 pr : Int32} (hl : live A b) (hb : b < 6) (hu : u < nV A) (hv : v < nV A) (huv : u ≠ v) (hk : k < 3) (hs1 : s1 = nI (bS A b + 1)) (hs2 : bS A b + 1 < 4) : Rel P (upd (upd (upd (upd (upd (upd (upd (upd (upd (upd (upd A (133 + 4 * k + 2) t) (133 + 4 * k + 3) c) (103 + 5 * u + 2) (-1)) (103 + 5 * v + 4) cl) (103 + 5 * v + 3) pr) (103 + 5 * v + 2) (nI b)) (145 + 9 * b + 4) (nI v)) (145 + 9 * b + 5) t) (145 + 9 * b + 3) s1) 8 x) (145 + 9 * b + 2) m) (wI (wI (wI (wI (wI (wI (wI (wI (wI (wI (wI (wI (wI (wI gi (P + 32 + u) 2 (-1)) (P + 32 + v) 4 cl) (P + 32 + v) 2 (nI b)) (P + 32 + v) 3 pr) (P + 38 + k) 2 t) (P + 38 + k) 3 c) P 13 x) (P + 41 + b) 4 m) (P + 41 + b) 7 s1) (P + 41 + b) 8 (nI v)) (P + 41 + b) 9 t) (P + 41 + b) 10 (t + stg A (bR A b) (bS A b + 1) 1)) (P + 41 + b) 11 (t + stg A (bR A b) (bS A b + 1) 1 + stg A (bR A b) (bS A b + 1) 2)) (P + 41 + b) 12 (t + stg A (bR A b) (bS A b + 1) 1 + stg A (bR A b) (bS A b + 1) 3)) := by
  obtain ⟨hS, hR, hV, hL, hB, hT⟩ := h
  have i := I.b1 hb hl
  have hr4 := I.bR4 hb hl
  have hs4 := I.bS4 hb hl
  have hv6 := I.bV6 hb hl
  have hv6 : v < 6 := Nat.lt_of_lt_of_le hv I.nV6
  have hu6 : u < 6 := Nat.lt_of_lt_of_le hu I.nV6
  refine ⟨?_, relR_c hR (fun k h1 h2 => ?_) (fun j h1 h2 => ?_), fun q hq => ?_, fun q hq => ?_, fun q hq => ?_, relT_c hT (fun k h1 h2 => ?_) ?_ ?_ (fun j h1 h2 => ?_)⟩
  · obtain ⟨a1, a2, a3, a4, a5, a6, a7, a8, a9⟩ := hS
    refine ⟨?_, ?_, ?_, ?_, ?_, ?_, ?_, ?_, ?_⟩ <;> simp (disch := omega) only [wI_ne, wI_eq, upd_ne, upd_eq] <;> assumption
  · simp (disch := omega) only [wI_row]
  · simp (disch := omega) only [upd_ne]
  · by_cases e0 : q = v
    · rw [e0]
      have hq2 := hV v (Nat.lt_of_lt_of_le hv I.nV6)
      refine ⟨fun _ => ?_, fun z => absurd hv (Nat.not_lt.mpr (Nat.le_trans (Nat.le_of_eq (by unfold nV; simp (disch := omega) only [upd_ne])) z))⟩
      obtain ⟨b0, b1, b2, b3, b4⟩ := hq2.1 hv
      refine ⟨?_, ?_, ?_, ?_, ?_⟩ <;> simp (disch := omega) only [wI_ne, wI_eq, upd_ne, upd_eq] <;> assumption
    · by_cases e1 : q = u
      · rw [e1]
        have hq2 := hV u (Nat.lt_of_lt_of_le hu I.nV6)
        refine ⟨fun _ => ?_, fun z => absurd hu (Nat.not_lt.mpr (Nat.le_trans (Nat.le_of_eq (by unfold nV; simp (disch := omega) only [upd_ne])) z))⟩
        obtain ⟨b0, b1, b2, b3, b4⟩ := hq2.1 hu
        refine ⟨?_, ?_, ?_, ?_, ?_⟩ <;> simp (disch := omega) only [wI_ne, wI_eq, upd_ne, upd_eq] <;> assumption
      · refine relV_o hV hq ?_ (fun w hw => ?_) ?_
        · simp (disch := omega) only [wI_row]
        · simp (disch := omega) only [upd_ne]
        · simp (disch := omega) only [upd_ne]
  · by_cases e : q = k
    · rw [e]
      obtain ⟨b0, b1, b2, b3⟩ := hL k hk
      refine ⟨?_, ?_, ?_, ?_⟩ <;> simp (disch := omega) only [wI_ne, wI_eq, upd_ne, upd_eq] <;> assumption
    · have hq2 := hL q hq
      simp (disch := omega) only [wI_ne, wI_eq, upd_ne, upd_eq]
      exact hq2
  · by_cases e : q = b
    · rw [e]
      obtain ⟨g0, g1⟩ := hB b hb
      obtain ⟨f1, f2, f3, f4, f5, f6, f7, f8, f9, f10, f11, f12⟩ := g1 hl
      have q1 : bR (upd (upd (upd (upd (upd (upd (upd (upd (upd (upd (upd A (133 + 4 * k + 2) t) (133 + 4 * k + 3) c) (103 + 5 * u + 2) (-1)) (103 + 5 * v + 4) cl) (103 + 5 * v + 3) pr) (103 + 5 * v + 2) (nI b)) (145 + 9 * b + 4) (nI v)) (145 + 9 * b + 5) t) (145 + 9 * b + 3) s1) 8 x) (145 + 9 * b + 2) m) b = bR A b := by unfold bR; simp (disch := omega) only [wI_ne, wI_eq, upd_ne, upd_eq]
      have q3 : bS (upd (upd (upd (upd (upd (upd (upd (upd (upd (upd (upd A (133 + 4 * k + 2) t) (133 + 4 * k + 3) c) (103 + 5 * u + 2) (-1)) (103 + 5 * v + 4) cl) (103 + 5 * v + 3) pr) (103 + 5 * v + 2) (nI b)) (145 + 9 * b + 4) (nI v)) (145 + 9 * b + 5) t) (145 + 9 * b + 3) s1) 8 x) (145 + 9 * b + 2) m) b = bS A b + 1 := by unfold bS; simp (disch := omega) only [wI_ne, wI_eq, upd_ne, upd_eq]; rw [hs1]; exact iN_n (by omega)
      have q5 : ∀ w, w < 4 → stg (upd (upd (upd (upd (upd (upd (upd (upd (upd (upd (upd A (133 + 4 * k + 2) t) (133 + 4 * k + 3) c) (103 + 5 * u + 2) (-1)) (103 + 5 * v + 4) cl) (103 + 5 * v + 3) pr) (103 + 5 * v + 2) (nI b)) (145 + 9 * b + 4) (nI v)) (145 + 9 * b + 5) t) (145 + 9 * b + 3) s1) 8 x) (145 + 9 * b + 2) m) (bR A b) (bS A b + 1) w = stg A (bR A b) (bS A b + 1) w := fun w hw => by unfold stg; simp (disch := omega) only [upd_ne]
      refine ⟨?_, fun _ => ?_⟩
      · simp (disch := omega) only [wI_ne, wI_eq, upd_ne, upd_eq]; exact g0
      · unfold RelB1 rpF gdF ovF prF
        rw [q1, q3, q5 1 (by omega), q5 2 (by omega), q5 3 (by omega)]
        unfold prF at f2
        refine ⟨?_, ?_, ?_, ?_, ?_, ?_, ?_, ?_, ?_, ?_, ?_, ?_⟩ <;> simp (disch := omega) only [wI_ne, wI_eq, upd_ne, upd_eq] <;> assumption
    · refine relB_o I hB hq ?_ (fun w hw => ?_) (fun j h1 h2 => ?_)
      · simp (disch := omega) only [wI_row]
      · simp (disch := omega) only [upd_ne]
      · simp (disch := omega) only [upd_ne]
  · simp (disch := omega) only [wI_row]
  · simp (disch := omega) only [upd_ne]
  · simp (disch := omega) only [upd_ne]
  · simp (disch := omega) only [upd_ne]

end RB
end
