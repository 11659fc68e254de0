section
-- ===== PART A: goes FIRST, ahead of the names: the tables' words, and 'selects' of the private methods out of them =====
/-- a private method of a class that the tables say can be made, by its rows of tables_1 -/
def lw_okq (q : MethodName × Nat) : Prop := (q.1.cls ≠ "java/lang/invoke/MethodHandle" ∧ q.1.cls ≠ "java/lang/invoke/VarHandle") ∧ Cond.instantiable q.1.cls q.2 ∈ tables_1 ∧ Cond.privateMethod q.1 ∈ tables_1 ∧ Cond.instanceMethod q.1 ∈ tables_1
theorem lw_p0 : lw_okq (⟨"ReadingRoom$Seating", "firstSeatWith", "(I)I"⟩, 4) := ⟨⟨by decide +kernel, by decide +kernel⟩, List.mem_of_getElem? (i := 22) (by decide +kernel), List.mem_of_getElem? (i := 161) (by decide +kernel), List.mem_of_getElem? (i := 162) (by decide +kernel)⟩
theorem lw_p1 : lw_okq (⟨"ReadingRoom$Seating", "dropFromRow", "(I)V"⟩, 4) := ⟨⟨by decide +kernel, by decide +kernel⟩, List.mem_of_getElem? (i := 22) (by decide +kernel), List.mem_of_getElem? (i := 185) (by decide +kernel), List.mem_of_getElem? (i := 186) (by decide +kernel)⟩
theorem lw_p2 : lw_okq (⟨"ReadingRoom", "isTime", "(I)Z"⟩, 5) := ⟨⟨by decide +kernel, by decide +kernel⟩, List.mem_of_getElem? (i := 14) (by decide +kernel), List.mem_of_getElem? (i := 197) (by decide +kernel), List.mem_of_getElem? (i := 198) (by decide +kernel)⟩
theorem lw_p3 : lw_okq (⟨"ReadingRoom$Requests", "isRunningBy", "(II)Z"⟩, 7) := ⟨⟨by decide +kernel, by decide +kernel⟩, List.mem_of_getElem? (i := 94) (by decide +kernel), List.mem_of_getElem? (i := 207) (by decide +kernel), List.mem_of_getElem? (i := 208) (by decide +kernel)⟩
theorem lw_p4 : lw_okq (⟨"ReadingRoom", "isRightTooLow", "(II)Z"⟩, 5) := ⟨⟨by decide +kernel, by decide +kernel⟩, List.mem_of_getElem? (i := 14) (by decide +kernel), List.mem_of_getElem? (i := 216) (by decide +kernel), List.mem_of_getElem? (i := 217) (by decide +kernel)⟩
theorem lw_p5 : lw_okq (⟨"ReadingRoom", "sendFor", "(II)V"⟩, 5) := ⟨⟨by decide +kernel, by decide +kernel⟩, List.mem_of_getElem? (i := 14) (by decide +kernel), List.mem_of_getElem? (i := 267) (by decide +kernel), List.mem_of_getElem? (i := 268) (by decide +kernel)⟩
theorem lw_p6 : lw_okq (⟨"ReadingRoom", "withdrawFromLowRights", "(I)I"⟩, 5) := ⟨⟨by decide +kernel, by decide +kernel⟩, List.mem_of_getElem? (i := 14) (by decide +kernel), List.mem_of_getElem? (i := 323) (by decide +kernel), List.mem_of_getElem? (i := 324) (by decide +kernel)⟩
theorem lw_p7 : lw_okq (⟨"ReadingRoom$Readers", "copiedOn", "(II)I"⟩, 5) := ⟨⟨by decide +kernel, by decide +kernel⟩, List.mem_of_getElem? (i := 51) (by decide +kernel), List.mem_of_getElem? (i := 353) (by decide +kernel), List.mem_of_getElem? (i := 354) (by decide +kernel)⟩
theorem lw_p8 : lw_okq (⟨"ReadingRoom$Requests", "endAtClosing", "(II)V"⟩, 7) := ⟨⟨by decide +kernel, by decide +kernel⟩, List.mem_of_getElem? (i := 94) (by decide +kernel), List.mem_of_getElem? (i := 369) (by decide +kernel), List.mem_of_getElem? (i := 370) (by decide +kernel)⟩
theorem lw_p9 : lw_okq (⟨"java/lang/Throwable", "fillInStackTrace", "(I)Ljava/lang/Throwable;"⟩, 6) := ⟨⟨by decide +kernel, by decide +kernel⟩, List.mem_of_getElem? (i := 454) (by decide +kernel), List.mem_of_getElem? (i := 452) (by decide +kernel), List.mem_of_getElem? (i := 453) (by decide +kernel)⟩
theorem lw_p10 : lw_okq (⟨"ReadingRoomModel", "seatOf", "(I)I"⟩, 22) := ⟨⟨by decide +kernel, by decide +kernel⟩, List.mem_of_getElem? (i := 510) (by decide +kernel), List.mem_of_getElem? (i := 597) (by decide +kernel), List.mem_of_getElem? (i := 598) (by decide +kernel)⟩
theorem lw_p11 : lw_okq (⟨"ReadingRoomModel", "waitOf", "(I)I"⟩, 22) := ⟨⟨by decide +kernel, by decide +kernel⟩, List.mem_of_getElem? (i := 510) (by decide +kernel), List.mem_of_getElem? (i := 601) (by decide +kernel), List.mem_of_getElem? (i := 602) (by decide +kernel)⟩
theorem lw_p12 : lw_okq (⟨"ReadingRoomModel", "has", "(I)I"⟩, 22) := ⟨⟨by decide +kernel, by decide +kernel⟩, List.mem_of_getElem? (i := 510) (by decide +kernel), List.mem_of_getElem? (i := 609) (by decide +kernel), List.mem_of_getElem? (i := 610) (by decide +kernel)⟩
theorem lw_p13 : lw_okq (⟨"ReadingRoomModel", "leaveRow", "(I)V"⟩, 22) := ⟨⟨by decide +kernel, by decide +kernel⟩, List.mem_of_getElem? (i := 510) (by decide +kernel), List.mem_of_getElem? (i := 613) (by decide +kernel), List.mem_of_getElem? (i := 614) (by decide +kernel)⟩
theorem lw_p14 : lw_okq (⟨"ReadingRoomModel", "isNow", "(I)Z"⟩, 22) := ⟨⟨by decide +kernel, by decide +kernel⟩, List.mem_of_getElem? (i := 510) (by decide +kernel), List.mem_of_getElem? (i := 632) (by decide +kernel), List.mem_of_getElem? (i := 633) (by decide +kernel)⟩
theorem lw_p15 : lw_okq (⟨"ReadingRoomModel", "lives", "(I)Z"⟩, 22) := ⟨⟨by decide +kernel, by decide +kernel⟩, List.mem_of_getElem? (i := 510) (by decide +kernel), List.mem_of_getElem? (i := 637) (by decide +kernel), List.mem_of_getElem? (i := 638) (by decide +kernel)⟩
def lw_privs_1 : List (MethodName × Nat) := [(⟨"ReadingRoom$Seating", "firstSeatWith", "(I)I"⟩, 4), (⟨"ReadingRoom$Seating", "dropFromRow", "(I)V"⟩, 4), (⟨"ReadingRoom", "isTime", "(I)Z"⟩, 5), (⟨"ReadingRoom$Requests", "isRunningBy", "(II)Z"⟩, 7), (⟨"ReadingRoom", "isRightTooLow", "(II)Z"⟩, 5), (⟨"ReadingRoom", "sendFor", "(II)V"⟩, 5), (⟨"ReadingRoom", "withdrawFromLowRights", "(I)I"⟩, 5), (⟨"ReadingRoom$Readers", "copiedOn", "(II)I"⟩, 5), (⟨"ReadingRoom$Requests", "endAtClosing", "(II)V"⟩, 7), (⟨"java/lang/Throwable", "fillInStackTrace", "(I)Ljava/lang/Throwable;"⟩, 6), (⟨"ReadingRoomModel", "seatOf", "(I)I"⟩, 22), (⟨"ReadingRoomModel", "waitOf", "(I)I"⟩, 22), (⟨"ReadingRoomModel", "has", "(I)I"⟩, 22), (⟨"ReadingRoomModel", "leaveRow", "(I)V"⟩, 22), (⟨"ReadingRoomModel", "isNow", "(I)Z"⟩, 22), (⟨"ReadingRoomModel", "lives", "(I)Z"⟩, 22)]
theorem lw_r1 : ∀ q ∈ lw_privs_1, lw_okq q := List.forall_mem_cons.mpr ⟨lw_p0, List.forall_mem_cons.mpr ⟨lw_p1, List.forall_mem_cons.mpr ⟨lw_p2, List.forall_mem_cons.mpr ⟨lw_p3, List.forall_mem_cons.mpr ⟨lw_p4, List.forall_mem_cons.mpr ⟨lw_p5, List.forall_mem_cons.mpr ⟨lw_p6, List.forall_mem_cons.mpr ⟨lw_p7, List.forall_mem_cons.mpr ⟨lw_p8, List.forall_mem_cons.mpr ⟨lw_p9, List.forall_mem_cons.mpr ⟨lw_p10, List.forall_mem_cons.mpr ⟨lw_p11, List.forall_mem_cons.mpr ⟨lw_p12, List.forall_mem_cons.mpr ⟨lw_p13, List.forall_mem_cons.mpr ⟨lw_p14, List.forall_mem_cons.mpr ⟨lw_p15, fun _ h => absurd h List.not_mem_nil⟩⟩⟩⟩⟩⟩⟩⟩⟩⟩⟩⟩⟩⟩⟩⟩
theorem lw_p16 : lw_okq (⟨"ReadingRoomModel", "living", "(I)I"⟩, 22) := ⟨⟨by decide +kernel, by decide +kernel⟩, List.mem_of_getElem? (i := 510) (by decide +kernel), List.mem_of_getElem? (i := 641) (by decide +kernel), List.mem_of_getElem? (i := 642) (by decide +kernel)⟩
theorem lw_p17 : lw_okq (⟨"ReadingRoomModel", "ahead", "(I)I"⟩, 22) := ⟨⟨by decide +kernel, by decide +kernel⟩, List.mem_of_getElem? (i := 510) (by decide +kernel), List.mem_of_getElem? (i := 649) (by decide +kernel), List.mem_of_getElem? (i := 650) (by decide +kernel)⟩
theorem lw_p18 : lw_okq (⟨"ReadingRoomModel", "fetchFor", "(II)I"⟩, 22) := ⟨⟨by decide +kernel, by decide +kernel⟩, List.mem_of_getElem? (i := 510) (by decide +kernel), List.mem_of_getElem? (i := 653) (by decide +kernel), List.mem_of_getElem? (i := 654) (by decide +kernel)⟩
def lw_privs_2 : List (MethodName × Nat) := [(⟨"ReadingRoomModel", "living", "(I)I"⟩, 22), (⟨"ReadingRoomModel", "ahead", "(I)I"⟩, 22), (⟨"ReadingRoomModel", "fetchFor", "(II)I"⟩, 22)]
theorem lw_r2 : ∀ q ∈ lw_privs_2, lw_okq q := List.forall_mem_cons.mpr ⟨lw_p16, List.forall_mem_cons.mpr ⟨lw_p17, List.forall_mem_cons.mpr ⟨lw_p18, fun _ h => absurd h List.not_mem_nil⟩⟩⟩
def lw_privs : List (MethodName × Nat) := lw_privs_1 ++ (lw_privs_2)
def lw_tbl : List Cond := k2_sels lw_privs ++ tables_1
theorem lw_privs_ok : ∀ q ∈ lw_privs, lw_okq q := by
  show ∀ q ∈ lw_privs_1 ++ (lw_privs_2), lw_okq q
  exact List.forall_mem_append.mpr ⟨lw_r1, lw_r2⟩
end
section
def R_H : String := "ReadingRoom$Holdings"
def F_H : u_T := fun k => match k with
  | 0 => ("ReadingRoom$Holdings", "places", "[I", true)
  | 1 => ("ReadingRoom$Holdings", "conditions", "[I", true)
  | 2 => ("ReadingRoom$Holdings", "restrictions", "[I", true)
  | _ => ("ReadingRoom$Holdings", "requestNumbers", "[I", true)
def t_H : Nat → FieldType := fun k => match k with
  | 0 => .array .int
  | 1 => .array .int
  | 2 => .array .int
  | _ => .array .int
theorem n_H : ∀ a, a < 4 → ∀ b, b < 4 → a ≠ b → (F_H a).2.1 ≠ (F_H b).2.1 := by decide +kernel
theorem t_H_ok : ∀ k, k < 4 → parseFieldDescriptor (F_H k).2.2.1 = some (t_H k) := by decide +kernel
abbrev b_H_init : ByteArray := prog_2_method_1_code
def y_H_init : MethodName := ⟨R_H, "<init>", "()V"⟩
abbrev b_H_placeOf : ByteArray := prog_2_method_2_code
def y_H_placeOf : MethodName := ⟨R_H, "placeOf", "(I)I"⟩
abbrev b_H_conditionOf : ByteArray := prog_2_method_3_code
def y_H_conditionOf : MethodName := ⟨R_H, "conditionOf", "(I)I"⟩
abbrev b_H_restrictionOf : ByteArray := prog_2_method_4_code
def y_H_restrictionOf : MethodName := ⟨R_H, "restrictionOf", "(I)I"⟩
abbrev b_H_requestOf : ByteArray := prog_2_method_5_code
def y_H_requestOf : MethodName := ⟨R_H, "requestOf", "(I)I"⟩
abbrev b_H_put : ByteArray := prog_2_method_6_code
def y_H_put : MethodName := ⟨R_H, "put", "(III)V"⟩
abbrev b_H_setCondition : ByteArray := prog_2_method_7_code
def y_H_setCondition : MethodName := ⟨R_H, "setCondition", "(II)V"⟩
abbrev b_H_setRestriction : ByteArray := prog_2_method_8_code
def y_H_setRestriction : MethodName := ⟨R_H, "setRestriction", "(II)V"⟩
abbrev b_H_storeAll : ByteArray := prog_2_method_9_code
def y_H_storeAll : MethodName := ⟨R_H, "storeAll", "()I"⟩
def R_R : String := "ReadingRoom$Readers"
def F_R : u_T := fun k => match k with
  | 0 => ("ReadingRoom$Readers", "rights", "[I", true)
  | 1 => ("ReadingRoom$Readers", "requestLimits", "[I", true)
  | 2 => ("ReadingRoom$Readers", "pageLimits", "[I", true)
  | 3 => ("ReadingRoom$Readers", "copyDays", "[I", true)
  | _ => ("ReadingRoom$Readers", "copiedPages", "[I", true)
def t_R : Nat → FieldType := fun k => match k with
  | 0 => .array .int
  | 1 => .array .int
  | 2 => .array .int
  | 3 => .array .int
  | _ => .array .int
theorem n_R : ∀ a, a < 5 → ∀ b, b < 5 → a ≠ b → (F_R a).2.1 ≠ (F_R b).2.1 := by decide +kernel
theorem t_R_ok : ∀ k, k < 5 → parseFieldDescriptor (F_R k).2.2.1 = some (t_R k) := by decide +kernel
abbrev b_R_init : ByteArray := prog_3_method_1_code
def y_R_init : MethodName := ⟨R_R, "<init>", "()V"⟩
abbrev b_R_rightOf : ByteArray := prog_3_method_2_code
def y_R_rightOf : MethodName := ⟨R_R, "rightOf", "(I)I"⟩
abbrev b_R_requestLimitOf : ByteArray := prog_3_method_3_code
def y_R_requestLimitOf : MethodName := ⟨R_R, "requestLimitOf", "(I)I"⟩
abbrev b_R_copiedLatelyBy : ByteArray := prog_3_method_4_code
def y_R_copiedLatelyBy : MethodName := ⟨R_R, "copiedLatelyBy", "(I)I"⟩
abbrev b_R_pagesLeft : ByteArray := prog_3_method_5_code
def y_R_pagesLeft : MethodName := ⟨R_R, "pagesLeft", "(II)I"⟩
abbrev b_R_setRight : ByteArray := prog_3_method_6_code
def y_R_setRight : MethodName := ⟨R_R, "setRight", "(II)V"⟩
abbrev b_R_setLimits : ByteArray := prog_3_method_7_code
def y_R_setLimits : MethodName := ⟨R_R, "setLimits", "(III)V"⟩
abbrev b_R_addCopied : ByteArray := prog_3_method_8_code
def y_R_addCopied : MethodName := ⟨R_R, "addCopied", "(III)V"⟩
abbrev b_R_copiedOn : ByteArray := prog_3_method_9_code
def y_R_copiedOn : MethodName := ⟨R_R, "copiedOn", "(II)I"⟩
def R_Q : String := "ReadingRoom$Requests"
def F_Q : u_T := fun k => match k with
  | 0 => ("ReadingRoom$Requests", "persons", "[I", true)
  | 1 => ("ReadingRoom$Requests", "units", "[I", true)
  | 2 => ("ReadingRoom$Requests", "states", "[I", true)
  | 3 => ("ReadingRoom$Requests", "askTimes", "[I", true)
  | 4 => ("ReadingRoom$Requests", "handOutTimes", "[I", true)
  | 5 => ("ReadingRoom$Requests", "backTimes", "[I", true)
  | _ => ("ReadingRoom$Requests", "count", "I", false)
def t_Q : Nat → FieldType := fun k => match k with
  | 0 => .array .int
  | 1 => .array .int
  | 2 => .array .int
  | 3 => .array .int
  | 4 => .array .int
  | 5 => .array .int
  | _ => .int
theorem n_Q : ∀ a, a < 7 → ∀ b, b < 7 → a ≠ b → (F_Q a).2.1 ≠ (F_Q b).2.1 := by decide +kernel
theorem t_Q_ok : ∀ k, k < 7 → parseFieldDescriptor (F_Q k).2.2.1 = some (t_Q k) := by decide +kernel
abbrev b_Q_init : ByteArray := prog_4_method_1_code
def y_Q_init : MethodName := ⟨R_Q, "<init>", "()V"⟩
abbrev b_Q_has : ByteArray := prog_4_method_2_code
def y_Q_has : MethodName := ⟨R_Q, "has", "(I)Z"⟩
abbrev b_Q_isFull : ByteArray := prog_4_method_3_code
def y_Q_isFull : MethodName := ⟨R_Q, "isFull", "()Z"⟩
abbrev b_Q_personOf : ByteArray := prog_4_method_4_code
def y_Q_personOf : MethodName := ⟨R_Q, "personOf", "(I)I"⟩
abbrev b_Q_unitOf : ByteArray := prog_4_method_5_code
def y_Q_unitOf : MethodName := ⟨R_Q, "unitOf", "(I)I"⟩
abbrev b_Q_stateOf : ByteArray := prog_4_method_6_code
def y_Q_stateOf : MethodName := ⟨R_Q, "stateOf", "(I)I"⟩
abbrev b_Q_askedAt : ByteArray := prog_4_method_7_code
def y_Q_askedAt : MethodName := ⟨R_Q, "askedAt", "(I)I"⟩
abbrev b_Q_handedOutAt : ByteArray := prog_4_method_8_code
def y_Q_handedOutAt : MethodName := ⟨R_Q, "handedOutAt", "(I)I"⟩
abbrev b_Q_backAt : ByteArray := prog_4_method_9_code
def y_Q_backAt : MethodName := ⟨R_Q, "backAt", "(I)I"⟩
abbrev b_Q_isOpenFor : ByteArray := prog_4_method_10_code
def y_Q_isOpenFor : MethodName := ⟨R_Q, "isOpenFor", "(II)Z"⟩
abbrev b_Q_isRunning : ByteArray := prog_4_method_11_code
def y_Q_isRunning : MethodName := ⟨R_Q, "isRunning", "(II)Z"⟩
abbrev b_Q_countRunning : ByteArray := prog_4_method_12_code
def y_Q_countRunning : MethodName := ⟨R_Q, "countRunning", "(I)I"⟩
abbrev b_Q_countHandedOut : ByteArray := prog_4_method_13_code
def y_Q_countHandedOut : MethodName := ⟨R_Q, "countHandedOut", "(I)I"⟩
abbrev b_Q_countOpen : ByteArray := prog_4_method_14_code
def y_Q_countOpen : MethodName := ⟨R_Q, "countOpen", "(I)I"⟩
abbrev b_Q_openOf : ByteArray := prog_4_method_15_code
def y_Q_openOf : MethodName := ⟨R_Q, "openOf", "(II)I"⟩
abbrev b_Q_add : ByteArray := prog_4_method_16_code
def y_Q_add : MethodName := ⟨R_Q, "add", "(III)I"⟩
abbrev b_Q_setState : ByteArray := prog_4_method_17_code
def y_Q_setState : MethodName := ⟨R_Q, "setState", "(II)V"⟩
abbrev b_Q_markHandedOut : ByteArray := prog_4_method_18_code
def y_Q_markHandedOut : MethodName := ⟨R_Q, "markHandedOut", "(II)V"⟩
abbrev b_Q_markBack : ByteArray := prog_4_method_19_code
def y_Q_markBack : MethodName := ⟨R_Q, "markBack", "(II)V"⟩
abbrev b_Q_endAll : ByteArray := prog_4_method_20_code
def y_Q_endAll : MethodName := ⟨R_Q, "endAll", "(I)V"⟩
abbrev b_Q_endAtClosing : ByteArray := prog_4_method_21_code
def y_Q_endAtClosing : MethodName := ⟨R_Q, "endAtClosing", "(II)V"⟩
abbrev b_Q_isRunningBy : ByteArray := prog_4_method_22_code
def y_Q_isRunningBy : MethodName := ⟨R_Q, "isRunningBy", "(II)Z"⟩
def R_S : String := "ReadingRoom$Seating"
def F_S : u_T := fun k => match k with
  | 0 => ("ReadingRoom$Seating", "seats", "I", true)
  | 1 => ("ReadingRoom$Seating", "sitters", "[I", true)
  | 2 => ("ReadingRoom$Seating", "row", "[I", true)
  | _ => ("ReadingRoom$Seating", "rowLength", "I", false)
def t_S : Nat → FieldType := fun k => match k with
  | 0 => .int
  | 1 => .array .int
  | 2 => .array .int
  | _ => .int
theorem n_S : ∀ a, a < 4 → ∀ b, b < 4 → a ≠ b → (F_S a).2.1 ≠ (F_S b).2.1 := by decide +kernel
theorem t_S_ok : ∀ k, k < 4 → parseFieldDescriptor (F_S k).2.2.1 = some (t_S k) := by decide +kernel
abbrev b_S_init : ByteArray := prog_5_method_1_code
def y_S_init : MethodName := ⟨R_S, "<init>", "(I)V"⟩
abbrev b_S_isSeated : ByteArray := prog_5_method_2_code
def y_S_isSeated : MethodName := ⟨R_S, "isSeated", "(I)Z"⟩
abbrev b_S_isPresent : ByteArray := prog_5_method_3_code
def y_S_isPresent : MethodName := ⟨R_S, "isPresent", "(I)Z"⟩
abbrev b_S_seatOf : ByteArray := prog_5_method_4_code
def y_S_seatOf : MethodName := ⟨R_S, "seatOf", "(I)I"⟩
abbrev b_S_placeInRow : ByteArray := prog_5_method_5_code
def y_S_placeInRow : MethodName := ⟨R_S, "placeInRow", "(I)I"⟩
abbrev b_S_admit : ByteArray := prog_5_method_6_code
def y_S_admit : MethodName := ⟨R_S, "admit", "(I)I"⟩
abbrev b_S_release : ByteArray := prog_5_method_7_code
def y_S_release : MethodName := ⟨R_S, "release", "(I)I"⟩
abbrev b_S_clear : ByteArray := prog_5_method_8_code
def y_S_clear : MethodName := ⟨R_S, "clear", "()V"⟩
abbrev b_S_firstSeatWith : ByteArray := prog_5_method_9_code
def y_S_firstSeatWith : MethodName := ⟨R_S, "firstSeatWith", "(I)I"⟩
abbrev b_S_dropFromRow : ByteArray := prog_5_method_10_code
def y_S_dropFromRow : MethodName := ⟨R_S, "dropFromRow", "(I)V"⟩
def R_X : String := "ReadingRoom"
def F_X : u_T := fun k => match k with
  | 0 => ("ReadingRoom", "seating", "LReadingRoom$Seating;", true)
  | 1 => ("ReadingRoom", "readers", "LReadingRoom$Readers;", true)
  | 2 => ("ReadingRoom", "holdings", "LReadingRoom$Holdings;", true)
  | 3 => ("ReadingRoom", "requests", "LReadingRoom$Requests;", true)
  | _ => ("ReadingRoom", "now", "I", false)
def t_X : Nat → FieldType := fun k => match k with
  | 0 => .object "ReadingRoom$Seating"
  | 1 => .object "ReadingRoom$Readers"
  | 2 => .object "ReadingRoom$Holdings"
  | 3 => .object "ReadingRoom$Requests"
  | _ => .int
theorem n_X : ∀ a, a < 5 → ∀ b, b < 5 → a ≠ b → (F_X a).2.1 ≠ (F_X b).2.1 := by decide +kernel
theorem t_X_ok : ∀ k, k < 5 → parseFieldDescriptor (F_X k).2.2.1 = some (t_X k) := by decide +kernel
abbrev b_X_init : ByteArray := prog_1_method_1_code
def y_X_init : MethodName := ⟨R_X, "<init>", "(I)V"⟩
abbrev b_X_come : ByteArray := prog_1_method_2_code
def y_X_come : MethodName := ⟨R_X, "come", "(I)I"⟩
abbrev b_X_leave : ByteArray := prog_1_method_3_code
def y_X_leave : MethodName := ⟨R_X, "leave", "(I)I"⟩
abbrev b_X_ask : ByteArray := prog_1_method_4_code
def y_X_ask : MethodName := ⟨R_X, "ask", "(III)I"⟩
abbrev b_X_fetch : ByteArray := prog_1_method_5_code
def y_X_fetch : MethodName := ⟨R_X, "fetch", "(II)I"⟩
abbrev b_X_handOut : ByteArray := prog_1_method_6_code
def y_X_handOut : MethodName := ⟨R_X, "handOut", "(II)I"⟩
abbrev b_X_back : ByteArray := prog_1_method_7_code
def y_X_back : MethodName := ⟨R_X, "back", "(II)I"⟩
abbrev b_X_look : ByteArray := prog_1_method_8_code
def y_X_look : MethodName := ⟨R_X, "look", "(II)I"⟩
abbrev b_X_mend : ByteArray := prog_1_method_9_code
def y_X_mend : MethodName := ⟨R_X, "mend", "(I)I"⟩
abbrev b_X_restrict : ByteArray := prog_1_method_10_code
def y_X_restrict : MethodName := ⟨R_X, "restrict", "(II)I"⟩
abbrev b_X_right : ByteArray := prog_1_method_11_code
def y_X_right : MethodName := ⟨R_X, "right", "(II)I"⟩
abbrev b_X_limit : ByteArray := prog_1_method_12_code
def y_X_limit : MethodName := ⟨R_X, "limit", "(III)I"⟩
abbrev b_X_copy : ByteArray := prog_1_method_13_code
def y_X_copy : MethodName := ⟨R_X, "copy", "(III)I"⟩
abbrev b_X_close : ByteArray := prog_1_method_14_code
def y_X_close : MethodName := ⟨R_X, "close", "(I)I"⟩
abbrev b_X_unit : ByteArray := prog_1_method_15_code
def y_X_unit : MethodName := ⟨R_X, "unit", "(II)I"⟩
abbrev b_X_person : ByteArray := prog_1_method_16_code
def y_X_person : MethodName := ⟨R_X, "person", "(II)I"⟩
abbrev b_X_request : ByteArray := prog_1_method_17_code
def y_X_request : MethodName := ⟨R_X, "request", "(II)I"⟩
abbrev b_X_waits : ByteArray := prog_1_method_18_code
def y_X_waits : MethodName := ⟨R_X, "waits", "(II)I"⟩
abbrev b_X_isWithin : ByteArray := prog_1_method_19_code
def y_X_isWithin : MethodName := ⟨R_X, "isWithin", "(III)Z"⟩
abbrev b_X_isPerson : ByteArray := prog_1_method_20_code
def y_X_isPerson : MethodName := ⟨R_X, "isPerson", "(I)Z"⟩
abbrev b_X_isUnit : ByteArray := prog_1_method_21_code
def y_X_isUnit : MethodName := ⟨R_X, "isUnit", "(I)Z"⟩
abbrev b_X_isTime : ByteArray := prog_1_method_22_code
def y_X_isTime : MethodName := ⟨R_X, "isTime", "(I)Z"⟩
abbrev b_X_isRightTooLow : ByteArray := prog_1_method_23_code
def y_X_isRightTooLow : MethodName := ⟨R_X, "isRightTooLow", "(II)Z"⟩
abbrev b_X_sendFor : ByteArray := prog_1_method_24_code
def y_X_sendFor : MethodName := ⟨R_X, "sendFor", "(II)V"⟩
abbrev b_X_withdrawFromLowRights : ByteArray := prog_1_method_25_code
def y_X_withdrawFromLowRights : MethodName := ⟨R_X, "withdrawFromLowRights", "(I)I"⟩
def R_M : String := "ReadingRoomModel"
def F_M : u_T := fun k => match k with
  | 0 => ("ReadingRoomModel", "thrown", "I", false)
  | 1 => ("ReadingRoomModel", "now", "I", false)
  | 2 => ("ReadingRoomModel", "seats", "I", true)
  | 3 => ("ReadingRoomModel", "seat", "[I", true)
  | 4 => ("ReadingRoomModel", "waiting", "I", false)
  | 5 => ("ReadingRoomModel", "wait", "[I", true)
  | 6 => ("ReadingRoomModel", "rightOf", "[I", true)
  | 7 => ("ReadingRoomModel", "limitOf", "[I", true)
  | 8 => ("ReadingRoomModel", "pagesOf", "[I", true)
  | 9 => ("ReadingRoomModel", "copied", "[I", true)
  | 10 => ("ReadingRoomModel", "copiedDay", "[I", true)
  | 11 => ("ReadingRoomModel", "place", "[I", true)
  | 12 => ("ReadingRoomModel", "condition", "[I", true)
  | 13 => ("ReadingRoomModel", "restriction", "[I", true)
  | 14 => ("ReadingRoomModel", "forRequest", "[I", true)
  | 15 => ("ReadingRoomModel", "requests", "I", false)
  | 16 => ("ReadingRoomModel", "person", "[I", true)
  | 17 => ("ReadingRoomModel", "unit", "[I", true)
  | 18 => ("ReadingRoomModel", "state", "[I", true)
  | 19 => ("ReadingRoomModel", "asked", "[I", true)
  | 20 => ("ReadingRoomModel", "handed", "[I", true)
  | _ => ("ReadingRoomModel", "given", "[I", true)
def t_M : Nat → FieldType := fun k => match k with
  | 0 => .int
  | 1 => .int
  | 2 => .int
  | 3 => .array .int
  | 4 => .int
  | 5 => .array .int
  | 6 => .array .int
  | 7 => .array .int
  | 8 => .array .int
  | 9 => .array .int
  | 10 => .array .int
  | 11 => .array .int
  | 12 => .array .int
  | 13 => .array .int
  | 14 => .array .int
  | 15 => .int
  | 16 => .array .int
  | 17 => .array .int
  | 18 => .array .int
  | 19 => .array .int
  | 20 => .array .int
  | _ => .array .int
theorem n_M : ∀ a, a < 22 → ∀ b, b < 22 → a ≠ b → (F_M a).2.1 ≠ (F_M b).2.1 := by decide +kernel
theorem t_M_ok : ∀ k, k < 22 → parseFieldDescriptor (F_M k).2.2.1 = some (t_M k) := by decide +kernel
abbrev b_M_init : ByteArray := prog_7_method_1_code
def y_M_init : MethodName := ⟨R_M, "<init>", "(I)V"⟩
abbrev b_M_thrown : ByteArray := prog_7_method_2_code
def y_M_thrown : MethodName := ⟨R_M, "thrown", "()I"⟩
abbrev b_M_in : ByteArray := prog_7_method_3_code
def y_M_in : MethodName := ⟨R_M, "in", "(III)Z"⟩
abbrev b_M_isPerson : ByteArray := prog_7_method_4_code
def y_M_isPerson : MethodName := ⟨R_M, "isPerson", "(I)Z"⟩
abbrev b_M_isUnit : ByteArray := prog_7_method_5_code
def y_M_isUnit : MethodName := ⟨R_M, "isUnit", "(I)Z"⟩
abbrev b_M_isNow : ByteArray := prog_7_method_6_code
def y_M_isNow : MethodName := ⟨R_M, "isNow", "(I)Z"⟩
abbrev b_M_seatOf : ByteArray := prog_7_method_7_code
def y_M_seatOf : MethodName := ⟨R_M, "seatOf", "(I)I"⟩
abbrev b_M_waitOf : ByteArray := prog_7_method_8_code
def y_M_waitOf : MethodName := ⟨R_M, "waitOf", "(I)I"⟩
abbrev b_M_has : ByteArray := prog_7_method_9_code
def y_M_has : MethodName := ⟨R_M, "has", "(I)I"⟩
abbrev b_M_come : ByteArray := prog_7_method_10_code
def y_M_come : MethodName := ⟨R_M, "come", "(I)I"⟩
abbrev b_M_leaveRow : ByteArray := prog_7_method_11_code
def y_M_leaveRow : MethodName := ⟨R_M, "leaveRow", "(I)V"⟩
abbrev b_M_leave : ByteArray := prog_7_method_12_code
def y_M_leave : MethodName := ⟨R_M, "leave", "(I)I"⟩
abbrev b_M_right : ByteArray := prog_7_method_13_code
def y_M_right : MethodName := ⟨R_M, "right", "(II)I"⟩
abbrev b_M_limit : ByteArray := prog_7_method_14_code
def y_M_limit : MethodName := ⟨R_M, "limit", "(III)I"⟩
abbrev b_M_lives : ByteArray := prog_7_method_15_code
def y_M_lives : MethodName := ⟨R_M, "lives", "(I)Z"⟩
abbrev b_M_living : ByteArray := prog_7_method_16_code
def y_M_living : MethodName := ⟨R_M, "living", "(I)I"⟩
abbrev b_M_ahead : ByteArray := prog_7_method_17_code
def y_M_ahead : MethodName := ⟨R_M, "ahead", "(I)I"⟩
abbrev b_M_ask : ByteArray := prog_7_method_18_code
def y_M_ask : MethodName := ⟨R_M, "ask", "(III)I"⟩
abbrev b_M_fetchFor : ByteArray := prog_7_method_19_code
def y_M_fetchFor : MethodName := ⟨R_M, "fetchFor", "(II)I"⟩
abbrev b_M_fetch : ByteArray := prog_7_method_20_code
def y_M_fetch : MethodName := ⟨R_M, "fetch", "(II)I"⟩
abbrev b_M_handOut : ByteArray := prog_7_method_21_code
def y_M_handOut : MethodName := ⟨R_M, "handOut", "(II)I"⟩
abbrev b_M_back : ByteArray := prog_7_method_22_code
def y_M_back : MethodName := ⟨R_M, "back", "(II)I"⟩
abbrev b_M_look : ByteArray := prog_7_method_23_code
def y_M_look : MethodName := ⟨R_M, "look", "(II)I"⟩
abbrev b_M_mend : ByteArray := prog_7_method_24_code
def y_M_mend : MethodName := ⟨R_M, "mend", "(I)I"⟩
abbrev b_M_restrict : ByteArray := prog_7_method_25_code
def y_M_restrict : MethodName := ⟨R_M, "restrict", "(II)I"⟩
abbrev b_M_copy : ByteArray := prog_7_method_26_code
def y_M_copy : MethodName := ⟨R_M, "copy", "(III)I"⟩
abbrev b_M_close : ByteArray := prog_7_method_27_code
def y_M_close : MethodName := ⟨R_M, "close", "(I)I"⟩
abbrev b_M_unit : ByteArray := prog_7_method_28_code
def y_M_unit : MethodName := ⟨R_M, "unit", "(II)I"⟩
abbrev b_M_person : ByteArray := prog_7_method_29_code
def y_M_person : MethodName := ⟨R_M, "person", "(II)I"⟩
abbrev b_M_request : ByteArray := prog_7_method_30_code
def y_M_request : MethodName := ⟨R_M, "request", "(II)I"⟩
abbrev b_M_waits : ByteArray := prog_7_method_31_code
def y_M_waits : MethodName := ⟨R_M, "waits", "(II)I"⟩
def R_L : String := "ReadingRoomLaw"
abbrev b_L_cell : ByteArray := method_2_code
def y_L_cell : MethodName := ⟨R_L, "cell", "([II)I"⟩
abbrev b_L_request : ByteArray := method_3_code
def y_L_request : MethodName := ⟨R_L, "request", "(LReadingRoom;II[J)I"⟩
abbrev b_L_waits : ByteArray := method_4_code
def y_L_waits : MethodName := ⟨R_L, "waits", "(LReadingRoom;II[J)I"⟩
abbrev b_L_law : ByteArray := code
def y_L_law : MethodName := ⟨R_L, "law", "([I)Z"⟩
def R_JA : String := "java/util/Arrays"
abbrev b_JA_fill : ByteArray := prog_13_method_103_code
def y_JA_fill : MethodName := ⟨R_JA, "fill", "([II)V"⟩
/-- the classes whose objects the worlds hold -/
abbrev vwCl : List vw_C := [(R_H, F_H, 4), (R_R, F_R, 5), (R_Q, F_Q, 7), (R_S, F_S, 4), (R_X, F_X, 5), (R_M, F_M, 22)]
end
section
theorem d_X_init_0 : decode b_X_init 0 = .ok (.aload_n 0, 1) := by decide +kernel
theorem d_X_init_1 : decode b_X_init 1 = .ok (.invokespecial 1, 3) := by decide +kernel
theorem d_X_init_4 : decode b_X_init 4 = .ok (.aload_n 0, 1) := by decide +kernel
theorem d_X_init_5 : decode b_X_init 5 = .ok (.new 7, 3) := by decide +kernel
theorem d_X_init_8 : decode b_X_init 8 = .ok (.dup, 1) := by decide +kernel
theorem d_X_init_9 : decode b_X_init 9 = .ok (.iload_n 1, 1) := by decide +kernel
theorem d_X_init_10 : decode b_X_init 10 = .ok (.invokespecial 9, 3) := by decide +kernel
theorem d_X_init_13 : decode b_X_init 13 = .ok (.putfield 12, 3) := by decide +kernel
theorem d_X_init_16 : decode b_X_init 16 = .ok (.aload_n 0, 1) := by decide +kernel
theorem d_X_init_17 : decode b_X_init 17 = .ok (.new 18, 3) := by decide +kernel
theorem d_X_init_20 : decode b_X_init 20 = .ok (.dup, 1) := by decide +kernel
theorem d_X_init_21 : decode b_X_init 21 = .ok (.invokespecial 20, 3) := by decide +kernel
theorem d_X_init_24 : decode b_X_init 24 = .ok (.putfield 21, 3) := by decide +kernel
theorem d_X_init_27 : decode b_X_init 27 = .ok (.aload_n 0, 1) := by decide +kernel
theorem d_X_init_28 : decode b_X_init 28 = .ok (.new 25, 3) := by decide +kernel
theorem d_X_init_31 : decode b_X_init 31 = .ok (.dup, 1) := by decide +kernel
theorem d_X_init_32 : decode b_X_init 32 = .ok (.invokespecial 27, 3) := by decide +kernel
theorem d_X_init_35 : decode b_X_init 35 = .ok (.putfield 28, 3) := by decide +kernel
theorem d_X_init_38 : decode b_X_init 38 = .ok (.aload_n 0, 1) := by decide +kernel
theorem d_X_init_39 : decode b_X_init 39 = .ok (.new 32, 3) := by decide +kernel
theorem d_X_init_42 : decode b_X_init 42 = .ok (.dup, 1) := by decide +kernel
theorem d_X_init_43 : decode b_X_init 43 = .ok (.invokespecial 34, 3) := by decide +kernel
theorem d_X_init_46 : decode b_X_init 46 = .ok (.putfield 35, 3) := by decide +kernel
theorem d_X_init_49 : decode b_X_init 49 = .ok (.aload_n 0, 1) := by decide +kernel
theorem d_X_init_50 : decode b_X_init 50 = .ok (.iconst 0, 1) := by decide +kernel
theorem d_X_init_51 : decode b_X_init 51 = .ok (.putfield 39, 3) := by decide +kernel
theorem d_X_init_54 : decode b_X_init 54 = .ok (.return_, 1) := by decide +kernel
theorem d_X_come_0 : decode b_X_come 0 = .ok (.iload_n 1, 1) := by decide +kernel
theorem d_X_come_1 : decode b_X_come 1 = .ok (.invokestatic 43, 3) := by decide +kernel
theorem d_X_come_4 : decode b_X_come 4 = .ok (.ifCond .ne 5, 3) := by decide +kernel
theorem d_X_come_7 : decode b_X_come 7 = .ok (.iconst (-1), 1) := by decide +kernel
theorem d_X_come_8 : decode b_X_come 8 = .ok (.ireturn, 1) := by decide +kernel
theorem d_X_come_9 : decode b_X_come 9 = .ok (.aload_n 0, 1) := by decide +kernel
theorem d_X_come_10 : decode b_X_come 10 = .ok (.getfield 12, 3) := by decide +kernel
theorem d_X_come_13 : decode b_X_come 13 = .ok (.iload_n 1, 1) := by decide +kernel
theorem d_X_come_14 : decode b_X_come 14 = .ok (.invokevirtual 47, 3) := by decide +kernel
theorem d_X_come_17 : decode b_X_come 17 = .ok (.ifCond .eq 6, 3) := by decide +kernel
theorem d_X_come_20 : decode b_X_come 20 = .ok (.bipush (-3), 2) := by decide +kernel
theorem d_X_come_22 : decode b_X_come 22 = .ok (.ireturn, 1) := by decide +kernel
theorem d_X_come_23 : decode b_X_come 23 = .ok (.aload_n 0, 1) := by decide +kernel
theorem d_X_come_24 : decode b_X_come 24 = .ok (.getfield 12, 3) := by decide +kernel
theorem d_X_come_27 : decode b_X_come 27 = .ok (.iload_n 1, 1) := by decide +kernel
theorem d_X_come_28 : decode b_X_come 28 = .ok (.invokevirtual 50, 3) := by decide +kernel
theorem d_X_come_31 : decode b_X_come 31 = .ok (.ireturn, 1) := by decide +kernel
theorem d_X_leave_0 : decode b_X_leave 0 = .ok (.iload_n 1, 1) := by decide +kernel
theorem d_X_leave_1 : decode b_X_leave 1 = .ok (.invokestatic 43, 3) := by decide +kernel
theorem d_X_leave_4 : decode b_X_leave 4 = .ok (.ifCond .ne 5, 3) := by decide +kernel
theorem d_X_leave_7 : decode b_X_leave 7 = .ok (.iconst (-1), 1) := by decide +kernel
theorem d_X_leave_8 : decode b_X_leave 8 = .ok (.ireturn, 1) := by decide +kernel
theorem d_X_leave_9 : decode b_X_leave 9 = .ok (.aload_n 0, 1) := by decide +kernel
theorem d_X_leave_10 : decode b_X_leave 10 = .ok (.getfield 12, 3) := by decide +kernel
theorem d_X_leave_13 : decode b_X_leave 13 = .ok (.iload_n 1, 1) := by decide +kernel
theorem d_X_leave_14 : decode b_X_leave 14 = .ok (.invokevirtual 47, 3) := by decide +kernel
theorem d_X_leave_17 : decode b_X_leave 17 = .ok (.ifCond .eq 14, 3) := by decide +kernel
theorem d_X_leave_20 : decode b_X_leave 20 = .ok (.aload_n 0, 1) := by decide +kernel
theorem d_X_leave_21 : decode b_X_leave 21 = .ok (.getfield 35, 3) := by decide +kernel
theorem d_X_leave_24 : decode b_X_leave 24 = .ok (.iload_n 1, 1) := by decide +kernel
theorem d_X_leave_25 : decode b_X_leave 25 = .ok (.invokevirtual 54, 3) := by decide +kernel
theorem d_X_leave_28 : decode b_X_leave 28 = .ok (.ifCond .le 6, 3) := by decide +kernel
theorem d_X_leave_31 : decode b_X_leave 31 = .ok (.bipush (-3), 2) := by decide +kernel
theorem d_X_leave_33 : decode b_X_leave 33 = .ok (.ireturn, 1) := by decide +kernel
theorem d_X_leave_34 : decode b_X_leave 34 = .ok (.aload_n 0, 1) := by decide +kernel
theorem d_X_leave_35 : decode b_X_leave 35 = .ok (.getfield 12, 3) := by decide +kernel
theorem d_X_leave_38 : decode b_X_leave 38 = .ok (.iload_n 1, 1) := by decide +kernel
theorem d_X_leave_39 : decode b_X_leave 39 = .ok (.invokevirtual 57, 3) := by decide +kernel
theorem d_X_leave_42 : decode b_X_leave 42 = .ok (.ireturn, 1) := by decide +kernel
theorem d_X_ask_0 : decode b_X_ask 0 = .ok (.iload_n 1, 1) := by decide +kernel
theorem d_X_ask_1 : decode b_X_ask 1 = .ok (.invokestatic 43, 3) := by decide +kernel
theorem d_X_ask_4 : decode b_X_ask 4 = .ok (.ifCond .eq 10, 3) := by decide +kernel
theorem d_X_ask_7 : decode b_X_ask 7 = .ok (.iload_n 2, 1) := by decide +kernel
theorem d_X_ask_8 : decode b_X_ask 8 = .ok (.invokestatic 60, 3) := by decide +kernel
theorem d_X_ask_11 : decode b_X_ask 11 = .ok (.ifCond .ne 5, 3) := by decide +kernel
theorem d_X_ask_14 : decode b_X_ask 14 = .ok (.iconst (-1), 1) := by decide +kernel
theorem d_X_ask_15 : decode b_X_ask 15 = .ok (.ireturn, 1) := by decide +kernel
theorem d_X_ask_16 : decode b_X_ask 16 = .ok (.aload_n 0, 1) := by decide +kernel
theorem d_X_ask_17 : decode b_X_ask 17 = .ok (.iload_n 3, 1) := by decide +kernel
theorem d_X_ask_18 : decode b_X_ask 18 = .ok (.invokevirtual 63, 3) := by decide +kernel
theorem d_X_ask_21 : decode b_X_ask 21 = .ok (.ifCond .ne 6, 3) := by decide +kernel
theorem d_X_ask_24 : decode b_X_ask 24 = .ok (.bipush (-2), 2) := by decide +kernel
theorem d_X_ask_26 : decode b_X_ask 26 = .ok (.ireturn, 1) := by decide +kernel
theorem d_X_ask_27 : decode b_X_ask 27 = .ok (.aload_n 0, 1) := by decide +kernel
theorem d_X_ask_28 : decode b_X_ask 28 = .ok (.getfield 12, 3) := by decide +kernel
theorem d_X_ask_31 : decode b_X_ask 31 = .ok (.iload_n 1, 1) := by decide +kernel
theorem d_X_ask_32 : decode b_X_ask 32 = .ok (.invokevirtual 66, 3) := by decide +kernel
theorem d_X_ask_35 : decode b_X_ask 35 = .ok (.ifCond .eq 15, 3) := by decide +kernel
theorem d_X_ask_38 : decode b_X_ask 38 = .ok (.aload_n 0, 1) := by decide +kernel
theorem d_X_ask_39 : decode b_X_ask 39 = .ok (.getfield 35, 3) := by decide +kernel
theorem d_X_ask_42 : decode b_X_ask 42 = .ok (.iload_n 1, 1) := by decide +kernel
theorem d_X_ask_43 : decode b_X_ask 43 = .ok (.iload_n 2, 1) := by decide +kernel
theorem d_X_ask_44 : decode b_X_ask 44 = .ok (.invokevirtual 69, 3) := by decide +kernel
theorem d_X_ask_47 : decode b_X_ask 47 = .ok (.ifCond .eq 6, 3) := by decide +kernel
theorem d_X_ask_50 : decode b_X_ask 50 = .ok (.bipush (-3), 2) := by decide +kernel
theorem d_X_ask_52 : decode b_X_ask 52 = .ok (.ireturn, 1) := by decide +kernel
theorem d_X_ask_53 : decode b_X_ask 53 = .ok (.aload_n 0, 1) := by decide +kernel
theorem d_X_ask_54 : decode b_X_ask 54 = .ok (.iload_n 1, 1) := by decide +kernel
theorem d_X_ask_55 : decode b_X_ask 55 = .ok (.iload_n 2, 1) := by decide +kernel
theorem d_X_ask_56 : decode b_X_ask 56 = .ok (.invokevirtual 73, 3) := by decide +kernel
theorem d_X_ask_59 : decode b_X_ask 59 = .ok (.ifCond .eq 6, 3) := by decide +kernel
theorem d_X_ask_62 : decode b_X_ask 62 = .ok (.bipush (-5), 2) := by decide +kernel
theorem d_X_ask_64 : decode b_X_ask 64 = .ok (.ireturn, 1) := by decide +kernel
theorem d_X_ask_65 : decode b_X_ask 65 = .ok (.aload_n 0, 1) := by decide +kernel
theorem d_X_ask_66 : decode b_X_ask 66 = .ok (.getfield 35, 3) := by decide +kernel
theorem d_X_ask_69 : decode b_X_ask 69 = .ok (.iload_n 1, 1) := by decide +kernel
theorem d_X_ask_70 : decode b_X_ask 70 = .ok (.invokevirtual 76, 3) := by decide +kernel
theorem d_X_ask_73 : decode b_X_ask 73 = .ok (.aload_n 0, 1) := by decide +kernel
theorem d_X_ask_74 : decode b_X_ask 74 = .ok (.getfield 21, 3) := by decide +kernel
theorem d_X_ask_77 : decode b_X_ask 77 = .ok (.iload_n 1, 1) := by decide +kernel
theorem d_X_ask_78 : decode b_X_ask 78 = .ok (.invokevirtual 79, 3) := by decide +kernel
theorem d_X_ask_81 : decode b_X_ask 81 = .ok (.if_icmp .ge 13, 3) := by decide +kernel
theorem d_X_ask_84 : decode b_X_ask 84 = .ok (.aload_n 0, 1) := by decide +kernel
theorem d_X_ask_85 : decode b_X_ask 85 = .ok (.getfield 35, 3) := by decide +kernel
theorem d_X_ask_88 : decode b_X_ask 88 = .ok (.invokevirtual 82, 3) := by decide +kernel
theorem d_X_ask_91 : decode b_X_ask 91 = .ok (.ifCond .eq 6, 3) := by decide +kernel
theorem d_X_ask_94 : decode b_X_ask 94 = .ok (.bipush (-4), 2) := by decide +kernel
theorem d_X_ask_96 : decode b_X_ask 96 = .ok (.ireturn, 1) := by decide +kernel
theorem d_X_ask_97 : decode b_X_ask 97 = .ok (.aload_n 0, 1) := by decide +kernel
theorem d_X_ask_98 : decode b_X_ask 98 = .ok (.iload_n 3, 1) := by decide +kernel
theorem d_X_ask_99 : decode b_X_ask 99 = .ok (.putfield 39, 3) := by decide +kernel
theorem d_X_ask_102 : decode b_X_ask 102 = .ok (.aload_n 0, 1) := by decide +kernel
theorem d_X_ask_103 : decode b_X_ask 103 = .ok (.getfield 35, 3) := by decide +kernel
theorem d_X_ask_106 : decode b_X_ask 106 = .ok (.iload_n 1, 1) := by decide +kernel
theorem d_X_ask_107 : decode b_X_ask 107 = .ok (.iload_n 2, 1) := by decide +kernel
theorem d_X_ask_108 : decode b_X_ask 108 = .ok (.iload_n 3, 1) := by decide +kernel
theorem d_X_ask_109 : decode b_X_ask 109 = .ok (.invokevirtual 86, 3) := by decide +kernel
theorem d_X_ask_112 : decode b_X_ask 112 = .ok (.ireturn, 1) := by decide +kernel
theorem d_X_fetch_0 : decode b_X_fetch 0 = .ok (.iload_n 1, 1) := by decide +kernel
theorem d_X_fetch_1 : decode b_X_fetch 1 = .ok (.invokestatic 60, 3) := by decide +kernel
theorem d_X_fetch_4 : decode b_X_fetch 4 = .ok (.ifCond .ne 5, 3) := by decide +kernel
theorem d_X_fetch_7 : decode b_X_fetch 7 = .ok (.iconst (-1), 1) := by decide +kernel
theorem d_X_fetch_8 : decode b_X_fetch 8 = .ok (.ireturn, 1) := by decide +kernel
theorem d_X_fetch_9 : decode b_X_fetch 9 = .ok (.aload_n 0, 1) := by decide +kernel
theorem d_X_fetch_10 : decode b_X_fetch 10 = .ok (.iload_n 2, 1) := by decide +kernel
theorem d_X_fetch_11 : decode b_X_fetch 11 = .ok (.invokevirtual 63, 3) := by decide +kernel
theorem d_X_fetch_14 : decode b_X_fetch 14 = .ok (.ifCond .ne 6, 3) := by decide +kernel
theorem d_X_fetch_17 : decode b_X_fetch 17 = .ok (.bipush (-2), 2) := by decide +kernel
theorem d_X_fetch_19 : decode b_X_fetch 19 = .ok (.ireturn, 1) := by decide +kernel
theorem d_X_fetch_20 : decode b_X_fetch 20 = .ok (.aload_n 0, 1) := by decide +kernel
theorem d_X_fetch_21 : decode b_X_fetch 21 = .ok (.getfield 35, 3) := by decide +kernel
theorem d_X_fetch_24 : decode b_X_fetch 24 = .ok (.iload_n 1, 1) := by decide +kernel
theorem d_X_fetch_25 : decode b_X_fetch 25 = .ok (.iconst 0, 1) := by decide +kernel
theorem d_X_fetch_26 : decode b_X_fetch 26 = .ok (.invokevirtual 90, 3) := by decide +kernel
theorem d_X_fetch_29 : decode b_X_fetch 29 = .ok (.istore_n 3, 1) := by decide +kernel
theorem d_X_fetch_30 : decode b_X_fetch 30 = .ok (.aload_n 0, 1) := by decide +kernel
theorem d_X_fetch_31 : decode b_X_fetch 31 = .ok (.getfield 28, 3) := by decide +kernel
theorem d_X_fetch_34 : decode b_X_fetch 34 = .ok (.iload_n 1, 1) := by decide +kernel
theorem d_X_fetch_35 : decode b_X_fetch 35 = .ok (.invokevirtual 94, 3) := by decide +kernel
theorem d_X_fetch_38 : decode b_X_fetch 38 = .ok (.ifCond .ne 20, 3) := by decide +kernel
theorem d_X_fetch_41 : decode b_X_fetch 41 = .ok (.iload_n 3, 1) := by decide +kernel
theorem d_X_fetch_42 : decode b_X_fetch 42 = .ok (.iconst (-1), 1) := by decide +kernel
theorem d_X_fetch_43 : decode b_X_fetch 43 = .ok (.if_icmp .eq 15, 3) := by decide +kernel
theorem d_X_fetch_46 : decode b_X_fetch 46 = .ok (.aload_n 0, 1) := by decide +kernel
theorem d_X_fetch_47 : decode b_X_fetch 47 = .ok (.getfield 28, 3) := by decide +kernel
theorem d_X_fetch_50 : decode b_X_fetch 50 = .ok (.iload_n 1, 1) := by decide +kernel
theorem d_X_fetch_51 : decode b_X_fetch 51 = .ok (.invokevirtual 97, 3) := by decide +kernel
theorem d_X_fetch_54 : decode b_X_fetch 54 = .ok (.iconst 2, 1) := by decide +kernel
theorem d_X_fetch_55 : decode b_X_fetch 55 = .ok (.if_icmp .le 6, 3) := by decide +kernel
theorem d_X_fetch_58 : decode b_X_fetch 58 = .ok (.bipush (-3), 2) := by decide +kernel
theorem d_X_fetch_60 : decode b_X_fetch 60 = .ok (.ireturn, 1) := by decide +kernel
theorem d_X_fetch_61 : decode b_X_fetch 61 = .ok (.aload_n 0, 1) := by decide +kernel
theorem d_X_fetch_62 : decode b_X_fetch 62 = .ok (.iload_n 2, 1) := by decide +kernel
theorem d_X_fetch_63 : decode b_X_fetch 63 = .ok (.putfield 39, 3) := by decide +kernel
theorem d_X_fetch_66 : decode b_X_fetch 66 = .ok (.aload_n 0, 1) := by decide +kernel
theorem d_X_fetch_67 : decode b_X_fetch 67 = .ok (.iload_n 1, 1) := by decide +kernel
theorem d_X_fetch_68 : decode b_X_fetch 68 = .ok (.iload_n 3, 1) := by decide +kernel
theorem d_X_fetch_69 : decode b_X_fetch 69 = .ok (.invokevirtual 100, 3) := by decide +kernel
theorem d_X_fetch_72 : decode b_X_fetch 72 = .ok (.iload_n 3, 1) := by decide +kernel
theorem d_X_fetch_73 : decode b_X_fetch 73 = .ok (.ireturn, 1) := by decide +kernel
theorem d_X_handOut_0 : decode b_X_handOut 0 = .ok (.iload_n 1, 1) := by decide +kernel
theorem d_X_handOut_1 : decode b_X_handOut 1 = .ok (.invokestatic 60, 3) := by decide +kernel
theorem d_X_handOut_4 : decode b_X_handOut 4 = .ok (.ifCond .ne 5, 3) := by decide +kernel
theorem d_X_handOut_7 : decode b_X_handOut 7 = .ok (.iconst (-1), 1) := by decide +kernel
theorem d_X_handOut_8 : decode b_X_handOut 8 = .ok (.ireturn, 1) := by decide +kernel
theorem d_X_handOut_9 : decode b_X_handOut 9 = .ok (.aload_n 0, 1) := by decide +kernel
theorem d_X_handOut_10 : decode b_X_handOut 10 = .ok (.iload_n 2, 1) := by decide +kernel
theorem d_X_handOut_11 : decode b_X_handOut 11 = .ok (.invokevirtual 63, 3) := by decide +kernel
theorem d_X_handOut_14 : decode b_X_handOut 14 = .ok (.ifCond .ne 6, 3) := by decide +kernel
theorem d_X_handOut_17 : decode b_X_handOut 17 = .ok (.bipush (-2), 2) := by decide +kernel
theorem d_X_handOut_19 : decode b_X_handOut 19 = .ok (.ireturn, 1) := by decide +kernel
theorem d_X_handOut_20 : decode b_X_handOut 20 = .ok (.aload_n 0, 1) := by decide +kernel
theorem d_X_handOut_21 : decode b_X_handOut 21 = .ok (.getfield 28, 3) := by decide +kernel
theorem d_X_handOut_24 : decode b_X_handOut 24 = .ok (.iload_n 1, 1) := by decide +kernel
theorem d_X_handOut_25 : decode b_X_handOut 25 = .ok (.invokevirtual 104, 3) := by decide +kernel
theorem d_X_handOut_28 : decode b_X_handOut 28 = .ok (.istore_n 3, 1) := by decide +kernel
theorem d_X_handOut_29 : decode b_X_handOut 29 = .ok (.aload_n 0, 1) := by decide +kernel
theorem d_X_handOut_30 : decode b_X_handOut 30 = .ok (.getfield 35, 3) := by decide +kernel
theorem d_X_handOut_33 : decode b_X_handOut 33 = .ok (.iload_n 3, 1) := by decide +kernel
theorem d_X_handOut_34 : decode b_X_handOut 34 = .ok (.invokevirtual 107, 3) := by decide +kernel
theorem d_X_handOut_37 : decode b_X_handOut 37 = .ok (.istore 4, 2) := by decide +kernel
theorem d_X_handOut_39 : decode b_X_handOut 39 = .ok (.aload_n 0, 1) := by decide +kernel
theorem d_X_handOut_40 : decode b_X_handOut 40 = .ok (.getfield 28, 3) := by decide +kernel
theorem d_X_handOut_43 : decode b_X_handOut 43 = .ok (.iload_n 1, 1) := by decide +kernel
theorem d_X_handOut_44 : decode b_X_handOut 44 = .ok (.invokevirtual 94, 3) := by decide +kernel
theorem d_X_handOut_47 : decode b_X_handOut 47 = .ok (.iconst 1, 1) := by decide +kernel
theorem d_X_handOut_48 : decode b_X_handOut 48 = .ok (.if_icmp .ne 15, 3) := by decide +kernel
theorem d_X_handOut_51 : decode b_X_handOut 51 = .ok (.aload_n 0, 1) := by decide +kernel
theorem d_X_handOut_52 : decode b_X_handOut 52 = .ok (.getfield 12, 3) := by decide +kernel
theorem d_X_handOut_55 : decode b_X_handOut 55 = .ok (.iload 4, 2) := by decide +kernel
theorem d_X_handOut_57 : decode b_X_handOut 57 = .ok (.invokevirtual 66, 3) := by decide +kernel
theorem d_X_handOut_60 : decode b_X_handOut 60 = .ok (.ifCond .ne 6, 3) := by decide +kernel
theorem d_X_handOut_63 : decode b_X_handOut 63 = .ok (.bipush (-3), 2) := by decide +kernel
theorem d_X_handOut_65 : decode b_X_handOut 65 = .ok (.ireturn, 1) := by decide +kernel
theorem d_X_handOut_66 : decode b_X_handOut 66 = .ok (.aload_n 0, 1) := by decide +kernel
theorem d_X_handOut_67 : decode b_X_handOut 67 = .ok (.iload 4, 2) := by decide +kernel
theorem d_X_handOut_69 : decode b_X_handOut 69 = .ok (.iload_n 1, 1) := by decide +kernel
theorem d_X_handOut_70 : decode b_X_handOut 70 = .ok (.invokevirtual 73, 3) := by decide +kernel
theorem d_X_handOut_73 : decode b_X_handOut 73 = .ok (.ifCond .eq 6, 3) := by decide +kernel
theorem d_X_handOut_76 : decode b_X_handOut 76 = .ok (.bipush (-5), 2) := by decide +kernel
theorem d_X_handOut_78 : decode b_X_handOut 78 = .ok (.ireturn, 1) := by decide +kernel
theorem d_X_handOut_79 : decode b_X_handOut 79 = .ok (.aload_n 0, 1) := by decide +kernel
theorem d_X_handOut_80 : decode b_X_handOut 80 = .ok (.iload_n 2, 1) := by decide +kernel
theorem d_X_handOut_81 : decode b_X_handOut 81 = .ok (.putfield 39, 3) := by decide +kernel
theorem d_X_handOut_84 : decode b_X_handOut 84 = .ok (.aload_n 0, 1) := by decide +kernel
theorem d_X_handOut_85 : decode b_X_handOut 85 = .ok (.getfield 28, 3) := by decide +kernel
theorem d_X_handOut_88 : decode b_X_handOut 88 = .ok (.iload_n 1, 1) := by decide +kernel
theorem d_X_handOut_89 : decode b_X_handOut 89 = .ok (.iconst 2, 1) := by decide +kernel
theorem d_X_handOut_90 : decode b_X_handOut 90 = .ok (.iload_n 3, 1) := by decide +kernel
theorem d_X_handOut_91 : decode b_X_handOut 91 = .ok (.invokevirtual 110, 3) := by decide +kernel
theorem d_X_handOut_94 : decode b_X_handOut 94 = .ok (.aload_n 0, 1) := by decide +kernel
theorem d_X_handOut_95 : decode b_X_handOut 95 = .ok (.getfield 35, 3) := by decide +kernel
theorem d_X_handOut_98 : decode b_X_handOut 98 = .ok (.iload_n 3, 1) := by decide +kernel
theorem d_X_handOut_99 : decode b_X_handOut 99 = .ok (.iload_n 2, 1) := by decide +kernel
theorem d_X_handOut_100 : decode b_X_handOut 100 = .ok (.invokevirtual 114, 3) := by decide +kernel
theorem d_X_handOut_103 : decode b_X_handOut 103 = .ok (.iload 4, 2) := by decide +kernel
theorem d_X_handOut_105 : decode b_X_handOut 105 = .ok (.ireturn, 1) := by decide +kernel
theorem d_X_back_0 : decode b_X_back 0 = .ok (.iload_n 1, 1) := by decide +kernel
theorem d_X_back_1 : decode b_X_back 1 = .ok (.invokestatic 60, 3) := by decide +kernel
theorem d_X_back_4 : decode b_X_back 4 = .ok (.ifCond .ne 5, 3) := by decide +kernel
theorem d_X_back_7 : decode b_X_back 7 = .ok (.iconst (-1), 1) := by decide +kernel
theorem d_X_back_8 : decode b_X_back 8 = .ok (.ireturn, 1) := by decide +kernel
theorem d_X_back_9 : decode b_X_back 9 = .ok (.aload_n 0, 1) := by decide +kernel
theorem d_X_back_10 : decode b_X_back 10 = .ok (.iload_n 2, 1) := by decide +kernel
theorem d_X_back_11 : decode b_X_back 11 = .ok (.invokevirtual 63, 3) := by decide +kernel
theorem d_X_back_14 : decode b_X_back 14 = .ok (.ifCond .ne 6, 3) := by decide +kernel
theorem d_X_back_17 : decode b_X_back 17 = .ok (.bipush (-2), 2) := by decide +kernel
theorem d_X_back_19 : decode b_X_back 19 = .ok (.ireturn, 1) := by decide +kernel
theorem d_X_back_20 : decode b_X_back 20 = .ok (.aload_n 0, 1) := by decide +kernel
theorem d_X_back_21 : decode b_X_back 21 = .ok (.getfield 28, 3) := by decide +kernel
theorem d_X_back_24 : decode b_X_back 24 = .ok (.iload_n 1, 1) := by decide +kernel
theorem d_X_back_25 : decode b_X_back 25 = .ok (.invokevirtual 94, 3) := by decide +kernel
theorem d_X_back_28 : decode b_X_back 28 = .ok (.iconst 2, 1) := by decide +kernel
theorem d_X_back_29 : decode b_X_back 29 = .ok (.if_icmp .eq 6, 3) := by decide +kernel
theorem d_X_back_32 : decode b_X_back 32 = .ok (.bipush (-3), 2) := by decide +kernel
theorem d_X_back_34 : decode b_X_back 34 = .ok (.ireturn, 1) := by decide +kernel
theorem d_X_back_35 : decode b_X_back 35 = .ok (.aload_n 0, 1) := by decide +kernel
theorem d_X_back_36 : decode b_X_back 36 = .ok (.iload_n 2, 1) := by decide +kernel
theorem d_X_back_37 : decode b_X_back 37 = .ok (.putfield 39, 3) := by decide +kernel
theorem d_X_back_40 : decode b_X_back 40 = .ok (.aload_n 0, 1) := by decide +kernel
theorem d_X_back_41 : decode b_X_back 41 = .ok (.getfield 28, 3) := by decide +kernel
theorem d_X_back_44 : decode b_X_back 44 = .ok (.iload_n 1, 1) := by decide +kernel
theorem d_X_back_45 : decode b_X_back 45 = .ok (.invokevirtual 104, 3) := by decide +kernel
theorem d_X_back_48 : decode b_X_back 48 = .ok (.istore_n 3, 1) := by decide +kernel
theorem d_X_back_49 : decode b_X_back 49 = .ok (.aload_n 0, 1) := by decide +kernel
theorem d_X_back_50 : decode b_X_back 50 = .ok (.getfield 28, 3) := by decide +kernel
theorem d_X_back_53 : decode b_X_back 53 = .ok (.iload_n 1, 1) := by decide +kernel
theorem d_X_back_54 : decode b_X_back 54 = .ok (.iconst 3, 1) := by decide +kernel
theorem d_X_back_55 : decode b_X_back 55 = .ok (.iload_n 3, 1) := by decide +kernel
theorem d_X_back_56 : decode b_X_back 56 = .ok (.invokevirtual 110, 3) := by decide +kernel
theorem d_X_back_59 : decode b_X_back 59 = .ok (.aload_n 0, 1) := by decide +kernel
theorem d_X_back_60 : decode b_X_back 60 = .ok (.getfield 35, 3) := by decide +kernel
theorem d_X_back_63 : decode b_X_back 63 = .ok (.iload_n 3, 1) := by decide +kernel
theorem d_X_back_64 : decode b_X_back 64 = .ok (.iload_n 2, 1) := by decide +kernel
theorem d_X_back_65 : decode b_X_back 65 = .ok (.invokevirtual 117, 3) := by decide +kernel
theorem d_X_back_68 : decode b_X_back 68 = .ok (.iload_n 3, 1) := by decide +kernel
theorem d_X_back_69 : decode b_X_back 69 = .ok (.ireturn, 1) := by decide +kernel
theorem d_X_look_0 : decode b_X_look 0 = .ok (.iload_n 1, 1) := by decide +kernel
theorem d_X_look_1 : decode b_X_look 1 = .ok (.invokestatic 60, 3) := by decide +kernel
theorem d_X_look_4 : decode b_X_look 4 = .ok (.ifCond .ne 5, 3) := by decide +kernel
theorem d_X_look_7 : decode b_X_look 7 = .ok (.iconst (-1), 1) := by decide +kernel
theorem d_X_look_8 : decode b_X_look 8 = .ok (.ireturn, 1) := by decide +kernel
theorem d_X_look_9 : decode b_X_look 9 = .ok (.iload_n 2, 1) := by decide +kernel
theorem d_X_look_10 : decode b_X_look 10 = .ok (.aload_n 0, 1) := by decide +kernel
theorem d_X_look_11 : decode b_X_look 11 = .ok (.getfield 28, 3) := by decide +kernel
theorem d_X_look_14 : decode b_X_look 14 = .ok (.iload_n 1, 1) := by decide +kernel
theorem d_X_look_15 : decode b_X_look 15 = .ok (.invokevirtual 97, 3) := by decide +kernel
theorem d_X_look_18 : decode b_X_look 18 = .ok (.iconst 3, 1) := by decide +kernel
theorem d_X_look_19 : decode b_X_look 19 = .ok (.invokestatic 120, 3) := by decide +kernel
theorem d_X_look_22 : decode b_X_look 22 = .ok (.ifCond .ne 6, 3) := by decide +kernel
theorem d_X_look_25 : decode b_X_look 25 = .ok (.bipush (-2), 2) := by decide +kernel
theorem d_X_look_27 : decode b_X_look 27 = .ok (.ireturn, 1) := by decide +kernel
theorem d_X_look_28 : decode b_X_look 28 = .ok (.aload_n 0, 1) := by decide +kernel
theorem d_X_look_29 : decode b_X_look 29 = .ok (.getfield 28, 3) := by decide +kernel
theorem d_X_look_32 : decode b_X_look 32 = .ok (.iload_n 1, 1) := by decide +kernel
theorem d_X_look_33 : decode b_X_look 33 = .ok (.invokevirtual 94, 3) := by decide +kernel
theorem d_X_look_36 : decode b_X_look 36 = .ok (.iconst 3, 1) := by decide +kernel
theorem d_X_look_37 : decode b_X_look 37 = .ok (.if_icmp .eq 6, 3) := by decide +kernel
theorem d_X_look_40 : decode b_X_look 40 = .ok (.bipush (-3), 2) := by decide +kernel
theorem d_X_look_42 : decode b_X_look 42 = .ok (.ireturn, 1) := by decide +kernel
theorem d_X_look_43 : decode b_X_look 43 = .ok (.aload_n 0, 1) := by decide +kernel
theorem d_X_look_44 : decode b_X_look 44 = .ok (.getfield 28, 3) := by decide +kernel
theorem d_X_look_47 : decode b_X_look 47 = .ok (.iload_n 1, 1) := by decide +kernel
theorem d_X_look_48 : decode b_X_look 48 = .ok (.iload_n 2, 1) := by decide +kernel
theorem d_X_look_49 : decode b_X_look 49 = .ok (.invokevirtual 124, 3) := by decide +kernel
theorem d_X_look_52 : decode b_X_look 52 = .ok (.aload_n 0, 1) := by decide +kernel
theorem d_X_look_53 : decode b_X_look 53 = .ok (.getfield 35, 3) := by decide +kernel
theorem d_X_look_56 : decode b_X_look 56 = .ok (.iload_n 1, 1) := by decide +kernel
theorem d_X_look_57 : decode b_X_look 57 = .ok (.iconst 0, 1) := by decide +kernel
theorem d_X_look_58 : decode b_X_look 58 = .ok (.invokevirtual 90, 3) := by decide +kernel
theorem d_X_look_61 : decode b_X_look 61 = .ok (.istore_n 3, 1) := by decide +kernel
theorem d_X_look_62 : decode b_X_look 62 = .ok (.iload_n 2, 1) := by decide +kernel
theorem d_X_look_63 : decode b_X_look 63 = .ok (.iconst 1, 1) := by decide +kernel
theorem d_X_look_64 : decode b_X_look 64 = .ok (.if_icmp .gt 8, 3) := by decide +kernel
theorem d_X_look_67 : decode b_X_look 67 = .ok (.iload_n 3, 1) := by decide +kernel
theorem d_X_look_68 : decode b_X_look 68 = .ok (.iconst (-1), 1) := by decide +kernel
theorem d_X_look_69 : decode b_X_look 69 = .ok (.if_icmp .ne 17, 3) := by decide +kernel
theorem d_X_look_72 : decode b_X_look 72 = .ok (.aload_n 0, 1) := by decide +kernel
theorem d_X_look_73 : decode b_X_look 73 = .ok (.getfield 28, 3) := by decide +kernel
theorem d_X_look_76 : decode b_X_look 76 = .ok (.iload_n 1, 1) := by decide +kernel
theorem d_X_look_77 : decode b_X_look 77 = .ok (.iconst 0, 1) := by decide +kernel
theorem d_X_look_78 : decode b_X_look 78 = .ok (.iconst (-1), 1) := by decide +kernel
theorem d_X_look_79 : decode b_X_look 79 = .ok (.invokevirtual 110, 3) := by decide +kernel
theorem d_X_look_82 : decode b_X_look 82 = .ok (.sipush 1000, 3) := by decide +kernel
theorem d_X_look_85 : decode b_X_look 85 = .ok (.ireturn, 1) := by decide +kernel
theorem d_X_look_86 : decode b_X_look 86 = .ok (.aload_n 0, 1) := by decide +kernel
theorem d_X_look_87 : decode b_X_look 87 = .ok (.iload_n 1, 1) := by decide +kernel
theorem d_X_look_88 : decode b_X_look 88 = .ok (.iload_n 3, 1) := by decide +kernel
theorem d_X_look_89 : decode b_X_look 89 = .ok (.invokevirtual 100, 3) := by decide +kernel
theorem d_X_look_92 : decode b_X_look 92 = .ok (.iload_n 3, 1) := by decide +kernel
theorem d_X_look_93 : decode b_X_look 93 = .ok (.ireturn, 1) := by decide +kernel
theorem d_X_mend_0 : decode b_X_mend 0 = .ok (.iload_n 1, 1) := by decide +kernel
theorem d_X_mend_1 : decode b_X_mend 1 = .ok (.invokestatic 60, 3) := by decide +kernel
theorem d_X_mend_4 : decode b_X_mend 4 = .ok (.ifCond .ne 5, 3) := by decide +kernel
theorem d_X_mend_7 : decode b_X_mend 7 = .ok (.iconst (-1), 1) := by decide +kernel
theorem d_X_mend_8 : decode b_X_mend 8 = .ok (.ireturn, 1) := by decide +kernel
theorem d_X_mend_9 : decode b_X_mend 9 = .ok (.aload_n 0, 1) := by decide +kernel
theorem d_X_mend_10 : decode b_X_mend 10 = .ok (.getfield 28, 3) := by decide +kernel
theorem d_X_mend_13 : decode b_X_mend 13 = .ok (.iload_n 1, 1) := by decide +kernel
theorem d_X_mend_14 : decode b_X_mend 14 = .ok (.invokevirtual 94, 3) := by decide +kernel
theorem d_X_mend_17 : decode b_X_mend 17 = .ok (.ifCond .eq 6, 3) := by decide +kernel
theorem d_X_mend_20 : decode b_X_mend 20 = .ok (.bipush (-3), 2) := by decide +kernel
theorem d_X_mend_22 : decode b_X_mend 22 = .ok (.ireturn, 1) := by decide +kernel
theorem d_X_mend_23 : decode b_X_mend 23 = .ok (.aload_n 0, 1) := by decide +kernel
theorem d_X_mend_24 : decode b_X_mend 24 = .ok (.getfield 28, 3) := by decide +kernel
theorem d_X_mend_27 : decode b_X_mend 27 = .ok (.iload_n 1, 1) := by decide +kernel
theorem d_X_mend_28 : decode b_X_mend 28 = .ok (.iconst 0, 1) := by decide +kernel
theorem d_X_mend_29 : decode b_X_mend 29 = .ok (.invokevirtual 124, 3) := by decide +kernel
theorem d_X_mend_32 : decode b_X_mend 32 = .ok (.iconst 1, 1) := by decide +kernel
theorem d_X_mend_33 : decode b_X_mend 33 = .ok (.ireturn, 1) := by decide +kernel
theorem d_X_restrict_0 : decode b_X_restrict 0 = .ok (.iload_n 1, 1) := by decide +kernel
theorem d_X_restrict_1 : decode b_X_restrict 1 = .ok (.invokestatic 60, 3) := by decide +kernel
theorem d_X_restrict_4 : decode b_X_restrict 4 = .ok (.ifCond .ne 5, 3) := by decide +kernel
theorem d_X_restrict_7 : decode b_X_restrict 7 = .ok (.iconst (-1), 1) := by decide +kernel
theorem d_X_restrict_8 : decode b_X_restrict 8 = .ok (.ireturn, 1) := by decide +kernel
theorem d_X_restrict_9 : decode b_X_restrict 9 = .ok (.iload_n 2, 1) := by decide +kernel
theorem d_X_restrict_10 : decode b_X_restrict 10 = .ok (.iconst 0, 1) := by decide +kernel
theorem d_X_restrict_11 : decode b_X_restrict 11 = .ok (.iconst 3, 1) := by decide +kernel
theorem d_X_restrict_12 : decode b_X_restrict 12 = .ok (.invokestatic 120, 3) := by decide +kernel
theorem d_X_restrict_15 : decode b_X_restrict 15 = .ok (.ifCond .ne 6, 3) := by decide +kernel
theorem d_X_restrict_18 : decode b_X_restrict 18 = .ok (.bipush (-2), 2) := by decide +kernel
theorem d_X_restrict_20 : decode b_X_restrict 20 = .ok (.ireturn, 1) := by decide +kernel
theorem d_X_restrict_21 : decode b_X_restrict 21 = .ok (.aload_n 0, 1) := by decide +kernel
theorem d_X_restrict_22 : decode b_X_restrict 22 = .ok (.getfield 28, 3) := by decide +kernel
theorem d_X_restrict_25 : decode b_X_restrict 25 = .ok (.iload_n 1, 1) := by decide +kernel
theorem d_X_restrict_26 : decode b_X_restrict 26 = .ok (.iload_n 2, 1) := by decide +kernel
theorem d_X_restrict_27 : decode b_X_restrict 27 = .ok (.invokevirtual 127, 3) := by decide +kernel
theorem d_X_restrict_30 : decode b_X_restrict 30 = .ok (.aload_n 0, 1) := by decide +kernel
theorem d_X_restrict_31 : decode b_X_restrict 31 = .ok (.iload_n 1, 1) := by decide +kernel
theorem d_X_restrict_32 : decode b_X_restrict 32 = .ok (.invokevirtual 130, 3) := by decide +kernel
theorem d_X_restrict_35 : decode b_X_restrict 35 = .ok (.ireturn, 1) := by decide +kernel
theorem d_X_right_0 : decode b_X_right 0 = .ok (.iload_n 1, 1) := by decide +kernel
theorem d_X_right_1 : decode b_X_right 1 = .ok (.invokestatic 43, 3) := by decide +kernel
theorem d_X_right_4 : decode b_X_right 4 = .ok (.ifCond .ne 5, 3) := by decide +kernel
theorem d_X_right_7 : decode b_X_right 7 = .ok (.iconst (-1), 1) := by decide +kernel
theorem d_X_right_8 : decode b_X_right 8 = .ok (.ireturn, 1) := by decide +kernel
theorem d_X_right_9 : decode b_X_right 9 = .ok (.iload_n 2, 1) := by decide +kernel
theorem d_X_right_10 : decode b_X_right 10 = .ok (.iconst 0, 1) := by decide +kernel
theorem d_X_right_11 : decode b_X_right 11 = .ok (.iconst 3, 1) := by decide +kernel
theorem d_X_right_12 : decode b_X_right 12 = .ok (.invokestatic 120, 3) := by decide +kernel
theorem d_X_right_15 : decode b_X_right 15 = .ok (.ifCond .ne 6, 3) := by decide +kernel
theorem d_X_right_18 : decode b_X_right 18 = .ok (.bipush (-2), 2) := by decide +kernel
theorem d_X_right_20 : decode b_X_right 20 = .ok (.ireturn, 1) := by decide +kernel
theorem d_X_right_21 : decode b_X_right 21 = .ok (.aload_n 0, 1) := by decide +kernel
theorem d_X_right_22 : decode b_X_right 22 = .ok (.getfield 21, 3) := by decide +kernel
theorem d_X_right_25 : decode b_X_right 25 = .ok (.iload_n 1, 1) := by decide +kernel
theorem d_X_right_26 : decode b_X_right 26 = .ok (.iload_n 2, 1) := by decide +kernel
theorem d_X_right_27 : decode b_X_right 27 = .ok (.invokevirtual 133, 3) := by decide +kernel
theorem d_X_right_30 : decode b_X_right 30 = .ok (.iconst 1, 1) := by decide +kernel
theorem d_X_right_31 : decode b_X_right 31 = .ok (.ireturn, 1) := by decide +kernel
theorem d_X_limit_0 : decode b_X_limit 0 = .ok (.iload_n 1, 1) := by decide +kernel
theorem d_X_limit_1 : decode b_X_limit 1 = .ok (.invokestatic 43, 3) := by decide +kernel
theorem d_X_limit_4 : decode b_X_limit 4 = .ok (.ifCond .ne 5, 3) := by decide +kernel
theorem d_X_limit_7 : decode b_X_limit 7 = .ok (.iconst (-1), 1) := by decide +kernel
theorem d_X_limit_8 : decode b_X_limit 8 = .ok (.ireturn, 1) := by decide +kernel
theorem d_X_limit_9 : decode b_X_limit 9 = .ok (.iload_n 2, 1) := by decide +kernel
theorem d_X_limit_10 : decode b_X_limit 10 = .ok (.iconst 0, 1) := by decide +kernel
theorem d_X_limit_11 : decode b_X_limit 11 = .ok (.bipush 9, 2) := by decide +kernel
theorem d_X_limit_13 : decode b_X_limit 13 = .ok (.invokestatic 120, 3) := by decide +kernel
theorem d_X_limit_16 : decode b_X_limit 16 = .ok (.ifCond .eq 14, 3) := by decide +kernel
theorem d_X_limit_19 : decode b_X_limit 19 = .ok (.iload_n 3, 1) := by decide +kernel
theorem d_X_limit_20 : decode b_X_limit 20 = .ok (.iconst 0, 1) := by decide +kernel
theorem d_X_limit_21 : decode b_X_limit 21 = .ok (.sipush 500, 3) := by decide +kernel
theorem d_X_limit_24 : decode b_X_limit 24 = .ok (.invokestatic 120, 3) := by decide +kernel
theorem d_X_limit_27 : decode b_X_limit 27 = .ok (.ifCond .ne 6, 3) := by decide +kernel
theorem d_X_limit_30 : decode b_X_limit 30 = .ok (.bipush (-2), 2) := by decide +kernel
theorem d_X_limit_32 : decode b_X_limit 32 = .ok (.ireturn, 1) := by decide +kernel
theorem d_X_limit_33 : decode b_X_limit 33 = .ok (.aload_n 0, 1) := by decide +kernel
theorem d_X_limit_34 : decode b_X_limit 34 = .ok (.getfield 21, 3) := by decide +kernel
theorem d_X_limit_37 : decode b_X_limit 37 = .ok (.iload_n 1, 1) := by decide +kernel
theorem d_X_limit_38 : decode b_X_limit 38 = .ok (.iload_n 2, 1) := by decide +kernel
theorem d_X_limit_39 : decode b_X_limit 39 = .ok (.iload_n 3, 1) := by decide +kernel
theorem d_X_limit_40 : decode b_X_limit 40 = .ok (.invokevirtual 136, 3) := by decide +kernel
theorem d_X_limit_43 : decode b_X_limit 43 = .ok (.iconst 1, 1) := by decide +kernel
theorem d_X_limit_44 : decode b_X_limit 44 = .ok (.ireturn, 1) := by decide +kernel
theorem d_X_copy_0 : decode b_X_copy 0 = .ok (.iload_n 1, 1) := by decide +kernel
theorem d_X_copy_1 : decode b_X_copy 1 = .ok (.invokestatic 60, 3) := by decide +kernel
theorem d_X_copy_4 : decode b_X_copy 4 = .ok (.ifCond .ne 5, 3) := by decide +kernel
theorem d_X_copy_7 : decode b_X_copy 7 = .ok (.iconst (-1), 1) := by decide +kernel
theorem d_X_copy_8 : decode b_X_copy 8 = .ok (.ireturn, 1) := by decide +kernel
theorem d_X_copy_9 : decode b_X_copy 9 = .ok (.iload_n 2, 1) := by decide +kernel
theorem d_X_copy_10 : decode b_X_copy 10 = .ok (.iconst 1, 1) := by decide +kernel
theorem d_X_copy_11 : decode b_X_copy 11 = .ok (.sipush 500, 3) := by decide +kernel
theorem d_X_copy_14 : decode b_X_copy 14 = .ok (.invokestatic 120, 3) := by decide +kernel
theorem d_X_copy_17 : decode b_X_copy 17 = .ok (.ifCond .eq 11, 3) := by decide +kernel
theorem d_X_copy_20 : decode b_X_copy 20 = .ok (.aload_n 0, 1) := by decide +kernel
theorem d_X_copy_21 : decode b_X_copy 21 = .ok (.iload_n 3, 1) := by decide +kernel
theorem d_X_copy_22 : decode b_X_copy 22 = .ok (.invokevirtual 63, 3) := by decide +kernel
theorem d_X_copy_25 : decode b_X_copy 25 = .ok (.ifCond .ne 6, 3) := by decide +kernel
theorem d_X_copy_28 : decode b_X_copy 28 = .ok (.bipush (-2), 2) := by decide +kernel
theorem d_X_copy_30 : decode b_X_copy 30 = .ok (.ireturn, 1) := by decide +kernel
theorem d_X_copy_31 : decode b_X_copy 31 = .ok (.aload_n 0, 1) := by decide +kernel
theorem d_X_copy_32 : decode b_X_copy 32 = .ok (.getfield 28, 3) := by decide +kernel
theorem d_X_copy_35 : decode b_X_copy 35 = .ok (.iload_n 1, 1) := by decide +kernel
theorem d_X_copy_36 : decode b_X_copy 36 = .ok (.invokevirtual 94, 3) := by decide +kernel
theorem d_X_copy_39 : decode b_X_copy 39 = .ok (.iconst 2, 1) := by decide +kernel
theorem d_X_copy_40 : decode b_X_copy 40 = .ok (.if_icmp .ne 15, 3) := by decide +kernel
theorem d_X_copy_43 : decode b_X_copy 43 = .ok (.aload_n 0, 1) := by decide +kernel
theorem d_X_copy_44 : decode b_X_copy 44 = .ok (.getfield 28, 3) := by decide +kernel
theorem d_X_copy_47 : decode b_X_copy 47 = .ok (.iload_n 1, 1) := by decide +kernel
theorem d_X_copy_48 : decode b_X_copy 48 = .ok (.invokevirtual 97, 3) := by decide +kernel
theorem d_X_copy_51 : decode b_X_copy 51 = .ok (.iconst 1, 1) := by decide +kernel
theorem d_X_copy_52 : decode b_X_copy 52 = .ok (.if_icmp .le 6, 3) := by decide +kernel
theorem d_X_copy_55 : decode b_X_copy 55 = .ok (.bipush (-3), 2) := by decide +kernel
theorem d_X_copy_57 : decode b_X_copy 57 = .ok (.ireturn, 1) := by decide +kernel
theorem d_X_copy_58 : decode b_X_copy 58 = .ok (.aload_n 0, 1) := by decide +kernel
theorem d_X_copy_59 : decode b_X_copy 59 = .ok (.getfield 35, 3) := by decide +kernel
theorem d_X_copy_62 : decode b_X_copy 62 = .ok (.aload_n 0, 1) := by decide +kernel
theorem d_X_copy_63 : decode b_X_copy 63 = .ok (.getfield 28, 3) := by decide +kernel
theorem d_X_copy_66 : decode b_X_copy 66 = .ok (.iload_n 1, 1) := by decide +kernel
theorem d_X_copy_67 : decode b_X_copy 67 = .ok (.invokevirtual 104, 3) := by decide +kernel
theorem d_X_copy_70 : decode b_X_copy 70 = .ok (.invokevirtual 107, 3) := by decide +kernel
theorem d_X_copy_73 : decode b_X_copy 73 = .ok (.istore 4, 2) := by decide +kernel
theorem d_X_copy_75 : decode b_X_copy 75 = .ok (.iload_n 3, 1) := by decide +kernel
theorem d_X_copy_76 : decode b_X_copy 76 = .ok (.ldc 139, 2) := by decide +kernel
theorem d_X_copy_78 : decode b_X_copy 78 = .ok (.idiv, 1) := by decide +kernel
theorem d_X_copy_79 : decode b_X_copy 79 = .ok (.istore 5, 2) := by decide +kernel
theorem d_X_copy_81 : decode b_X_copy 81 = .ok (.iload_n 2, 1) := by decide +kernel
theorem d_X_copy_82 : decode b_X_copy 82 = .ok (.aload_n 0, 1) := by decide +kernel
theorem d_X_copy_83 : decode b_X_copy 83 = .ok (.getfield 21, 3) := by decide +kernel
theorem d_X_copy_86 : decode b_X_copy 86 = .ok (.iload 4, 2) := by decide +kernel
theorem d_X_copy_88 : decode b_X_copy 88 = .ok (.iload 5, 2) := by decide +kernel
theorem d_X_copy_90 : decode b_X_copy 90 = .ok (.invokevirtual 140, 3) := by decide +kernel
theorem d_X_copy_93 : decode b_X_copy 93 = .ok (.if_icmp .le 6, 3) := by decide +kernel
theorem d_X_copy_96 : decode b_X_copy 96 = .ok (.bipush (-4), 2) := by decide +kernel
theorem d_X_copy_98 : decode b_X_copy 98 = .ok (.ireturn, 1) := by decide +kernel
theorem d_X_copy_99 : decode b_X_copy 99 = .ok (.aload_n 0, 1) := by decide +kernel
theorem d_X_copy_100 : decode b_X_copy 100 = .ok (.iload_n 3, 1) := by decide +kernel
theorem d_X_copy_101 : decode b_X_copy 101 = .ok (.putfield 39, 3) := by decide +kernel
theorem d_X_copy_104 : decode b_X_copy 104 = .ok (.aload_n 0, 1) := by decide +kernel
theorem d_X_copy_105 : decode b_X_copy 105 = .ok (.getfield 21, 3) := by decide +kernel
theorem d_X_copy_108 : decode b_X_copy 108 = .ok (.iload 4, 2) := by decide +kernel
theorem d_X_copy_110 : decode b_X_copy 110 = .ok (.iload 5, 2) := by decide +kernel
theorem d_X_copy_112 : decode b_X_copy 112 = .ok (.iload_n 2, 1) := by decide +kernel
theorem d_X_copy_113 : decode b_X_copy 113 = .ok (.invokevirtual 143, 3) := by decide +kernel
theorem d_X_copy_116 : decode b_X_copy 116 = .ok (.aload_n 0, 1) := by decide +kernel
theorem d_X_copy_117 : decode b_X_copy 117 = .ok (.getfield 21, 3) := by decide +kernel
theorem d_X_copy_120 : decode b_X_copy 120 = .ok (.iload 4, 2) := by decide +kernel
theorem d_X_copy_122 : decode b_X_copy 122 = .ok (.iload 5, 2) := by decide +kernel
theorem d_X_copy_124 : decode b_X_copy 124 = .ok (.invokevirtual 140, 3) := by decide +kernel
theorem d_X_copy_127 : decode b_X_copy 127 = .ok (.ireturn, 1) := by decide +kernel
theorem d_X_close_0 : decode b_X_close 0 = .ok (.aload_n 0, 1) := by decide +kernel
theorem d_X_close_1 : decode b_X_close 1 = .ok (.iload_n 1, 1) := by decide +kernel
theorem d_X_close_2 : decode b_X_close 2 = .ok (.invokevirtual 63, 3) := by decide +kernel
theorem d_X_close_5 : decode b_X_close 5 = .ok (.ifCond .ne 6, 3) := by decide +kernel
theorem d_X_close_8 : decode b_X_close 8 = .ok (.bipush (-2), 2) := by decide +kernel
theorem d_X_close_10 : decode b_X_close 10 = .ok (.ireturn, 1) := by decide +kernel
theorem d_X_close_11 : decode b_X_close 11 = .ok (.aload_n 0, 1) := by decide +kernel
theorem d_X_close_12 : decode b_X_close 12 = .ok (.iload_n 1, 1) := by decide +kernel
theorem d_X_close_13 : decode b_X_close 13 = .ok (.putfield 39, 3) := by decide +kernel
theorem d_X_close_16 : decode b_X_close 16 = .ok (.aload_n 0, 1) := by decide +kernel
theorem d_X_close_17 : decode b_X_close 17 = .ok (.getfield 35, 3) := by decide +kernel
theorem d_X_close_20 : decode b_X_close 20 = .ok (.iload_n 1, 1) := by decide +kernel
theorem d_X_close_21 : decode b_X_close 21 = .ok (.invokevirtual 146, 3) := by decide +kernel
theorem d_X_close_24 : decode b_X_close 24 = .ok (.aload_n 0, 1) := by decide +kernel
theorem d_X_close_25 : decode b_X_close 25 = .ok (.getfield 12, 3) := by decide +kernel
theorem d_X_close_28 : decode b_X_close 28 = .ok (.invokevirtual 149, 3) := by decide +kernel
theorem d_X_close_31 : decode b_X_close 31 = .ok (.aload_n 0, 1) := by decide +kernel
theorem d_X_close_32 : decode b_X_close 32 = .ok (.getfield 28, 3) := by decide +kernel
theorem d_X_close_35 : decode b_X_close 35 = .ok (.invokevirtual 152, 3) := by decide +kernel
theorem d_X_close_38 : decode b_X_close 38 = .ok (.ireturn, 1) := by decide +kernel
theorem d_X_unit_0 : decode b_X_unit 0 = .ok (.iload_n 1, 1) := by decide +kernel
theorem d_X_unit_1 : decode b_X_unit 1 = .ok (.invokestatic 60, 3) := by decide +kernel
theorem d_X_unit_4 : decode b_X_unit 4 = .ok (.ifCond .ne 5, 3) := by decide +kernel
theorem d_X_unit_7 : decode b_X_unit 7 = .ok (.iconst (-1), 1) := by decide +kernel
theorem d_X_unit_8 : decode b_X_unit 8 = .ok (.ireturn, 1) := by decide +kernel
theorem d_X_unit_9 : decode b_X_unit 9 = .ok (.iload_n 2, 1) := by decide +kernel
theorem d_X_unit_10 : decode b_X_unit 10 = .ok (.tableswitch 79 0 4 #[34, 43, 52, 61, 70], 34) := by decide +kernel
theorem d_X_unit_44 : decode b_X_unit 44 = .ok (.aload_n 0, 1) := by decide +kernel
theorem d_X_unit_45 : decode b_X_unit 45 = .ok (.getfield 28, 3) := by decide +kernel
theorem d_X_unit_48 : decode b_X_unit 48 = .ok (.iload_n 1, 1) := by decide +kernel
theorem d_X_unit_49 : decode b_X_unit 49 = .ok (.invokevirtual 94, 3) := by decide +kernel
theorem d_X_unit_52 : decode b_X_unit 52 = .ok (.ireturn, 1) := by decide +kernel
theorem d_X_unit_53 : decode b_X_unit 53 = .ok (.aload_n 0, 1) := by decide +kernel
theorem d_X_unit_54 : decode b_X_unit 54 = .ok (.getfield 28, 3) := by decide +kernel
theorem d_X_unit_57 : decode b_X_unit 57 = .ok (.iload_n 1, 1) := by decide +kernel
theorem d_X_unit_58 : decode b_X_unit 58 = .ok (.invokevirtual 97, 3) := by decide +kernel
theorem d_X_unit_61 : decode b_X_unit 61 = .ok (.ireturn, 1) := by decide +kernel
theorem d_X_unit_62 : decode b_X_unit 62 = .ok (.aload_n 0, 1) := by decide +kernel
theorem d_X_unit_63 : decode b_X_unit 63 = .ok (.getfield 28, 3) := by decide +kernel
theorem d_X_unit_66 : decode b_X_unit 66 = .ok (.iload_n 1, 1) := by decide +kernel
theorem d_X_unit_67 : decode b_X_unit 67 = .ok (.invokevirtual 156, 3) := by decide +kernel
theorem d_X_unit_70 : decode b_X_unit 70 = .ok (.ireturn, 1) := by decide +kernel
theorem d_X_unit_71 : decode b_X_unit 71 = .ok (.aload_n 0, 1) := by decide +kernel
theorem d_X_unit_72 : decode b_X_unit 72 = .ok (.getfield 28, 3) := by decide +kernel
theorem d_X_unit_75 : decode b_X_unit 75 = .ok (.iload_n 1, 1) := by decide +kernel
theorem d_X_unit_76 : decode b_X_unit 76 = .ok (.invokevirtual 104, 3) := by decide +kernel
theorem d_X_unit_79 : decode b_X_unit 79 = .ok (.ireturn, 1) := by decide +kernel
theorem d_X_unit_80 : decode b_X_unit 80 = .ok (.aload_n 0, 1) := by decide +kernel
theorem d_X_unit_81 : decode b_X_unit 81 = .ok (.getfield 35, 3) := by decide +kernel
theorem d_X_unit_84 : decode b_X_unit 84 = .ok (.iload_n 1, 1) := by decide +kernel
theorem d_X_unit_85 : decode b_X_unit 85 = .ok (.invokevirtual 159, 3) := by decide +kernel
theorem d_X_unit_88 : decode b_X_unit 88 = .ok (.ireturn, 1) := by decide +kernel
theorem d_X_unit_89 : decode b_X_unit 89 = .ok (.iconst (-1), 1) := by decide +kernel
theorem d_X_unit_90 : decode b_X_unit 90 = .ok (.ireturn, 1) := by decide +kernel
theorem d_X_person_0 : decode b_X_person 0 = .ok (.iload_n 1, 1) := by decide +kernel
theorem d_X_person_1 : decode b_X_person 1 = .ok (.invokestatic 43, 3) := by decide +kernel
theorem d_X_person_4 : decode b_X_person 4 = .ok (.ifCond .ne 5, 3) := by decide +kernel
theorem d_X_person_7 : decode b_X_person 7 = .ok (.iconst (-1), 1) := by decide +kernel
theorem d_X_person_8 : decode b_X_person 8 = .ok (.ireturn, 1) := by decide +kernel
theorem d_X_person_9 : decode b_X_person 9 = .ok (.iload_n 2, 1) := by decide +kernel
theorem d_X_person_10 : decode b_X_person 10 = .ok (.tableswitch 79 0 4 #[34, 43, 52, 61, 70], 34) := by decide +kernel
theorem d_X_person_44 : decode b_X_person 44 = .ok (.aload_n 0, 1) := by decide +kernel
theorem d_X_person_45 : decode b_X_person 45 = .ok (.getfield 12, 3) := by decide +kernel
theorem d_X_person_48 : decode b_X_person 48 = .ok (.iload_n 1, 1) := by decide +kernel
theorem d_X_person_49 : decode b_X_person 49 = .ok (.invokevirtual 162, 3) := by decide +kernel
theorem d_X_person_52 : decode b_X_person 52 = .ok (.ireturn, 1) := by decide +kernel
theorem d_X_person_53 : decode b_X_person 53 = .ok (.aload_n 0, 1) := by decide +kernel
theorem d_X_person_54 : decode b_X_person 54 = .ok (.getfield 12, 3) := by decide +kernel
theorem d_X_person_57 : decode b_X_person 57 = .ok (.iload_n 1, 1) := by decide +kernel
theorem d_X_person_58 : decode b_X_person 58 = .ok (.invokevirtual 165, 3) := by decide +kernel
theorem d_X_person_61 : decode b_X_person 61 = .ok (.ireturn, 1) := by decide +kernel
theorem d_X_person_62 : decode b_X_person 62 = .ok (.aload_n 0, 1) := by decide +kernel
theorem d_X_person_63 : decode b_X_person 63 = .ok (.getfield 35, 3) := by decide +kernel
theorem d_X_person_66 : decode b_X_person 66 = .ok (.iload_n 1, 1) := by decide +kernel
theorem d_X_person_67 : decode b_X_person 67 = .ok (.invokevirtual 76, 3) := by decide +kernel
theorem d_X_person_70 : decode b_X_person 70 = .ok (.ireturn, 1) := by decide +kernel
theorem d_X_person_71 : decode b_X_person 71 = .ok (.aload_n 0, 1) := by decide +kernel
theorem d_X_person_72 : decode b_X_person 72 = .ok (.getfield 35, 3) := by decide +kernel
theorem d_X_person_75 : decode b_X_person 75 = .ok (.iload_n 1, 1) := by decide +kernel
theorem d_X_person_76 : decode b_X_person 76 = .ok (.invokevirtual 54, 3) := by decide +kernel
theorem d_X_person_79 : decode b_X_person 79 = .ok (.ireturn, 1) := by decide +kernel
theorem d_X_person_80 : decode b_X_person 80 = .ok (.aload_n 0, 1) := by decide +kernel
theorem d_X_person_81 : decode b_X_person 81 = .ok (.getfield 21, 3) := by decide +kernel
theorem d_X_person_84 : decode b_X_person 84 = .ok (.iload_n 1, 1) := by decide +kernel
theorem d_X_person_85 : decode b_X_person 85 = .ok (.invokevirtual 168, 3) := by decide +kernel
theorem d_X_person_88 : decode b_X_person 88 = .ok (.ireturn, 1) := by decide +kernel
theorem d_X_person_89 : decode b_X_person 89 = .ok (.iconst (-1), 1) := by decide +kernel
theorem d_X_person_90 : decode b_X_person 90 = .ok (.ireturn, 1) := by decide +kernel
theorem d_X_request_0 : decode b_X_request 0 = .ok (.aload_n 0, 1) := by decide +kernel
theorem d_X_request_1 : decode b_X_request 1 = .ok (.getfield 35, 3) := by decide +kernel
theorem d_X_request_4 : decode b_X_request 4 = .ok (.iload_n 1, 1) := by decide +kernel
theorem d_X_request_5 : decode b_X_request 5 = .ok (.invokevirtual 171, 3) := by decide +kernel
theorem d_X_request_8 : decode b_X_request 8 = .ok (.ifCond .ne 13, 3) := by decide +kernel
theorem d_X_request_11 : decode b_X_request 11 = .ok (.new 174, 3) := by decide +kernel
theorem d_X_request_14 : decode b_X_request 14 = .ok (.dup, 1) := by decide +kernel
theorem d_X_request_15 : decode b_X_request 15 = .ok (.ldc 176, 2) := by decide +kernel
theorem d_X_request_17 : decode b_X_request 17 = .ok (.invokespecial 178, 3) := by decide +kernel
theorem d_X_request_20 : decode b_X_request 20 = .ok (.athrow, 1) := by decide +kernel
theorem d_X_request_21 : decode b_X_request 21 = .ok (.iload_n 2, 1) := by decide +kernel
theorem d_X_request_22 : decode b_X_request 22 = .ok (.tableswitch 92 0 5 #[38, 47, 56, 65, 74, 83], 38) := by decide +kernel
theorem d_X_request_60 : decode b_X_request 60 = .ok (.aload_n 0, 1) := by decide +kernel
theorem d_X_request_61 : decode b_X_request 61 = .ok (.getfield 35, 3) := by decide +kernel
theorem d_X_request_64 : decode b_X_request 64 = .ok (.iload_n 1, 1) := by decide +kernel
theorem d_X_request_65 : decode b_X_request 65 = .ok (.invokevirtual 107, 3) := by decide +kernel
theorem d_X_request_68 : decode b_X_request 68 = .ok (.ireturn, 1) := by decide +kernel
theorem d_X_request_69 : decode b_X_request 69 = .ok (.aload_n 0, 1) := by decide +kernel
theorem d_X_request_70 : decode b_X_request 70 = .ok (.getfield 35, 3) := by decide +kernel
theorem d_X_request_73 : decode b_X_request 73 = .ok (.iload_n 1, 1) := by decide +kernel
theorem d_X_request_74 : decode b_X_request 74 = .ok (.invokevirtual 181, 3) := by decide +kernel
theorem d_X_request_77 : decode b_X_request 77 = .ok (.ireturn, 1) := by decide +kernel
theorem d_X_request_78 : decode b_X_request 78 = .ok (.aload_n 0, 1) := by decide +kernel
theorem d_X_request_79 : decode b_X_request 79 = .ok (.getfield 35, 3) := by decide +kernel
theorem d_X_request_82 : decode b_X_request 82 = .ok (.iload_n 1, 1) := by decide +kernel
theorem d_X_request_83 : decode b_X_request 83 = .ok (.invokevirtual 184, 3) := by decide +kernel
theorem d_X_request_86 : decode b_X_request 86 = .ok (.ireturn, 1) := by decide +kernel
theorem d_X_request_87 : decode b_X_request 87 = .ok (.aload_n 0, 1) := by decide +kernel
theorem d_X_request_88 : decode b_X_request 88 = .ok (.getfield 35, 3) := by decide +kernel
theorem d_X_request_91 : decode b_X_request 91 = .ok (.iload_n 1, 1) := by decide +kernel
theorem d_X_request_92 : decode b_X_request 92 = .ok (.invokevirtual 187, 3) := by decide +kernel
theorem d_X_request_95 : decode b_X_request 95 = .ok (.ireturn, 1) := by decide +kernel
theorem d_X_request_96 : decode b_X_request 96 = .ok (.aload_n 0, 1) := by decide +kernel
theorem d_X_request_97 : decode b_X_request 97 = .ok (.getfield 35, 3) := by decide +kernel
theorem d_X_request_100 : decode b_X_request 100 = .ok (.iload_n 1, 1) := by decide +kernel
theorem d_X_request_101 : decode b_X_request 101 = .ok (.invokevirtual 190, 3) := by decide +kernel
theorem d_X_request_104 : decode b_X_request 104 = .ok (.ireturn, 1) := by decide +kernel
theorem d_X_request_105 : decode b_X_request 105 = .ok (.aload_n 0, 1) := by decide +kernel
theorem d_X_request_106 : decode b_X_request 106 = .ok (.getfield 35, 3) := by decide +kernel
theorem d_X_request_109 : decode b_X_request 109 = .ok (.iload_n 1, 1) := by decide +kernel
theorem d_X_request_110 : decode b_X_request 110 = .ok (.invokevirtual 193, 3) := by decide +kernel
theorem d_X_request_113 : decode b_X_request 113 = .ok (.ireturn, 1) := by decide +kernel
theorem d_X_request_114 : decode b_X_request 114 = .ok (.new 174, 3) := by decide +kernel
theorem d_X_request_117 : decode b_X_request 117 = .ok (.dup, 1) := by decide +kernel
theorem d_X_request_118 : decode b_X_request 118 = .ok (.ldc 196, 2) := by decide +kernel
theorem d_X_request_120 : decode b_X_request 120 = .ok (.invokespecial 178, 3) := by decide +kernel
theorem d_X_request_123 : decode b_X_request 123 = .ok (.athrow, 1) := by decide +kernel
theorem d_X_waits_0 : decode b_X_waits 0 = .ok (.aload_n 0, 1) := by decide +kernel
theorem d_X_waits_1 : decode b_X_waits 1 = .ok (.getfield 35, 3) := by decide +kernel
theorem d_X_waits_4 : decode b_X_waits 4 = .ok (.iload_n 1, 1) := by decide +kernel
theorem d_X_waits_5 : decode b_X_waits 5 = .ok (.iload_n 2, 1) := by decide +kernel
theorem d_X_waits_6 : decode b_X_waits 6 = .ok (.invokevirtual 90, 3) := by decide +kernel
theorem d_X_waits_9 : decode b_X_waits 9 = .ok (.istore_n 3, 1) := by decide +kernel
theorem d_X_waits_10 : decode b_X_waits 10 = .ok (.iload_n 3, 1) := by decide +kernel
theorem d_X_waits_11 : decode b_X_waits 11 = .ok (.iconst (-1), 1) := by decide +kernel
theorem d_X_waits_12 : decode b_X_waits 12 = .ok (.if_icmp .ne 13, 3) := by decide +kernel
theorem d_X_waits_15 : decode b_X_waits 15 = .ok (.new 174, 3) := by decide +kernel
theorem d_X_waits_18 : decode b_X_waits 18 = .ok (.dup, 1) := by decide +kernel
theorem d_X_waits_19 : decode b_X_waits 19 = .ok (.ldc 198, 2) := by decide +kernel
theorem d_X_waits_21 : decode b_X_waits 21 = .ok (.invokespecial 178, 3) := by decide +kernel
theorem d_X_waits_24 : decode b_X_waits 24 = .ok (.athrow, 1) := by decide +kernel
theorem d_X_waits_25 : decode b_X_waits 25 = .ok (.iload_n 3, 1) := by decide +kernel
theorem d_X_waits_26 : decode b_X_waits 26 = .ok (.ireturn, 1) := by decide +kernel
theorem d_X_isWithin_0 : decode b_X_isWithin 0 = .ok (.iload_n 0, 1) := by decide +kernel
theorem d_X_isWithin_1 : decode b_X_isWithin 1 = .ok (.iload_n 1, 1) := by decide +kernel
theorem d_X_isWithin_2 : decode b_X_isWithin 2 = .ok (.if_icmp .lt 12, 3) := by decide +kernel
theorem d_X_isWithin_5 : decode b_X_isWithin 5 = .ok (.iload_n 0, 1) := by decide +kernel
theorem d_X_isWithin_6 : decode b_X_isWithin 6 = .ok (.iload_n 2, 1) := by decide +kernel
theorem d_X_isWithin_7 : decode b_X_isWithin 7 = .ok (.if_icmp .gt 7, 3) := by decide +kernel
theorem d_X_isWithin_10 : decode b_X_isWithin 10 = .ok (.iconst 1, 1) := by decide +kernel
theorem d_X_isWithin_11 : decode b_X_isWithin 11 = .ok (.goto 4, 3) := by decide +kernel
theorem d_X_isWithin_14 : decode b_X_isWithin 14 = .ok (.iconst 0, 1) := by decide +kernel
theorem d_X_isWithin_15 : decode b_X_isWithin 15 = .ok (.ireturn, 1) := by decide +kernel
theorem d_X_isPerson_0 : decode b_X_isPerson 0 = .ok (.iload_n 0, 1) := by decide +kernel
theorem d_X_isPerson_1 : decode b_X_isPerson 1 = .ok (.iconst 0, 1) := by decide +kernel
theorem d_X_isPerson_2 : decode b_X_isPerson 2 = .ok (.bipush 59, 2) := by decide +kernel
theorem d_X_isPerson_4 : decode b_X_isPerson 4 = .ok (.invokestatic 120, 3) := by decide +kernel
theorem d_X_isPerson_7 : decode b_X_isPerson 7 = .ok (.ireturn, 1) := by decide +kernel
theorem d_X_isUnit_0 : decode b_X_isUnit 0 = .ok (.iload_n 0, 1) := by decide +kernel
theorem d_X_isUnit_1 : decode b_X_isUnit 1 = .ok (.iconst 0, 1) := by decide +kernel
theorem d_X_isUnit_2 : decode b_X_isUnit 2 = .ok (.bipush 79, 2) := by decide +kernel
theorem d_X_isUnit_4 : decode b_X_isUnit 4 = .ok (.invokestatic 120, 3) := by decide +kernel
theorem d_X_isUnit_7 : decode b_X_isUnit 7 = .ok (.ireturn, 1) := by decide +kernel
theorem d_X_isTime_0 : decode b_X_isTime 0 = .ok (.iload_n 1, 1) := by decide +kernel
theorem d_X_isTime_1 : decode b_X_isTime 1 = .ok (.aload_n 0, 1) := by decide +kernel
theorem d_X_isTime_2 : decode b_X_isTime 2 = .ok (.getfield 39, 3) := by decide +kernel
theorem d_X_isTime_5 : decode b_X_isTime 5 = .ok (.ldc 200, 2) := by decide +kernel
theorem d_X_isTime_7 : decode b_X_isTime 7 = .ok (.invokestatic 120, 3) := by decide +kernel
theorem d_X_isTime_10 : decode b_X_isTime 10 = .ok (.ireturn, 1) := by decide +kernel
theorem d_X_isRightTooLow_0 : decode b_X_isRightTooLow 0 = .ok (.aload_n 0, 1) := by decide +kernel
theorem d_X_isRightTooLow_1 : decode b_X_isRightTooLow 1 = .ok (.getfield 21, 3) := by decide +kernel
theorem d_X_isRightTooLow_4 : decode b_X_isRightTooLow 4 = .ok (.iload_n 1, 1) := by decide +kernel
theorem d_X_isRightTooLow_5 : decode b_X_isRightTooLow 5 = .ok (.invokevirtual 201, 3) := by decide +kernel
theorem d_X_isRightTooLow_8 : decode b_X_isRightTooLow 8 = .ok (.aload_n 0, 1) := by decide +kernel
theorem d_X_isRightTooLow_9 : decode b_X_isRightTooLow 9 = .ok (.getfield 28, 3) := by decide +kernel
theorem d_X_isRightTooLow_12 : decode b_X_isRightTooLow 12 = .ok (.iload_n 2, 1) := by decide +kernel
theorem d_X_isRightTooLow_13 : decode b_X_isRightTooLow 13 = .ok (.invokevirtual 156, 3) := by decide +kernel
theorem d_X_isRightTooLow_16 : decode b_X_isRightTooLow 16 = .ok (.if_icmp .ge 7, 3) := by decide +kernel
theorem d_X_isRightTooLow_19 : decode b_X_isRightTooLow 19 = .ok (.iconst 1, 1) := by decide +kernel
theorem d_X_isRightTooLow_20 : decode b_X_isRightTooLow 20 = .ok (.goto 4, 3) := by decide +kernel
theorem d_X_isRightTooLow_23 : decode b_X_isRightTooLow 23 = .ok (.iconst 0, 1) := by decide +kernel
theorem d_X_isRightTooLow_24 : decode b_X_isRightTooLow 24 = .ok (.ireturn, 1) := by decide +kernel
theorem d_X_sendFor_0 : decode b_X_sendFor 0 = .ok (.aload_n 0, 1) := by decide +kernel
theorem d_X_sendFor_1 : decode b_X_sendFor 1 = .ok (.getfield 28, 3) := by decide +kernel
theorem d_X_sendFor_4 : decode b_X_sendFor 4 = .ok (.iload_n 1, 1) := by decide +kernel
theorem d_X_sendFor_5 : decode b_X_sendFor 5 = .ok (.iconst 1, 1) := by decide +kernel
theorem d_X_sendFor_6 : decode b_X_sendFor 6 = .ok (.iload_n 2, 1) := by decide +kernel
theorem d_X_sendFor_7 : decode b_X_sendFor 7 = .ok (.invokevirtual 110, 3) := by decide +kernel
theorem d_X_sendFor_10 : decode b_X_sendFor 10 = .ok (.aload_n 0, 1) := by decide +kernel
theorem d_X_sendFor_11 : decode b_X_sendFor 11 = .ok (.getfield 35, 3) := by decide +kernel
theorem d_X_sendFor_14 : decode b_X_sendFor 14 = .ok (.iload_n 2, 1) := by decide +kernel
theorem d_X_sendFor_15 : decode b_X_sendFor 15 = .ok (.iconst 1, 1) := by decide +kernel
theorem d_X_sendFor_16 : decode b_X_sendFor 16 = .ok (.invokevirtual 204, 3) := by decide +kernel
theorem d_X_sendFor_19 : decode b_X_sendFor 19 = .ok (.return_, 1) := by decide +kernel
theorem d_X_withdrawFromLowRights_0 : decode b_X_withdrawFromLowRights 0 = .ok (.iconst 0, 1) := by decide +kernel
theorem d_X_withdrawFromLowRights_1 : decode b_X_withdrawFromLowRights 1 = .ok (.istore_n 2, 1) := by decide +kernel
theorem d_X_withdrawFromLowRights_2 : decode b_X_withdrawFromLowRights 2 = .ok (.iconst 0, 1) := by decide +kernel
theorem d_X_withdrawFromLowRights_3 : decode b_X_withdrawFromLowRights 3 = .ok (.istore_n 3, 1) := by decide +kernel
theorem d_X_withdrawFromLowRights_4 : decode b_X_withdrawFromLowRights 4 = .ok (.iload_n 3, 1) := by decide +kernel
theorem d_X_withdrawFromLowRights_5 : decode b_X_withdrawFromLowRights 5 = .ok (.sipush 300, 3) := by decide +kernel
theorem d_X_withdrawFromLowRights_8 : decode b_X_withdrawFromLowRights 8 = .ok (.if_icmp .ge 49, 3) := by decide +kernel
theorem d_X_withdrawFromLowRights_11 : decode b_X_withdrawFromLowRights 11 = .ok (.aload_n 0, 1) := by decide +kernel
theorem d_X_withdrawFromLowRights_12 : decode b_X_withdrawFromLowRights 12 = .ok (.getfield 35, 3) := by decide +kernel
theorem d_X_withdrawFromLowRights_15 : decode b_X_withdrawFromLowRights 15 = .ok (.iload_n 3, 1) := by decide +kernel
theorem d_X_withdrawFromLowRights_16 : decode b_X_withdrawFromLowRights 16 = .ok (.iload_n 1, 1) := by decide +kernel
theorem d_X_withdrawFromLowRights_17 : decode b_X_withdrawFromLowRights 17 = .ok (.invokevirtual 207, 3) := by decide +kernel
theorem d_X_withdrawFromLowRights_20 : decode b_X_withdrawFromLowRights 20 = .ok (.ifCond .eq 31, 3) := by decide +kernel
theorem d_X_withdrawFromLowRights_23 : decode b_X_withdrawFromLowRights 23 = .ok (.aload_n 0, 1) := by decide +kernel
theorem d_X_withdrawFromLowRights_24 : decode b_X_withdrawFromLowRights 24 = .ok (.aload_n 0, 1) := by decide +kernel
theorem d_X_withdrawFromLowRights_25 : decode b_X_withdrawFromLowRights 25 = .ok (.getfield 35, 3) := by decide +kernel
theorem d_X_withdrawFromLowRights_28 : decode b_X_withdrawFromLowRights 28 = .ok (.iload_n 3, 1) := by decide +kernel
theorem d_X_withdrawFromLowRights_29 : decode b_X_withdrawFromLowRights 29 = .ok (.invokevirtual 107, 3) := by decide +kernel
theorem d_X_withdrawFromLowRights_32 : decode b_X_withdrawFromLowRights 32 = .ok (.iload_n 1, 1) := by decide +kernel
theorem d_X_withdrawFromLowRights_33 : decode b_X_withdrawFromLowRights 33 = .ok (.invokevirtual 73, 3) := by decide +kernel
theorem d_X_withdrawFromLowRights_36 : decode b_X_withdrawFromLowRights 36 = .ok (.ifCond .eq 15, 3) := by decide +kernel
theorem d_X_withdrawFromLowRights_39 : decode b_X_withdrawFromLowRights 39 = .ok (.aload_n 0, 1) := by decide +kernel
theorem d_X_withdrawFromLowRights_40 : decode b_X_withdrawFromLowRights 40 = .ok (.getfield 35, 3) := by decide +kernel
theorem d_X_withdrawFromLowRights_43 : decode b_X_withdrawFromLowRights 43 = .ok (.iload_n 3, 1) := by decide +kernel
theorem d_X_withdrawFromLowRights_44 : decode b_X_withdrawFromLowRights 44 = .ok (.iconst 4, 1) := by decide +kernel
theorem d_X_withdrawFromLowRights_45 : decode b_X_withdrawFromLowRights 45 = .ok (.invokevirtual 204, 3) := by decide +kernel
theorem d_X_withdrawFromLowRights_48 : decode b_X_withdrawFromLowRights 48 = .ok (.iinc 2 1, 3) := by decide +kernel
theorem d_X_withdrawFromLowRights_51 : decode b_X_withdrawFromLowRights 51 = .ok (.iinc 3 1, 3) := by decide +kernel
theorem d_X_withdrawFromLowRights_54 : decode b_X_withdrawFromLowRights 54 = .ok (.goto (-50), 3) := by decide +kernel
theorem d_X_withdrawFromLowRights_57 : decode b_X_withdrawFromLowRights 57 = .ok (.iload_n 2, 1) := by decide +kernel
theorem d_X_withdrawFromLowRights_58 : decode b_X_withdrawFromLowRights 58 = .ok (.ireturn, 1) := by decide +kernel
end
section
theorem d_H_init_0 : decode b_H_init 0 = .ok (.aload_n 0, 1) := by decide +kernel
theorem d_H_init_1 : decode b_H_init 1 = .ok (.invokespecial 3, 3) := by decide +kernel
theorem d_H_init_4 : decode b_H_init 4 = .ok (.aload_n 0, 1) := by decide +kernel
theorem d_H_init_5 : decode b_H_init 5 = .ok (.bipush 80, 2) := by decide +kernel
theorem d_H_init_7 : decode b_H_init 7 = .ok (.newarray .int, 2) := by decide +kernel
theorem d_H_init_9 : decode b_H_init 9 = .ok (.putfield 9, 3) := by decide +kernel
theorem d_H_init_12 : decode b_H_init 12 = .ok (.aload_n 0, 1) := by decide +kernel
theorem d_H_init_13 : decode b_H_init 13 = .ok (.bipush 80, 2) := by decide +kernel
theorem d_H_init_15 : decode b_H_init 15 = .ok (.newarray .int, 2) := by decide +kernel
theorem d_H_init_17 : decode b_H_init 17 = .ok (.putfield 15, 3) := by decide +kernel
theorem d_H_init_20 : decode b_H_init 20 = .ok (.aload_n 0, 1) := by decide +kernel
theorem d_H_init_21 : decode b_H_init 21 = .ok (.bipush 80, 2) := by decide +kernel
theorem d_H_init_23 : decode b_H_init 23 = .ok (.newarray .int, 2) := by decide +kernel
theorem d_H_init_25 : decode b_H_init 25 = .ok (.putfield 18, 3) := by decide +kernel
theorem d_H_init_28 : decode b_H_init 28 = .ok (.aload_n 0, 1) := by decide +kernel
theorem d_H_init_29 : decode b_H_init 29 = .ok (.bipush 80, 2) := by decide +kernel
theorem d_H_init_31 : decode b_H_init 31 = .ok (.newarray .int, 2) := by decide +kernel
theorem d_H_init_33 : decode b_H_init 33 = .ok (.putfield 21, 3) := by decide +kernel
theorem d_H_init_36 : decode b_H_init 36 = .ok (.aload_n 0, 1) := by decide +kernel
theorem d_H_init_37 : decode b_H_init 37 = .ok (.getfield 21, 3) := by decide +kernel
theorem d_H_init_40 : decode b_H_init 40 = .ok (.iconst (-1), 1) := by decide +kernel
theorem d_H_init_41 : decode b_H_init 41 = .ok (.invokestatic 24, 3) := by decide +kernel
theorem d_H_init_44 : decode b_H_init 44 = .ok (.return_, 1) := by decide +kernel
theorem d_H_placeOf_0 : decode b_H_placeOf 0 = .ok (.iload_n 1, 1) := by decide +kernel
theorem d_H_placeOf_1 : decode b_H_placeOf 1 = .ok (.invokestatic 30, 3) := by decide +kernel
theorem d_H_placeOf_4 : decode b_H_placeOf 4 = .ok (.ifCond .eq 12, 3) := by decide +kernel
theorem d_H_placeOf_7 : decode b_H_placeOf 7 = .ok (.aload_n 0, 1) := by decide +kernel
theorem d_H_placeOf_8 : decode b_H_placeOf 8 = .ok (.getfield 9, 3) := by decide +kernel
theorem d_H_placeOf_11 : decode b_H_placeOf 11 = .ok (.iload_n 1, 1) := by decide +kernel
theorem d_H_placeOf_12 : decode b_H_placeOf 12 = .ok (.iaload, 1) := by decide +kernel
theorem d_H_placeOf_13 : decode b_H_placeOf 13 = .ok (.goto 4, 3) := by decide +kernel
theorem d_H_placeOf_16 : decode b_H_placeOf 16 = .ok (.iconst (-1), 1) := by decide +kernel
theorem d_H_placeOf_17 : decode b_H_placeOf 17 = .ok (.ireturn, 1) := by decide +kernel
theorem d_H_conditionOf_0 : decode b_H_conditionOf 0 = .ok (.iload_n 1, 1) := by decide +kernel
theorem d_H_conditionOf_1 : decode b_H_conditionOf 1 = .ok (.invokestatic 30, 3) := by decide +kernel
theorem d_H_conditionOf_4 : decode b_H_conditionOf 4 = .ok (.ifCond .eq 12, 3) := by decide +kernel
theorem d_H_conditionOf_7 : decode b_H_conditionOf 7 = .ok (.aload_n 0, 1) := by decide +kernel
theorem d_H_conditionOf_8 : decode b_H_conditionOf 8 = .ok (.getfield 15, 3) := by decide +kernel
theorem d_H_conditionOf_11 : decode b_H_conditionOf 11 = .ok (.iload_n 1, 1) := by decide +kernel
theorem d_H_conditionOf_12 : decode b_H_conditionOf 12 = .ok (.iaload, 1) := by decide +kernel
theorem d_H_conditionOf_13 : decode b_H_conditionOf 13 = .ok (.goto 4, 3) := by decide +kernel
theorem d_H_conditionOf_16 : decode b_H_conditionOf 16 = .ok (.iconst (-1), 1) := by decide +kernel
theorem d_H_conditionOf_17 : decode b_H_conditionOf 17 = .ok (.ireturn, 1) := by decide +kernel
theorem d_H_restrictionOf_0 : decode b_H_restrictionOf 0 = .ok (.iload_n 1, 1) := by decide +kernel
theorem d_H_restrictionOf_1 : decode b_H_restrictionOf 1 = .ok (.invokestatic 30, 3) := by decide +kernel
theorem d_H_restrictionOf_4 : decode b_H_restrictionOf 4 = .ok (.ifCond .eq 12, 3) := by decide +kernel
theorem d_H_restrictionOf_7 : decode b_H_restrictionOf 7 = .ok (.aload_n 0, 1) := by decide +kernel
theorem d_H_restrictionOf_8 : decode b_H_restrictionOf 8 = .ok (.getfield 18, 3) := by decide +kernel
theorem d_H_restrictionOf_11 : decode b_H_restrictionOf 11 = .ok (.iload_n 1, 1) := by decide +kernel
theorem d_H_restrictionOf_12 : decode b_H_restrictionOf 12 = .ok (.iaload, 1) := by decide +kernel
theorem d_H_restrictionOf_13 : decode b_H_restrictionOf 13 = .ok (.goto 4, 3) := by decide +kernel
theorem d_H_restrictionOf_16 : decode b_H_restrictionOf 16 = .ok (.iconst (-1), 1) := by decide +kernel
theorem d_H_restrictionOf_17 : decode b_H_restrictionOf 17 = .ok (.ireturn, 1) := by decide +kernel
theorem d_H_requestOf_0 : decode b_H_requestOf 0 = .ok (.iload_n 1, 1) := by decide +kernel
theorem d_H_requestOf_1 : decode b_H_requestOf 1 = .ok (.invokestatic 30, 3) := by decide +kernel
theorem d_H_requestOf_4 : decode b_H_requestOf 4 = .ok (.ifCond .eq 12, 3) := by decide +kernel
theorem d_H_requestOf_7 : decode b_H_requestOf 7 = .ok (.aload_n 0, 1) := by decide +kernel
theorem d_H_requestOf_8 : decode b_H_requestOf 8 = .ok (.getfield 21, 3) := by decide +kernel
theorem d_H_requestOf_11 : decode b_H_requestOf 11 = .ok (.iload_n 1, 1) := by decide +kernel
theorem d_H_requestOf_12 : decode b_H_requestOf 12 = .ok (.iaload, 1) := by decide +kernel
theorem d_H_requestOf_13 : decode b_H_requestOf 13 = .ok (.goto 4, 3) := by decide +kernel
theorem d_H_requestOf_16 : decode b_H_requestOf 16 = .ok (.iconst (-1), 1) := by decide +kernel
theorem d_H_requestOf_17 : decode b_H_requestOf 17 = .ok (.ireturn, 1) := by decide +kernel
theorem d_H_put_0 : decode b_H_put 0 = .ok (.iload_n 1, 1) := by decide +kernel
theorem d_H_put_1 : decode b_H_put 1 = .ok (.invokestatic 30, 3) := by decide +kernel
theorem d_H_put_4 : decode b_H_put 4 = .ok (.ifCond .eq 17, 3) := by decide +kernel
theorem d_H_put_7 : decode b_H_put 7 = .ok (.aload_n 0, 1) := by decide +kernel
theorem d_H_put_8 : decode b_H_put 8 = .ok (.getfield 9, 3) := by decide +kernel
theorem d_H_put_11 : decode b_H_put 11 = .ok (.iload_n 1, 1) := by decide +kernel
theorem d_H_put_12 : decode b_H_put 12 = .ok (.iload_n 2, 1) := by decide +kernel
theorem d_H_put_13 : decode b_H_put 13 = .ok (.iastore, 1) := by decide +kernel
theorem d_H_put_14 : decode b_H_put 14 = .ok (.aload_n 0, 1) := by decide +kernel
theorem d_H_put_15 : decode b_H_put 15 = .ok (.getfield 21, 3) := by decide +kernel
theorem d_H_put_18 : decode b_H_put 18 = .ok (.iload_n 1, 1) := by decide +kernel
theorem d_H_put_19 : decode b_H_put 19 = .ok (.iload_n 3, 1) := by decide +kernel
theorem d_H_put_20 : decode b_H_put 20 = .ok (.iastore, 1) := by decide +kernel
theorem d_H_put_21 : decode b_H_put 21 = .ok (.return_, 1) := by decide +kernel
theorem d_H_setCondition_0 : decode b_H_setCondition 0 = .ok (.iload_n 1, 1) := by decide +kernel
theorem d_H_setCondition_1 : decode b_H_setCondition 1 = .ok (.invokestatic 30, 3) := by decide +kernel
theorem d_H_setCondition_4 : decode b_H_setCondition 4 = .ok (.ifCond .eq 10, 3) := by decide +kernel
theorem d_H_setCondition_7 : decode b_H_setCondition 7 = .ok (.aload_n 0, 1) := by decide +kernel
theorem d_H_setCondition_8 : decode b_H_setCondition 8 = .ok (.getfield 15, 3) := by decide +kernel
theorem d_H_setCondition_11 : decode b_H_setCondition 11 = .ok (.iload_n 1, 1) := by decide +kernel
theorem d_H_setCondition_12 : decode b_H_setCondition 12 = .ok (.iload_n 2, 1) := by decide +kernel
theorem d_H_setCondition_13 : decode b_H_setCondition 13 = .ok (.iastore, 1) := by decide +kernel
theorem d_H_setCondition_14 : decode b_H_setCondition 14 = .ok (.return_, 1) := by decide +kernel
theorem d_H_setRestriction_0 : decode b_H_setRestriction 0 = .ok (.iload_n 1, 1) := by decide +kernel
theorem d_H_setRestriction_1 : decode b_H_setRestriction 1 = .ok (.invokestatic 30, 3) := by decide +kernel
theorem d_H_setRestriction_4 : decode b_H_setRestriction 4 = .ok (.ifCond .eq 10, 3) := by decide +kernel
theorem d_H_setRestriction_7 : decode b_H_setRestriction 7 = .ok (.aload_n 0, 1) := by decide +kernel
theorem d_H_setRestriction_8 : decode b_H_setRestriction 8 = .ok (.getfield 18, 3) := by decide +kernel
theorem d_H_setRestriction_11 : decode b_H_setRestriction 11 = .ok (.iload_n 1, 1) := by decide +kernel
theorem d_H_setRestriction_12 : decode b_H_setRestriction 12 = .ok (.iload_n 2, 1) := by decide +kernel
theorem d_H_setRestriction_13 : decode b_H_setRestriction 13 = .ok (.iastore, 1) := by decide +kernel
theorem d_H_setRestriction_14 : decode b_H_setRestriction 14 = .ok (.return_, 1) := by decide +kernel
theorem d_H_storeAll_0 : decode b_H_storeAll 0 = .ok (.iconst 0, 1) := by decide +kernel
theorem d_H_storeAll_1 : decode b_H_storeAll 1 = .ok (.istore_n 1, 1) := by decide +kernel
theorem d_H_storeAll_2 : decode b_H_storeAll 2 = .ok (.iconst 0, 1) := by decide +kernel
theorem d_H_storeAll_3 : decode b_H_storeAll 3 = .ok (.istore_n 2, 1) := by decide +kernel
theorem d_H_storeAll_4 : decode b_H_storeAll 4 = .ok (.iload_n 2, 1) := by decide +kernel
theorem d_H_storeAll_5 : decode b_H_storeAll 5 = .ok (.bipush 80, 2) := by decide +kernel
theorem d_H_storeAll_7 : decode b_H_storeAll 7 = .ok (.if_icmp .ge 28, 3) := by decide +kernel
theorem d_H_storeAll_10 : decode b_H_storeAll 10 = .ok (.aload_n 0, 1) := by decide +kernel
theorem d_H_storeAll_11 : decode b_H_storeAll 11 = .ok (.getfield 9, 3) := by decide +kernel
theorem d_H_storeAll_14 : decode b_H_storeAll 14 = .ok (.iload_n 2, 1) := by decide +kernel
theorem d_H_storeAll_15 : decode b_H_storeAll 15 = .ok (.iaload, 1) := by decide +kernel
theorem d_H_storeAll_16 : decode b_H_storeAll 16 = .ok (.ifCond .eq 13, 3) := by decide +kernel
theorem d_H_storeAll_19 : decode b_H_storeAll 19 = .ok (.aload_n 0, 1) := by decide +kernel
theorem d_H_storeAll_20 : decode b_H_storeAll 20 = .ok (.iload_n 2, 1) := by decide +kernel
theorem d_H_storeAll_21 : decode b_H_storeAll 21 = .ok (.iconst 0, 1) := by decide +kernel
theorem d_H_storeAll_22 : decode b_H_storeAll 22 = .ok (.iconst (-1), 1) := by decide +kernel
theorem d_H_storeAll_23 : decode b_H_storeAll 23 = .ok (.invokevirtual 34, 3) := by decide +kernel
theorem d_H_storeAll_26 : decode b_H_storeAll 26 = .ok (.iinc 1 1, 3) := by decide +kernel
theorem d_H_storeAll_29 : decode b_H_storeAll 29 = .ok (.iinc 2 1, 3) := by decide +kernel
theorem d_H_storeAll_32 : decode b_H_storeAll 32 = .ok (.goto (-28), 3) := by decide +kernel
theorem d_H_storeAll_35 : decode b_H_storeAll 35 = .ok (.iload_n 1, 1) := by decide +kernel
theorem d_H_storeAll_36 : decode b_H_storeAll 36 = .ok (.ireturn, 1) := by decide +kernel
theorem d_R_init_0 : decode b_R_init 0 = .ok (.aload_n 0, 1) := by decide +kernel
theorem d_R_init_1 : decode b_R_init 1 = .ok (.invokespecial 3, 3) := by decide +kernel
theorem d_R_init_4 : decode b_R_init 4 = .ok (.aload_n 0, 1) := by decide +kernel
theorem d_R_init_5 : decode b_R_init 5 = .ok (.bipush 60, 2) := by decide +kernel
theorem d_R_init_7 : decode b_R_init 7 = .ok (.newarray .int, 2) := by decide +kernel
theorem d_R_init_9 : decode b_R_init 9 = .ok (.putfield 9, 3) := by decide +kernel
theorem d_R_init_12 : decode b_R_init 12 = .ok (.aload_n 0, 1) := by decide +kernel
theorem d_R_init_13 : decode b_R_init 13 = .ok (.bipush 60, 2) := by decide +kernel
theorem d_R_init_15 : decode b_R_init 15 = .ok (.newarray .int, 2) := by decide +kernel
theorem d_R_init_17 : decode b_R_init 17 = .ok (.putfield 15, 3) := by decide +kernel
theorem d_R_init_20 : decode b_R_init 20 = .ok (.aload_n 0, 1) := by decide +kernel
theorem d_R_init_21 : decode b_R_init 21 = .ok (.bipush 60, 2) := by decide +kernel
theorem d_R_init_23 : decode b_R_init 23 = .ok (.newarray .int, 2) := by decide +kernel
theorem d_R_init_25 : decode b_R_init 25 = .ok (.putfield 18, 3) := by decide +kernel
theorem d_R_init_28 : decode b_R_init 28 = .ok (.aload_n 0, 1) := by decide +kernel
theorem d_R_init_29 : decode b_R_init 29 = .ok (.bipush 60, 2) := by decide +kernel
theorem d_R_init_31 : decode b_R_init 31 = .ok (.newarray .int, 2) := by decide +kernel
theorem d_R_init_33 : decode b_R_init 33 = .ok (.putfield 21, 3) := by decide +kernel
theorem d_R_init_36 : decode b_R_init 36 = .ok (.aload_n 0, 1) := by decide +kernel
theorem d_R_init_37 : decode b_R_init 37 = .ok (.bipush 60, 2) := by decide +kernel
theorem d_R_init_39 : decode b_R_init 39 = .ok (.newarray .int, 2) := by decide +kernel
theorem d_R_init_41 : decode b_R_init 41 = .ok (.putfield 24, 3) := by decide +kernel
theorem d_R_init_44 : decode b_R_init 44 = .ok (.aload_n 0, 1) := by decide +kernel
theorem d_R_init_45 : decode b_R_init 45 = .ok (.getfield 15, 3) := by decide +kernel
theorem d_R_init_48 : decode b_R_init 48 = .ok (.iconst 3, 1) := by decide +kernel
theorem d_R_init_49 : decode b_R_init 49 = .ok (.invokestatic 27, 3) := by decide +kernel
theorem d_R_init_52 : decode b_R_init 52 = .ok (.aload_n 0, 1) := by decide +kernel
theorem d_R_init_53 : decode b_R_init 53 = .ok (.getfield 18, 3) := by decide +kernel
theorem d_R_init_56 : decode b_R_init 56 = .ok (.bipush 20, 2) := by decide +kernel
theorem d_R_init_58 : decode b_R_init 58 = .ok (.invokestatic 27, 3) := by decide +kernel
theorem d_R_init_61 : decode b_R_init 61 = .ok (.return_, 1) := by decide +kernel
theorem d_R_rightOf_0 : decode b_R_rightOf 0 = .ok (.iload_n 1, 1) := by decide +kernel
theorem d_R_rightOf_1 : decode b_R_rightOf 1 = .ok (.invokestatic 33, 3) := by decide +kernel
theorem d_R_rightOf_4 : decode b_R_rightOf 4 = .ok (.ifCond .eq 12, 3) := by decide +kernel
theorem d_R_rightOf_7 : decode b_R_rightOf 7 = .ok (.aload_n 0, 1) := by decide +kernel
theorem d_R_rightOf_8 : decode b_R_rightOf 8 = .ok (.getfield 9, 3) := by decide +kernel
theorem d_R_rightOf_11 : decode b_R_rightOf 11 = .ok (.iload_n 1, 1) := by decide +kernel
theorem d_R_rightOf_12 : decode b_R_rightOf 12 = .ok (.iaload, 1) := by decide +kernel
theorem d_R_rightOf_13 : decode b_R_rightOf 13 = .ok (.goto 4, 3) := by decide +kernel
theorem d_R_rightOf_16 : decode b_R_rightOf 16 = .ok (.iconst 0, 1) := by decide +kernel
theorem d_R_rightOf_17 : decode b_R_rightOf 17 = .ok (.ireturn, 1) := by decide +kernel
theorem d_R_requestLimitOf_0 : decode b_R_requestLimitOf 0 = .ok (.iload_n 1, 1) := by decide +kernel
theorem d_R_requestLimitOf_1 : decode b_R_requestLimitOf 1 = .ok (.invokestatic 33, 3) := by decide +kernel
theorem d_R_requestLimitOf_4 : decode b_R_requestLimitOf 4 = .ok (.ifCond .eq 12, 3) := by decide +kernel
theorem d_R_requestLimitOf_7 : decode b_R_requestLimitOf 7 = .ok (.aload_n 0, 1) := by decide +kernel
theorem d_R_requestLimitOf_8 : decode b_R_requestLimitOf 8 = .ok (.getfield 15, 3) := by decide +kernel
theorem d_R_requestLimitOf_11 : decode b_R_requestLimitOf 11 = .ok (.iload_n 1, 1) := by decide +kernel
theorem d_R_requestLimitOf_12 : decode b_R_requestLimitOf 12 = .ok (.iaload, 1) := by decide +kernel
theorem d_R_requestLimitOf_13 : decode b_R_requestLimitOf 13 = .ok (.goto 4, 3) := by decide +kernel
theorem d_R_requestLimitOf_16 : decode b_R_requestLimitOf 16 = .ok (.iconst 0, 1) := by decide +kernel
theorem d_R_requestLimitOf_17 : decode b_R_requestLimitOf 17 = .ok (.ireturn, 1) := by decide +kernel
theorem d_R_copiedLatelyBy_0 : decode b_R_copiedLatelyBy 0 = .ok (.iload_n 1, 1) := by decide +kernel
theorem d_R_copiedLatelyBy_1 : decode b_R_copiedLatelyBy 1 = .ok (.invokestatic 33, 3) := by decide +kernel
theorem d_R_copiedLatelyBy_4 : decode b_R_copiedLatelyBy 4 = .ok (.ifCond .eq 12, 3) := by decide +kernel
theorem d_R_copiedLatelyBy_7 : decode b_R_copiedLatelyBy 7 = .ok (.aload_n 0, 1) := by decide +kernel
theorem d_R_copiedLatelyBy_8 : decode b_R_copiedLatelyBy 8 = .ok (.getfield 24, 3) := by decide +kernel
theorem d_R_copiedLatelyBy_11 : decode b_R_copiedLatelyBy 11 = .ok (.iload_n 1, 1) := by decide +kernel
theorem d_R_copiedLatelyBy_12 : decode b_R_copiedLatelyBy 12 = .ok (.iaload, 1) := by decide +kernel
theorem d_R_copiedLatelyBy_13 : decode b_R_copiedLatelyBy 13 = .ok (.goto 4, 3) := by decide +kernel
theorem d_R_copiedLatelyBy_16 : decode b_R_copiedLatelyBy 16 = .ok (.iconst 0, 1) := by decide +kernel
theorem d_R_copiedLatelyBy_17 : decode b_R_copiedLatelyBy 17 = .ok (.ireturn, 1) := by decide +kernel
theorem d_R_pagesLeft_0 : decode b_R_pagesLeft 0 = .ok (.iload_n 1, 1) := by decide +kernel
theorem d_R_pagesLeft_1 : decode b_R_pagesLeft 1 = .ok (.invokestatic 33, 3) := by decide +kernel
theorem d_R_pagesLeft_4 : decode b_R_pagesLeft 4 = .ok (.ifCond .eq 19, 3) := by decide +kernel
theorem d_R_pagesLeft_7 : decode b_R_pagesLeft 7 = .ok (.aload_n 0, 1) := by decide +kernel
theorem d_R_pagesLeft_8 : decode b_R_pagesLeft 8 = .ok (.getfield 18, 3) := by decide +kernel
theorem d_R_pagesLeft_11 : decode b_R_pagesLeft 11 = .ok (.iload_n 1, 1) := by decide +kernel
theorem d_R_pagesLeft_12 : decode b_R_pagesLeft 12 = .ok (.iaload, 1) := by decide +kernel
theorem d_R_pagesLeft_13 : decode b_R_pagesLeft 13 = .ok (.aload_n 0, 1) := by decide +kernel
theorem d_R_pagesLeft_14 : decode b_R_pagesLeft 14 = .ok (.iload_n 1, 1) := by decide +kernel
theorem d_R_pagesLeft_15 : decode b_R_pagesLeft 15 = .ok (.iload_n 2, 1) := by decide +kernel
theorem d_R_pagesLeft_16 : decode b_R_pagesLeft 16 = .ok (.invokevirtual 37, 3) := by decide +kernel
theorem d_R_pagesLeft_19 : decode b_R_pagesLeft 19 = .ok (.isub, 1) := by decide +kernel
theorem d_R_pagesLeft_20 : decode b_R_pagesLeft 20 = .ok (.goto 4, 3) := by decide +kernel
theorem d_R_pagesLeft_23 : decode b_R_pagesLeft 23 = .ok (.iconst 0, 1) := by decide +kernel
theorem d_R_pagesLeft_24 : decode b_R_pagesLeft 24 = .ok (.ireturn, 1) := by decide +kernel
theorem d_R_setRight_0 : decode b_R_setRight 0 = .ok (.iload_n 1, 1) := by decide +kernel
theorem d_R_setRight_1 : decode b_R_setRight 1 = .ok (.invokestatic 33, 3) := by decide +kernel
theorem d_R_setRight_4 : decode b_R_setRight 4 = .ok (.ifCond .eq 10, 3) := by decide +kernel
theorem d_R_setRight_7 : decode b_R_setRight 7 = .ok (.aload_n 0, 1) := by decide +kernel
theorem d_R_setRight_8 : decode b_R_setRight 8 = .ok (.getfield 9, 3) := by decide +kernel
theorem d_R_setRight_11 : decode b_R_setRight 11 = .ok (.iload_n 1, 1) := by decide +kernel
theorem d_R_setRight_12 : decode b_R_setRight 12 = .ok (.iload_n 2, 1) := by decide +kernel
theorem d_R_setRight_13 : decode b_R_setRight 13 = .ok (.iastore, 1) := by decide +kernel
theorem d_R_setRight_14 : decode b_R_setRight 14 = .ok (.return_, 1) := by decide +kernel
theorem d_R_setLimits_0 : decode b_R_setLimits 0 = .ok (.iload_n 1, 1) := by decide +kernel
theorem d_R_setLimits_1 : decode b_R_setLimits 1 = .ok (.invokestatic 33, 3) := by decide +kernel
theorem d_R_setLimits_4 : decode b_R_setLimits 4 = .ok (.ifCond .eq 17, 3) := by decide +kernel
theorem d_R_setLimits_7 : decode b_R_setLimits 7 = .ok (.aload_n 0, 1) := by decide +kernel
theorem d_R_setLimits_8 : decode b_R_setLimits 8 = .ok (.getfield 15, 3) := by decide +kernel
theorem d_R_setLimits_11 : decode b_R_setLimits 11 = .ok (.iload_n 1, 1) := by decide +kernel
theorem d_R_setLimits_12 : decode b_R_setLimits 12 = .ok (.iload_n 2, 1) := by decide +kernel
theorem d_R_setLimits_13 : decode b_R_setLimits 13 = .ok (.iastore, 1) := by decide +kernel
theorem d_R_setLimits_14 : decode b_R_setLimits 14 = .ok (.aload_n 0, 1) := by decide +kernel
theorem d_R_setLimits_15 : decode b_R_setLimits 15 = .ok (.getfield 18, 3) := by decide +kernel
theorem d_R_setLimits_18 : decode b_R_setLimits 18 = .ok (.iload_n 1, 1) := by decide +kernel
theorem d_R_setLimits_19 : decode b_R_setLimits 19 = .ok (.iload_n 3, 1) := by decide +kernel
theorem d_R_setLimits_20 : decode b_R_setLimits 20 = .ok (.iastore, 1) := by decide +kernel
theorem d_R_setLimits_21 : decode b_R_setLimits 21 = .ok (.return_, 1) := by decide +kernel
theorem d_R_addCopied_0 : decode b_R_addCopied 0 = .ok (.iload_n 1, 1) := by decide +kernel
theorem d_R_addCopied_1 : decode b_R_addCopied 1 = .ok (.invokestatic 33, 3) := by decide +kernel
theorem d_R_addCopied_4 : decode b_R_addCopied 4 = .ok (.ifCond .eq 24, 3) := by decide +kernel
theorem d_R_addCopied_7 : decode b_R_addCopied 7 = .ok (.aload_n 0, 1) := by decide +kernel
theorem d_R_addCopied_8 : decode b_R_addCopied 8 = .ok (.getfield 24, 3) := by decide +kernel
theorem d_R_addCopied_11 : decode b_R_addCopied 11 = .ok (.iload_n 1, 1) := by decide +kernel
theorem d_R_addCopied_12 : decode b_R_addCopied 12 = .ok (.aload_n 0, 1) := by decide +kernel
theorem d_R_addCopied_13 : decode b_R_addCopied 13 = .ok (.iload_n 1, 1) := by decide +kernel
theorem d_R_addCopied_14 : decode b_R_addCopied 14 = .ok (.iload_n 2, 1) := by decide +kernel
theorem d_R_addCopied_15 : decode b_R_addCopied 15 = .ok (.invokevirtual 37, 3) := by decide +kernel
theorem d_R_addCopied_18 : decode b_R_addCopied 18 = .ok (.iload_n 3, 1) := by decide +kernel
theorem d_R_addCopied_19 : decode b_R_addCopied 19 = .ok (.iadd, 1) := by decide +kernel
theorem d_R_addCopied_20 : decode b_R_addCopied 20 = .ok (.iastore, 1) := by decide +kernel
theorem d_R_addCopied_21 : decode b_R_addCopied 21 = .ok (.aload_n 0, 1) := by decide +kernel
theorem d_R_addCopied_22 : decode b_R_addCopied 22 = .ok (.getfield 21, 3) := by decide +kernel
theorem d_R_addCopied_25 : decode b_R_addCopied 25 = .ok (.iload_n 1, 1) := by decide +kernel
theorem d_R_addCopied_26 : decode b_R_addCopied 26 = .ok (.iload_n 2, 1) := by decide +kernel
theorem d_R_addCopied_27 : decode b_R_addCopied 27 = .ok (.iastore, 1) := by decide +kernel
theorem d_R_addCopied_28 : decode b_R_addCopied 28 = .ok (.return_, 1) := by decide +kernel
theorem d_R_copiedOn_0 : decode b_R_copiedOn 0 = .ok (.iload_n 1, 1) := by decide +kernel
theorem d_R_copiedOn_1 : decode b_R_copiedOn 1 = .ok (.invokestatic 33, 3) := by decide +kernel
theorem d_R_copiedOn_4 : decode b_R_copiedOn 4 = .ok (.ifCond .eq 22, 3) := by decide +kernel
theorem d_R_copiedOn_7 : decode b_R_copiedOn 7 = .ok (.aload_n 0, 1) := by decide +kernel
theorem d_R_copiedOn_8 : decode b_R_copiedOn 8 = .ok (.getfield 21, 3) := by decide +kernel
theorem d_R_copiedOn_11 : decode b_R_copiedOn 11 = .ok (.iload_n 1, 1) := by decide +kernel
theorem d_R_copiedOn_12 : decode b_R_copiedOn 12 = .ok (.iaload, 1) := by decide +kernel
theorem d_R_copiedOn_13 : decode b_R_copiedOn 13 = .ok (.iload_n 2, 1) := by decide +kernel
theorem d_R_copiedOn_14 : decode b_R_copiedOn 14 = .ok (.if_icmp .ne 12, 3) := by decide +kernel
theorem d_R_copiedOn_17 : decode b_R_copiedOn 17 = .ok (.aload_n 0, 1) := by decide +kernel
theorem d_R_copiedOn_18 : decode b_R_copiedOn 18 = .ok (.getfield 24, 3) := by decide +kernel
theorem d_R_copiedOn_21 : decode b_R_copiedOn 21 = .ok (.iload_n 1, 1) := by decide +kernel
theorem d_R_copiedOn_22 : decode b_R_copiedOn 22 = .ok (.iaload, 1) := by decide +kernel
theorem d_R_copiedOn_23 : decode b_R_copiedOn 23 = .ok (.goto 4, 3) := by decide +kernel
theorem d_R_copiedOn_26 : decode b_R_copiedOn 26 = .ok (.iconst 0, 1) := by decide +kernel
theorem d_R_copiedOn_27 : decode b_R_copiedOn 27 = .ok (.ireturn, 1) := by decide +kernel
theorem d_Q_init_0 : decode b_Q_init 0 = .ok (.aload_n 0, 1) := by decide +kernel
theorem d_Q_init_1 : decode b_Q_init 1 = .ok (.invokespecial 3, 3) := by decide +kernel
theorem d_Q_init_4 : decode b_Q_init 4 = .ok (.aload_n 0, 1) := by decide +kernel
theorem d_Q_init_5 : decode b_Q_init 5 = .ok (.sipush 300, 3) := by decide +kernel
theorem d_Q_init_8 : decode b_Q_init 8 = .ok (.newarray .int, 2) := by decide +kernel
theorem d_Q_init_10 : decode b_Q_init 10 = .ok (.putfield 9, 3) := by decide +kernel
theorem d_Q_init_13 : decode b_Q_init 13 = .ok (.aload_n 0, 1) := by decide +kernel
theorem d_Q_init_14 : decode b_Q_init 14 = .ok (.sipush 300, 3) := by decide +kernel
theorem d_Q_init_17 : decode b_Q_init 17 = .ok (.newarray .int, 2) := by decide +kernel
theorem d_Q_init_19 : decode b_Q_init 19 = .ok (.putfield 15, 3) := by decide +kernel
theorem d_Q_init_22 : decode b_Q_init 22 = .ok (.aload_n 0, 1) := by decide +kernel
theorem d_Q_init_23 : decode b_Q_init 23 = .ok (.sipush 300, 3) := by decide +kernel
theorem d_Q_init_26 : decode b_Q_init 26 = .ok (.newarray .int, 2) := by decide +kernel
theorem d_Q_init_28 : decode b_Q_init 28 = .ok (.putfield 18, 3) := by decide +kernel
theorem d_Q_init_31 : decode b_Q_init 31 = .ok (.aload_n 0, 1) := by decide +kernel
theorem d_Q_init_32 : decode b_Q_init 32 = .ok (.sipush 300, 3) := by decide +kernel
theorem d_Q_init_35 : decode b_Q_init 35 = .ok (.newarray .int, 2) := by decide +kernel
theorem d_Q_init_37 : decode b_Q_init 37 = .ok (.putfield 21, 3) := by decide +kernel
theorem d_Q_init_40 : decode b_Q_init 40 = .ok (.aload_n 0, 1) := by decide +kernel
theorem d_Q_init_41 : decode b_Q_init 41 = .ok (.sipush 300, 3) := by decide +kernel
theorem d_Q_init_44 : decode b_Q_init 44 = .ok (.newarray .int, 2) := by decide +kernel
theorem d_Q_init_46 : decode b_Q_init 46 = .ok (.putfield 24, 3) := by decide +kernel
theorem d_Q_init_49 : decode b_Q_init 49 = .ok (.aload_n 0, 1) := by decide +kernel
theorem d_Q_init_50 : decode b_Q_init 50 = .ok (.sipush 300, 3) := by decide +kernel
theorem d_Q_init_53 : decode b_Q_init 53 = .ok (.newarray .int, 2) := by decide +kernel
theorem d_Q_init_55 : decode b_Q_init 55 = .ok (.putfield 27, 3) := by decide +kernel
theorem d_Q_init_58 : decode b_Q_init 58 = .ok (.return_, 1) := by decide +kernel
theorem d_Q_has_0 : decode b_Q_has 0 = .ok (.iload_n 1, 1) := by decide +kernel
theorem d_Q_has_1 : decode b_Q_has 1 = .ok (.iconst 0, 1) := by decide +kernel
theorem d_Q_has_2 : decode b_Q_has 2 = .ok (.aload_n 0, 1) := by decide +kernel
theorem d_Q_has_3 : decode b_Q_has 3 = .ok (.getfield 30, 3) := by decide +kernel
theorem d_Q_has_6 : decode b_Q_has 6 = .ok (.iconst 1, 1) := by decide +kernel
theorem d_Q_has_7 : decode b_Q_has 7 = .ok (.isub, 1) := by decide +kernel
theorem d_Q_has_8 : decode b_Q_has 8 = .ok (.invokestatic 34, 3) := by decide +kernel
theorem d_Q_has_11 : decode b_Q_has 11 = .ok (.ireturn, 1) := by decide +kernel
theorem d_Q_isFull_0 : decode b_Q_isFull 0 = .ok (.aload_n 0, 1) := by decide +kernel
theorem d_Q_isFull_1 : decode b_Q_isFull 1 = .ok (.getfield 30, 3) := by decide +kernel
theorem d_Q_isFull_4 : decode b_Q_isFull 4 = .ok (.sipush 300, 3) := by decide +kernel
theorem d_Q_isFull_7 : decode b_Q_isFull 7 = .ok (.if_icmp .lt 7, 3) := by decide +kernel
theorem d_Q_isFull_10 : decode b_Q_isFull 10 = .ok (.iconst 1, 1) := by decide +kernel
theorem d_Q_isFull_11 : decode b_Q_isFull 11 = .ok (.goto 4, 3) := by decide +kernel
theorem d_Q_isFull_14 : decode b_Q_isFull 14 = .ok (.iconst 0, 1) := by decide +kernel
theorem d_Q_isFull_15 : decode b_Q_isFull 15 = .ok (.ireturn, 1) := by decide +kernel
theorem d_Q_personOf_0 : decode b_Q_personOf 0 = .ok (.aload_n 0, 1) := by decide +kernel
theorem d_Q_personOf_1 : decode b_Q_personOf 1 = .ok (.iload_n 1, 1) := by decide +kernel
theorem d_Q_personOf_2 : decode b_Q_personOf 2 = .ok (.invokevirtual 38, 3) := by decide +kernel
theorem d_Q_personOf_5 : decode b_Q_personOf 5 = .ok (.ifCond .eq 12, 3) := by decide +kernel
theorem d_Q_personOf_8 : decode b_Q_personOf 8 = .ok (.aload_n 0, 1) := by decide +kernel
theorem d_Q_personOf_9 : decode b_Q_personOf 9 = .ok (.getfield 9, 3) := by decide +kernel
theorem d_Q_personOf_12 : decode b_Q_personOf 12 = .ok (.iload_n 1, 1) := by decide +kernel
theorem d_Q_personOf_13 : decode b_Q_personOf 13 = .ok (.iaload, 1) := by decide +kernel
theorem d_Q_personOf_14 : decode b_Q_personOf 14 = .ok (.goto 4, 3) := by decide +kernel
theorem d_Q_personOf_17 : decode b_Q_personOf 17 = .ok (.iconst (-1), 1) := by decide +kernel
theorem d_Q_personOf_18 : decode b_Q_personOf 18 = .ok (.ireturn, 1) := by decide +kernel
theorem d_Q_unitOf_0 : decode b_Q_unitOf 0 = .ok (.aload_n 0, 1) := by decide +kernel
theorem d_Q_unitOf_1 : decode b_Q_unitOf 1 = .ok (.iload_n 1, 1) := by decide +kernel
theorem d_Q_unitOf_2 : decode b_Q_unitOf 2 = .ok (.invokevirtual 38, 3) := by decide +kernel
theorem d_Q_unitOf_5 : decode b_Q_unitOf 5 = .ok (.ifCond .eq 12, 3) := by decide +kernel
theorem d_Q_unitOf_8 : decode b_Q_unitOf 8 = .ok (.aload_n 0, 1) := by decide +kernel
theorem d_Q_unitOf_9 : decode b_Q_unitOf 9 = .ok (.getfield 15, 3) := by decide +kernel
theorem d_Q_unitOf_12 : decode b_Q_unitOf 12 = .ok (.iload_n 1, 1) := by decide +kernel
theorem d_Q_unitOf_13 : decode b_Q_unitOf 13 = .ok (.iaload, 1) := by decide +kernel
theorem d_Q_unitOf_14 : decode b_Q_unitOf 14 = .ok (.goto 4, 3) := by decide +kernel
theorem d_Q_unitOf_17 : decode b_Q_unitOf 17 = .ok (.iconst (-1), 1) := by decide +kernel
theorem d_Q_unitOf_18 : decode b_Q_unitOf 18 = .ok (.ireturn, 1) := by decide +kernel
theorem d_Q_stateOf_0 : decode b_Q_stateOf 0 = .ok (.aload_n 0, 1) := by decide +kernel
theorem d_Q_stateOf_1 : decode b_Q_stateOf 1 = .ok (.iload_n 1, 1) := by decide +kernel
theorem d_Q_stateOf_2 : decode b_Q_stateOf 2 = .ok (.invokevirtual 38, 3) := by decide +kernel
theorem d_Q_stateOf_5 : decode b_Q_stateOf 5 = .ok (.ifCond .eq 12, 3) := by decide +kernel
theorem d_Q_stateOf_8 : decode b_Q_stateOf 8 = .ok (.aload_n 0, 1) := by decide +kernel
theorem d_Q_stateOf_9 : decode b_Q_stateOf 9 = .ok (.getfield 18, 3) := by decide +kernel
theorem d_Q_stateOf_12 : decode b_Q_stateOf 12 = .ok (.iload_n 1, 1) := by decide +kernel
theorem d_Q_stateOf_13 : decode b_Q_stateOf 13 = .ok (.iaload, 1) := by decide +kernel
theorem d_Q_stateOf_14 : decode b_Q_stateOf 14 = .ok (.goto 4, 3) := by decide +kernel
theorem d_Q_stateOf_17 : decode b_Q_stateOf 17 = .ok (.iconst (-1), 1) := by decide +kernel
theorem d_Q_stateOf_18 : decode b_Q_stateOf 18 = .ok (.ireturn, 1) := by decide +kernel
theorem d_Q_askedAt_0 : decode b_Q_askedAt 0 = .ok (.aload_n 0, 1) := by decide +kernel
theorem d_Q_askedAt_1 : decode b_Q_askedAt 1 = .ok (.iload_n 1, 1) := by decide +kernel
theorem d_Q_askedAt_2 : decode b_Q_askedAt 2 = .ok (.invokevirtual 38, 3) := by decide +kernel
theorem d_Q_askedAt_5 : decode b_Q_askedAt 5 = .ok (.ifCond .eq 12, 3) := by decide +kernel
theorem d_Q_askedAt_8 : decode b_Q_askedAt 8 = .ok (.aload_n 0, 1) := by decide +kernel
theorem d_Q_askedAt_9 : decode b_Q_askedAt 9 = .ok (.getfield 21, 3) := by decide +kernel
theorem d_Q_askedAt_12 : decode b_Q_askedAt 12 = .ok (.iload_n 1, 1) := by decide +kernel
theorem d_Q_askedAt_13 : decode b_Q_askedAt 13 = .ok (.iaload, 1) := by decide +kernel
theorem d_Q_askedAt_14 : decode b_Q_askedAt 14 = .ok (.goto 4, 3) := by decide +kernel
theorem d_Q_askedAt_17 : decode b_Q_askedAt 17 = .ok (.iconst (-1), 1) := by decide +kernel
theorem d_Q_askedAt_18 : decode b_Q_askedAt 18 = .ok (.ireturn, 1) := by decide +kernel
theorem d_Q_handedOutAt_0 : decode b_Q_handedOutAt 0 = .ok (.aload_n 0, 1) := by decide +kernel
theorem d_Q_handedOutAt_1 : decode b_Q_handedOutAt 1 = .ok (.iload_n 1, 1) := by decide +kernel
theorem d_Q_handedOutAt_2 : decode b_Q_handedOutAt 2 = .ok (.invokevirtual 38, 3) := by decide +kernel
theorem d_Q_handedOutAt_5 : decode b_Q_handedOutAt 5 = .ok (.ifCond .eq 12, 3) := by decide +kernel
theorem d_Q_handedOutAt_8 : decode b_Q_handedOutAt 8 = .ok (.aload_n 0, 1) := by decide +kernel
theorem d_Q_handedOutAt_9 : decode b_Q_handedOutAt 9 = .ok (.getfield 24, 3) := by decide +kernel
theorem d_Q_handedOutAt_12 : decode b_Q_handedOutAt 12 = .ok (.iload_n 1, 1) := by decide +kernel
theorem d_Q_handedOutAt_13 : decode b_Q_handedOutAt 13 = .ok (.iaload, 1) := by decide +kernel
theorem d_Q_handedOutAt_14 : decode b_Q_handedOutAt 14 = .ok (.goto 4, 3) := by decide +kernel
theorem d_Q_handedOutAt_17 : decode b_Q_handedOutAt 17 = .ok (.iconst (-1), 1) := by decide +kernel
theorem d_Q_handedOutAt_18 : decode b_Q_handedOutAt 18 = .ok (.ireturn, 1) := by decide +kernel
theorem d_Q_backAt_0 : decode b_Q_backAt 0 = .ok (.aload_n 0, 1) := by decide +kernel
theorem d_Q_backAt_1 : decode b_Q_backAt 1 = .ok (.iload_n 1, 1) := by decide +kernel
theorem d_Q_backAt_2 : decode b_Q_backAt 2 = .ok (.invokevirtual 38, 3) := by decide +kernel
theorem d_Q_backAt_5 : decode b_Q_backAt 5 = .ok (.ifCond .eq 12, 3) := by decide +kernel
theorem d_Q_backAt_8 : decode b_Q_backAt 8 = .ok (.aload_n 0, 1) := by decide +kernel
theorem d_Q_backAt_9 : decode b_Q_backAt 9 = .ok (.getfield 27, 3) := by decide +kernel
theorem d_Q_backAt_12 : decode b_Q_backAt 12 = .ok (.iload_n 1, 1) := by decide +kernel
theorem d_Q_backAt_13 : decode b_Q_backAt 13 = .ok (.iaload, 1) := by decide +kernel
theorem d_Q_backAt_14 : decode b_Q_backAt 14 = .ok (.goto 4, 3) := by decide +kernel
theorem d_Q_backAt_17 : decode b_Q_backAt 17 = .ok (.iconst (-1), 1) := by decide +kernel
theorem d_Q_backAt_18 : decode b_Q_backAt 18 = .ok (.ireturn, 1) := by decide +kernel
theorem d_Q_isOpenFor_0 : decode b_Q_isOpenFor 0 = .ok (.aload_n 0, 1) := by decide +kernel
theorem d_Q_isOpenFor_1 : decode b_Q_isOpenFor 1 = .ok (.iload_n 1, 1) := by decide +kernel
theorem d_Q_isOpenFor_2 : decode b_Q_isOpenFor 2 = .ok (.invokevirtual 38, 3) := by decide +kernel
theorem d_Q_isOpenFor_5 : decode b_Q_isOpenFor 5 = .ok (.ifCond .eq 26, 3) := by decide +kernel
theorem d_Q_isOpenFor_8 : decode b_Q_isOpenFor 8 = .ok (.aload_n 0, 1) := by decide +kernel
theorem d_Q_isOpenFor_9 : decode b_Q_isOpenFor 9 = .ok (.getfield 15, 3) := by decide +kernel
theorem d_Q_isOpenFor_12 : decode b_Q_isOpenFor 12 = .ok (.iload_n 1, 1) := by decide +kernel
theorem d_Q_isOpenFor_13 : decode b_Q_isOpenFor 13 = .ok (.iaload, 1) := by decide +kernel
theorem d_Q_isOpenFor_14 : decode b_Q_isOpenFor 14 = .ok (.iload_n 2, 1) := by decide +kernel
theorem d_Q_isOpenFor_15 : decode b_Q_isOpenFor 15 = .ok (.if_icmp .ne 16, 3) := by decide +kernel
theorem d_Q_isOpenFor_18 : decode b_Q_isOpenFor 18 = .ok (.aload_n 0, 1) := by decide +kernel
theorem d_Q_isOpenFor_19 : decode b_Q_isOpenFor 19 = .ok (.getfield 18, 3) := by decide +kernel
theorem d_Q_isOpenFor_22 : decode b_Q_isOpenFor 22 = .ok (.iload_n 1, 1) := by decide +kernel
theorem d_Q_isOpenFor_23 : decode b_Q_isOpenFor 23 = .ok (.iaload, 1) := by decide +kernel
theorem d_Q_isOpenFor_24 : decode b_Q_isOpenFor 24 = .ok (.ifCond .ne 7, 3) := by decide +kernel
theorem d_Q_isOpenFor_27 : decode b_Q_isOpenFor 27 = .ok (.iconst 1, 1) := by decide +kernel
theorem d_Q_isOpenFor_28 : decode b_Q_isOpenFor 28 = .ok (.goto 4, 3) := by decide +kernel
theorem d_Q_isOpenFor_31 : decode b_Q_isOpenFor 31 = .ok (.iconst 0, 1) := by decide +kernel
theorem d_Q_isOpenFor_32 : decode b_Q_isOpenFor 32 = .ok (.ireturn, 1) := by decide +kernel
theorem d_Q_isRunning_0 : decode b_Q_isRunning 0 = .ok (.iconst 0, 1) := by decide +kernel
theorem d_Q_isRunning_1 : decode b_Q_isRunning 1 = .ok (.istore_n 3, 1) := by decide +kernel
theorem d_Q_isRunning_2 : decode b_Q_isRunning 2 = .ok (.iload_n 3, 1) := by decide +kernel
theorem d_Q_isRunning_3 : decode b_Q_isRunning 3 = .ok (.aload_n 0, 1) := by decide +kernel
theorem d_Q_isRunning_4 : decode b_Q_isRunning 4 = .ok (.getfield 30, 3) := by decide +kernel
theorem d_Q_isRunning_7 : decode b_Q_isRunning 7 = .ok (.if_icmp .ge 30, 3) := by decide +kernel
theorem d_Q_isRunning_10 : decode b_Q_isRunning 10 = .ok (.aload_n 0, 1) := by decide +kernel
theorem d_Q_isRunning_11 : decode b_Q_isRunning 11 = .ok (.iload_n 3, 1) := by decide +kernel
theorem d_Q_isRunning_12 : decode b_Q_isRunning 12 = .ok (.iload_n 1, 1) := by decide +kernel
theorem d_Q_isRunning_13 : decode b_Q_isRunning 13 = .ok (.invokevirtual 42, 3) := by decide +kernel
theorem d_Q_isRunning_16 : decode b_Q_isRunning 16 = .ok (.ifCond .eq 15, 3) := by decide +kernel
theorem d_Q_isRunning_19 : decode b_Q_isRunning 19 = .ok (.aload_n 0, 1) := by decide +kernel
theorem d_Q_isRunning_20 : decode b_Q_isRunning 20 = .ok (.getfield 15, 3) := by decide +kernel
theorem d_Q_isRunning_23 : decode b_Q_isRunning 23 = .ok (.iload_n 3, 1) := by decide +kernel
theorem d_Q_isRunning_24 : decode b_Q_isRunning 24 = .ok (.iaload, 1) := by decide +kernel
theorem d_Q_isRunning_25 : decode b_Q_isRunning 25 = .ok (.iload_n 2, 1) := by decide +kernel
theorem d_Q_isRunning_26 : decode b_Q_isRunning 26 = .ok (.if_icmp .ne 5, 3) := by decide +kernel
theorem d_Q_isRunning_29 : decode b_Q_isRunning 29 = .ok (.iconst 1, 1) := by decide +kernel
theorem d_Q_isRunning_30 : decode b_Q_isRunning 30 = .ok (.ireturn, 1) := by decide +kernel
theorem d_Q_isRunning_31 : decode b_Q_isRunning 31 = .ok (.iinc 3 1, 3) := by decide +kernel
theorem d_Q_isRunning_34 : decode b_Q_isRunning 34 = .ok (.goto (-32), 3) := by decide +kernel
theorem d_Q_isRunning_37 : decode b_Q_isRunning 37 = .ok (.iconst 0, 1) := by decide +kernel
theorem d_Q_isRunning_38 : decode b_Q_isRunning 38 = .ok (.ireturn, 1) := by decide +kernel
theorem d_Q_countRunning_0 : decode b_Q_countRunning 0 = .ok (.iconst 0, 1) := by decide +kernel
theorem d_Q_countRunning_1 : decode b_Q_countRunning 1 = .ok (.istore_n 2, 1) := by decide +kernel
theorem d_Q_countRunning_2 : decode b_Q_countRunning 2 = .ok (.iconst 0, 1) := by decide +kernel
theorem d_Q_countRunning_3 : decode b_Q_countRunning 3 = .ok (.istore_n 3, 1) := by decide +kernel
theorem d_Q_countRunning_4 : decode b_Q_countRunning 4 = .ok (.iload_n 3, 1) := by decide +kernel
theorem d_Q_countRunning_5 : decode b_Q_countRunning 5 = .ok (.aload_n 0, 1) := by decide +kernel
theorem d_Q_countRunning_6 : decode b_Q_countRunning 6 = .ok (.getfield 30, 3) := by decide +kernel
theorem d_Q_countRunning_9 : decode b_Q_countRunning 9 = .ok (.if_icmp .ge 21, 3) := by decide +kernel
theorem d_Q_countRunning_12 : decode b_Q_countRunning 12 = .ok (.aload_n 0, 1) := by decide +kernel
theorem d_Q_countRunning_13 : decode b_Q_countRunning 13 = .ok (.iload_n 3, 1) := by decide +kernel
theorem d_Q_countRunning_14 : decode b_Q_countRunning 14 = .ok (.iload_n 1, 1) := by decide +kernel
theorem d_Q_countRunning_15 : decode b_Q_countRunning 15 = .ok (.invokevirtual 42, 3) := by decide +kernel
theorem d_Q_countRunning_18 : decode b_Q_countRunning 18 = .ok (.ifCond .eq 6, 3) := by decide +kernel
theorem d_Q_countRunning_21 : decode b_Q_countRunning 21 = .ok (.iinc 2 1, 3) := by decide +kernel
theorem d_Q_countRunning_24 : decode b_Q_countRunning 24 = .ok (.iinc 3 1, 3) := by decide +kernel
theorem d_Q_countRunning_27 : decode b_Q_countRunning 27 = .ok (.goto (-23), 3) := by decide +kernel
theorem d_Q_countRunning_30 : decode b_Q_countRunning 30 = .ok (.iload_n 2, 1) := by decide +kernel
theorem d_Q_countRunning_31 : decode b_Q_countRunning 31 = .ok (.ireturn, 1) := by decide +kernel
theorem d_Q_countHandedOut_0 : decode b_Q_countHandedOut 0 = .ok (.iconst 0, 1) := by decide +kernel
theorem d_Q_countHandedOut_1 : decode b_Q_countHandedOut 1 = .ok (.istore_n 2, 1) := by decide +kernel
theorem d_Q_countHandedOut_2 : decode b_Q_countHandedOut 2 = .ok (.iconst 0, 1) := by decide +kernel
theorem d_Q_countHandedOut_3 : decode b_Q_countHandedOut 3 = .ok (.istore_n 3, 1) := by decide +kernel
theorem d_Q_countHandedOut_4 : decode b_Q_countHandedOut 4 = .ok (.iload_n 3, 1) := by decide +kernel
theorem d_Q_countHandedOut_5 : decode b_Q_countHandedOut 5 = .ok (.aload_n 0, 1) := by decide +kernel
theorem d_Q_countHandedOut_6 : decode b_Q_countHandedOut 6 = .ok (.getfield 30, 3) := by decide +kernel
theorem d_Q_countHandedOut_9 : decode b_Q_countHandedOut 9 = .ok (.if_icmp .ge 32, 3) := by decide +kernel
theorem d_Q_countHandedOut_12 : decode b_Q_countHandedOut 12 = .ok (.aload_n 0, 1) := by decide +kernel
theorem d_Q_countHandedOut_13 : decode b_Q_countHandedOut 13 = .ok (.getfield 9, 3) := by decide +kernel
theorem d_Q_countHandedOut_16 : decode b_Q_countHandedOut 16 = .ok (.iload_n 3, 1) := by decide +kernel
theorem d_Q_countHandedOut_17 : decode b_Q_countHandedOut 17 = .ok (.iaload, 1) := by decide +kernel
theorem d_Q_countHandedOut_18 : decode b_Q_countHandedOut 18 = .ok (.iload_n 1, 1) := by decide +kernel
theorem d_Q_countHandedOut_19 : decode b_Q_countHandedOut 19 = .ok (.if_icmp .ne 16, 3) := by decide +kernel
theorem d_Q_countHandedOut_22 : decode b_Q_countHandedOut 22 = .ok (.aload_n 0, 1) := by decide +kernel
theorem d_Q_countHandedOut_23 : decode b_Q_countHandedOut 23 = .ok (.getfield 18, 3) := by decide +kernel
theorem d_Q_countHandedOut_26 : decode b_Q_countHandedOut 26 = .ok (.iload_n 3, 1) := by decide +kernel
theorem d_Q_countHandedOut_27 : decode b_Q_countHandedOut 27 = .ok (.iaload, 1) := by decide +kernel
theorem d_Q_countHandedOut_28 : decode b_Q_countHandedOut 28 = .ok (.iconst 2, 1) := by decide +kernel
theorem d_Q_countHandedOut_29 : decode b_Q_countHandedOut 29 = .ok (.if_icmp .ne 6, 3) := by decide +kernel
theorem d_Q_countHandedOut_32 : decode b_Q_countHandedOut 32 = .ok (.iinc 2 1, 3) := by decide +kernel
theorem d_Q_countHandedOut_35 : decode b_Q_countHandedOut 35 = .ok (.iinc 3 1, 3) := by decide +kernel
theorem d_Q_countHandedOut_38 : decode b_Q_countHandedOut 38 = .ok (.goto (-34), 3) := by decide +kernel
theorem d_Q_countHandedOut_41 : decode b_Q_countHandedOut 41 = .ok (.iload_n 2, 1) := by decide +kernel
theorem d_Q_countHandedOut_42 : decode b_Q_countHandedOut 42 = .ok (.ireturn, 1) := by decide +kernel
theorem d_Q_countOpen_0 : decode b_Q_countOpen 0 = .ok (.iconst 0, 1) := by decide +kernel
theorem d_Q_countOpen_1 : decode b_Q_countOpen 1 = .ok (.istore_n 2, 1) := by decide +kernel
theorem d_Q_countOpen_2 : decode b_Q_countOpen 2 = .ok (.iconst 0, 1) := by decide +kernel
theorem d_Q_countOpen_3 : decode b_Q_countOpen 3 = .ok (.istore_n 3, 1) := by decide +kernel
theorem d_Q_countOpen_4 : decode b_Q_countOpen 4 = .ok (.iload_n 3, 1) := by decide +kernel
theorem d_Q_countOpen_5 : decode b_Q_countOpen 5 = .ok (.aload_n 0, 1) := by decide +kernel
theorem d_Q_countOpen_6 : decode b_Q_countOpen 6 = .ok (.getfield 30, 3) := by decide +kernel
theorem d_Q_countOpen_9 : decode b_Q_countOpen 9 = .ok (.if_icmp .ge 21, 3) := by decide +kernel
theorem d_Q_countOpen_12 : decode b_Q_countOpen 12 = .ok (.aload_n 0, 1) := by decide +kernel
theorem d_Q_countOpen_13 : decode b_Q_countOpen 13 = .ok (.iload_n 3, 1) := by decide +kernel
theorem d_Q_countOpen_14 : decode b_Q_countOpen 14 = .ok (.iload_n 1, 1) := by decide +kernel
theorem d_Q_countOpen_15 : decode b_Q_countOpen 15 = .ok (.invokevirtual 46, 3) := by decide +kernel
theorem d_Q_countOpen_18 : decode b_Q_countOpen 18 = .ok (.ifCond .eq 6, 3) := by decide +kernel
theorem d_Q_countOpen_21 : decode b_Q_countOpen 21 = .ok (.iinc 2 1, 3) := by decide +kernel
theorem d_Q_countOpen_24 : decode b_Q_countOpen 24 = .ok (.iinc 3 1, 3) := by decide +kernel
theorem d_Q_countOpen_27 : decode b_Q_countOpen 27 = .ok (.goto (-23), 3) := by decide +kernel
theorem d_Q_countOpen_30 : decode b_Q_countOpen 30 = .ok (.iload_n 2, 1) := by decide +kernel
theorem d_Q_countOpen_31 : decode b_Q_countOpen 31 = .ok (.ireturn, 1) := by decide +kernel
theorem d_Q_openOf_0 : decode b_Q_openOf 0 = .ok (.iconst 0, 1) := by decide +kernel
theorem d_Q_openOf_1 : decode b_Q_openOf 1 = .ok (.istore_n 3, 1) := by decide +kernel
theorem d_Q_openOf_2 : decode b_Q_openOf 2 = .ok (.iconst 0, 1) := by decide +kernel
theorem d_Q_openOf_3 : decode b_Q_openOf 3 = .ok (.istore 4, 2) := by decide +kernel
theorem d_Q_openOf_5 : decode b_Q_openOf 5 = .ok (.iload 4, 2) := by decide +kernel
theorem d_Q_openOf_7 : decode b_Q_openOf 7 = .ok (.aload_n 0, 1) := by decide +kernel
theorem d_Q_openOf_8 : decode b_Q_openOf 8 = .ok (.getfield 30, 3) := by decide +kernel
theorem d_Q_openOf_11 : decode b_Q_openOf 11 = .ok (.if_icmp .ge 30, 3) := by decide +kernel
theorem d_Q_openOf_14 : decode b_Q_openOf 14 = .ok (.aload_n 0, 1) := by decide +kernel
theorem d_Q_openOf_15 : decode b_Q_openOf 15 = .ok (.iload 4, 2) := by decide +kernel
theorem d_Q_openOf_17 : decode b_Q_openOf 17 = .ok (.iload_n 1, 1) := by decide +kernel
theorem d_Q_openOf_18 : decode b_Q_openOf 18 = .ok (.invokevirtual 46, 3) := by decide +kernel
theorem d_Q_openOf_21 : decode b_Q_openOf 21 = .ok (.ifCond .eq 14, 3) := by decide +kernel
theorem d_Q_openOf_24 : decode b_Q_openOf 24 = .ok (.iload_n 3, 1) := by decide +kernel
theorem d_Q_openOf_25 : decode b_Q_openOf 25 = .ok (.iload_n 2, 1) := by decide +kernel
theorem d_Q_openOf_26 : decode b_Q_openOf 26 = .ok (.if_icmp .ne 6, 3) := by decide +kernel
theorem d_Q_openOf_29 : decode b_Q_openOf 29 = .ok (.iload 4, 2) := by decide +kernel
theorem d_Q_openOf_31 : decode b_Q_openOf 31 = .ok (.ireturn, 1) := by decide +kernel
theorem d_Q_openOf_32 : decode b_Q_openOf 32 = .ok (.iinc 3 1, 3) := by decide +kernel
theorem d_Q_openOf_35 : decode b_Q_openOf 35 = .ok (.iinc 4 1, 3) := by decide +kernel
theorem d_Q_openOf_38 : decode b_Q_openOf 38 = .ok (.goto (-33), 3) := by decide +kernel
theorem d_Q_openOf_41 : decode b_Q_openOf 41 = .ok (.iconst (-1), 1) := by decide +kernel
theorem d_Q_openOf_42 : decode b_Q_openOf 42 = .ok (.ireturn, 1) := by decide +kernel
theorem d_Q_add_0 : decode b_Q_add 0 = .ok (.aload_n 0, 1) := by decide +kernel
theorem d_Q_add_1 : decode b_Q_add 1 = .ok (.invokevirtual 49, 3) := by decide +kernel
theorem d_Q_add_4 : decode b_Q_add 4 = .ok (.ifCond .eq 6, 3) := by decide +kernel
theorem d_Q_add_7 : decode b_Q_add 7 = .ok (.bipush (-4), 2) := by decide +kernel
theorem d_Q_add_9 : decode b_Q_add 9 = .ok (.ireturn, 1) := by decide +kernel
theorem d_Q_add_10 : decode b_Q_add 10 = .ok (.aload_n 0, 1) := by decide +kernel
theorem d_Q_add_11 : decode b_Q_add 11 = .ok (.getfield 30, 3) := by decide +kernel
theorem d_Q_add_14 : decode b_Q_add 14 = .ok (.istore 4, 2) := by decide +kernel
theorem d_Q_add_16 : decode b_Q_add 16 = .ok (.aload_n 0, 1) := by decide +kernel
theorem d_Q_add_17 : decode b_Q_add 17 = .ok (.getfield 9, 3) := by decide +kernel
theorem d_Q_add_20 : decode b_Q_add 20 = .ok (.iload 4, 2) := by decide +kernel
theorem d_Q_add_22 : decode b_Q_add 22 = .ok (.iload_n 1, 1) := by decide +kernel
theorem d_Q_add_23 : decode b_Q_add 23 = .ok (.iastore, 1) := by decide +kernel
theorem d_Q_add_24 : decode b_Q_add 24 = .ok (.aload_n 0, 1) := by decide +kernel
theorem d_Q_add_25 : decode b_Q_add 25 = .ok (.getfield 15, 3) := by decide +kernel
theorem d_Q_add_28 : decode b_Q_add 28 = .ok (.iload 4, 2) := by decide +kernel
theorem d_Q_add_30 : decode b_Q_add 30 = .ok (.iload_n 2, 1) := by decide +kernel
theorem d_Q_add_31 : decode b_Q_add 31 = .ok (.iastore, 1) := by decide +kernel
theorem d_Q_add_32 : decode b_Q_add 32 = .ok (.aload_n 0, 1) := by decide +kernel
theorem d_Q_add_33 : decode b_Q_add 33 = .ok (.getfield 18, 3) := by decide +kernel
theorem d_Q_add_36 : decode b_Q_add 36 = .ok (.iload 4, 2) := by decide +kernel
theorem d_Q_add_38 : decode b_Q_add 38 = .ok (.iconst 0, 1) := by decide +kernel
theorem d_Q_add_39 : decode b_Q_add 39 = .ok (.iastore, 1) := by decide +kernel
theorem d_Q_add_40 : decode b_Q_add 40 = .ok (.aload_n 0, 1) := by decide +kernel
theorem d_Q_add_41 : decode b_Q_add 41 = .ok (.getfield 21, 3) := by decide +kernel
theorem d_Q_add_44 : decode b_Q_add 44 = .ok (.iload 4, 2) := by decide +kernel
theorem d_Q_add_46 : decode b_Q_add 46 = .ok (.iload_n 3, 1) := by decide +kernel
theorem d_Q_add_47 : decode b_Q_add 47 = .ok (.iastore, 1) := by decide +kernel
theorem d_Q_add_48 : decode b_Q_add 48 = .ok (.aload_n 0, 1) := by decide +kernel
theorem d_Q_add_49 : decode b_Q_add 49 = .ok (.getfield 24, 3) := by decide +kernel
theorem d_Q_add_52 : decode b_Q_add 52 = .ok (.iload 4, 2) := by decide +kernel
theorem d_Q_add_54 : decode b_Q_add 54 = .ok (.iconst (-1), 1) := by decide +kernel
theorem d_Q_add_55 : decode b_Q_add 55 = .ok (.iastore, 1) := by decide +kernel
theorem d_Q_add_56 : decode b_Q_add 56 = .ok (.aload_n 0, 1) := by decide +kernel
theorem d_Q_add_57 : decode b_Q_add 57 = .ok (.getfield 27, 3) := by decide +kernel
theorem d_Q_add_60 : decode b_Q_add 60 = .ok (.iload 4, 2) := by decide +kernel
theorem d_Q_add_62 : decode b_Q_add 62 = .ok (.iconst (-1), 1) := by decide +kernel
theorem d_Q_add_63 : decode b_Q_add 63 = .ok (.iastore, 1) := by decide +kernel
theorem d_Q_add_64 : decode b_Q_add 64 = .ok (.aload_n 0, 1) := by decide +kernel
theorem d_Q_add_65 : decode b_Q_add 65 = .ok (.dup, 1) := by decide +kernel
theorem d_Q_add_66 : decode b_Q_add 66 = .ok (.getfield 30, 3) := by decide +kernel
theorem d_Q_add_69 : decode b_Q_add 69 = .ok (.iconst 1, 1) := by decide +kernel
theorem d_Q_add_70 : decode b_Q_add 70 = .ok (.iadd, 1) := by decide +kernel
theorem d_Q_add_71 : decode b_Q_add 71 = .ok (.putfield 30, 3) := by decide +kernel
theorem d_Q_add_74 : decode b_Q_add 74 = .ok (.iload 4, 2) := by decide +kernel
theorem d_Q_add_76 : decode b_Q_add 76 = .ok (.ireturn, 1) := by decide +kernel
theorem d_Q_setState_0 : decode b_Q_setState 0 = .ok (.aload_n 0, 1) := by decide +kernel
theorem d_Q_setState_1 : decode b_Q_setState 1 = .ok (.iload_n 1, 1) := by decide +kernel
theorem d_Q_setState_2 : decode b_Q_setState 2 = .ok (.invokevirtual 38, 3) := by decide +kernel
theorem d_Q_setState_5 : decode b_Q_setState 5 = .ok (.ifCond .eq 10, 3) := by decide +kernel
theorem d_Q_setState_8 : decode b_Q_setState 8 = .ok (.aload_n 0, 1) := by decide +kernel
theorem d_Q_setState_9 : decode b_Q_setState 9 = .ok (.getfield 18, 3) := by decide +kernel
theorem d_Q_setState_12 : decode b_Q_setState 12 = .ok (.iload_n 1, 1) := by decide +kernel
theorem d_Q_setState_13 : decode b_Q_setState 13 = .ok (.iload_n 2, 1) := by decide +kernel
theorem d_Q_setState_14 : decode b_Q_setState 14 = .ok (.iastore, 1) := by decide +kernel
theorem d_Q_setState_15 : decode b_Q_setState 15 = .ok (.return_, 1) := by decide +kernel
theorem d_Q_markHandedOut_0 : decode b_Q_markHandedOut 0 = .ok (.aload_n 0, 1) := by decide +kernel
theorem d_Q_markHandedOut_1 : decode b_Q_markHandedOut 1 = .ok (.iload_n 1, 1) := by decide +kernel
theorem d_Q_markHandedOut_2 : decode b_Q_markHandedOut 2 = .ok (.invokevirtual 38, 3) := by decide +kernel
theorem d_Q_markHandedOut_5 : decode b_Q_markHandedOut 5 = .ok (.ifCond .eq 17, 3) := by decide +kernel
theorem d_Q_markHandedOut_8 : decode b_Q_markHandedOut 8 = .ok (.aload_n 0, 1) := by decide +kernel
theorem d_Q_markHandedOut_9 : decode b_Q_markHandedOut 9 = .ok (.getfield 18, 3) := by decide +kernel
theorem d_Q_markHandedOut_12 : decode b_Q_markHandedOut 12 = .ok (.iload_n 1, 1) := by decide +kernel
theorem d_Q_markHandedOut_13 : decode b_Q_markHandedOut 13 = .ok (.iconst 2, 1) := by decide +kernel
theorem d_Q_markHandedOut_14 : decode b_Q_markHandedOut 14 = .ok (.iastore, 1) := by decide +kernel
theorem d_Q_markHandedOut_15 : decode b_Q_markHandedOut 15 = .ok (.aload_n 0, 1) := by decide +kernel
theorem d_Q_markHandedOut_16 : decode b_Q_markHandedOut 16 = .ok (.getfield 24, 3) := by decide +kernel
theorem d_Q_markHandedOut_19 : decode b_Q_markHandedOut 19 = .ok (.iload_n 1, 1) := by decide +kernel
theorem d_Q_markHandedOut_20 : decode b_Q_markHandedOut 20 = .ok (.iload_n 2, 1) := by decide +kernel
theorem d_Q_markHandedOut_21 : decode b_Q_markHandedOut 21 = .ok (.iastore, 1) := by decide +kernel
theorem d_Q_markHandedOut_22 : decode b_Q_markHandedOut 22 = .ok (.return_, 1) := by decide +kernel
theorem d_Q_markBack_0 : decode b_Q_markBack 0 = .ok (.aload_n 0, 1) := by decide +kernel
theorem d_Q_markBack_1 : decode b_Q_markBack 1 = .ok (.iload_n 1, 1) := by decide +kernel
theorem d_Q_markBack_2 : decode b_Q_markBack 2 = .ok (.invokevirtual 38, 3) := by decide +kernel
theorem d_Q_markBack_5 : decode b_Q_markBack 5 = .ok (.ifCond .eq 17, 3) := by decide +kernel
theorem d_Q_markBack_8 : decode b_Q_markBack 8 = .ok (.aload_n 0, 1) := by decide +kernel
theorem d_Q_markBack_9 : decode b_Q_markBack 9 = .ok (.getfield 18, 3) := by decide +kernel
theorem d_Q_markBack_12 : decode b_Q_markBack 12 = .ok (.iload_n 1, 1) := by decide +kernel
theorem d_Q_markBack_13 : decode b_Q_markBack 13 = .ok (.iconst 3, 1) := by decide +kernel
theorem d_Q_markBack_14 : decode b_Q_markBack 14 = .ok (.iastore, 1) := by decide +kernel
theorem d_Q_markBack_15 : decode b_Q_markBack 15 = .ok (.aload_n 0, 1) := by decide +kernel
theorem d_Q_markBack_16 : decode b_Q_markBack 16 = .ok (.getfield 27, 3) := by decide +kernel
theorem d_Q_markBack_19 : decode b_Q_markBack 19 = .ok (.iload_n 1, 1) := by decide +kernel
theorem d_Q_markBack_20 : decode b_Q_markBack 20 = .ok (.iload_n 2, 1) := by decide +kernel
theorem d_Q_markBack_21 : decode b_Q_markBack 21 = .ok (.iastore, 1) := by decide +kernel
theorem d_Q_markBack_22 : decode b_Q_markBack 22 = .ok (.return_, 1) := by decide +kernel
theorem d_Q_endAll_0 : decode b_Q_endAll 0 = .ok (.iconst 0, 1) := by decide +kernel
theorem d_Q_endAll_1 : decode b_Q_endAll 1 = .ok (.istore_n 2, 1) := by decide +kernel
theorem d_Q_endAll_2 : decode b_Q_endAll 2 = .ok (.iload_n 2, 1) := by decide +kernel
theorem d_Q_endAll_3 : decode b_Q_endAll 3 = .ok (.aload_n 0, 1) := by decide +kernel
theorem d_Q_endAll_4 : decode b_Q_endAll 4 = .ok (.getfield 30, 3) := by decide +kernel
theorem d_Q_endAll_7 : decode b_Q_endAll 7 = .ok (.if_icmp .ge 15, 3) := by decide +kernel
theorem d_Q_endAll_10 : decode b_Q_endAll 10 = .ok (.aload_n 0, 1) := by decide +kernel
theorem d_Q_endAll_11 : decode b_Q_endAll 11 = .ok (.iload_n 2, 1) := by decide +kernel
theorem d_Q_endAll_12 : decode b_Q_endAll 12 = .ok (.iload_n 1, 1) := by decide +kernel
theorem d_Q_endAll_13 : decode b_Q_endAll 13 = .ok (.invokevirtual 53, 3) := by decide +kernel
theorem d_Q_endAll_16 : decode b_Q_endAll 16 = .ok (.iinc 2 1, 3) := by decide +kernel
theorem d_Q_endAll_19 : decode b_Q_endAll 19 = .ok (.goto (-17), 3) := by decide +kernel
theorem d_Q_endAll_22 : decode b_Q_endAll 22 = .ok (.return_, 1) := by decide +kernel
theorem d_Q_endAtClosing_0 : decode b_Q_endAtClosing 0 = .ok (.aload_n 0, 1) := by decide +kernel
theorem d_Q_endAtClosing_1 : decode b_Q_endAtClosing 1 = .ok (.iload_n 1, 1) := by decide +kernel
theorem d_Q_endAtClosing_2 : decode b_Q_endAtClosing 2 = .ok (.invokevirtual 57, 3) := by decide +kernel
theorem d_Q_endAtClosing_5 : decode b_Q_endAtClosing 5 = .ok (.tableswitch 54 0 2 #[27, 36, 45], 27) := by decide +kernel
theorem d_Q_endAtClosing_32 : decode b_Q_endAtClosing 32 = .ok (.aload_n 0, 1) := by decide +kernel
theorem d_Q_endAtClosing_33 : decode b_Q_endAtClosing 33 = .ok (.iload_n 1, 1) := by decide +kernel
theorem d_Q_endAtClosing_34 : decode b_Q_endAtClosing 34 = .ok (.iconst 4, 1) := by decide +kernel
theorem d_Q_endAtClosing_35 : decode b_Q_endAtClosing 35 = .ok (.invokevirtual 61, 3) := by decide +kernel
theorem d_Q_endAtClosing_38 : decode b_Q_endAtClosing 38 = .ok (.goto 21, 3) := by decide +kernel
theorem d_Q_endAtClosing_41 : decode b_Q_endAtClosing 41 = .ok (.aload_n 0, 1) := by decide +kernel
theorem d_Q_endAtClosing_42 : decode b_Q_endAtClosing 42 = .ok (.iload_n 1, 1) := by decide +kernel
theorem d_Q_endAtClosing_43 : decode b_Q_endAtClosing 43 = .ok (.iconst 3, 1) := by decide +kernel
theorem d_Q_endAtClosing_44 : decode b_Q_endAtClosing 44 = .ok (.invokevirtual 61, 3) := by decide +kernel
theorem d_Q_endAtClosing_47 : decode b_Q_endAtClosing 47 = .ok (.goto 12, 3) := by decide +kernel
theorem d_Q_endAtClosing_50 : decode b_Q_endAtClosing 50 = .ok (.aload_n 0, 1) := by decide +kernel
theorem d_Q_endAtClosing_51 : decode b_Q_endAtClosing 51 = .ok (.iload_n 1, 1) := by decide +kernel
theorem d_Q_endAtClosing_52 : decode b_Q_endAtClosing 52 = .ok (.iload_n 2, 1) := by decide +kernel
theorem d_Q_endAtClosing_53 : decode b_Q_endAtClosing 53 = .ok (.invokevirtual 64, 3) := by decide +kernel
theorem d_Q_endAtClosing_56 : decode b_Q_endAtClosing 56 = .ok (.goto 3, 3) := by decide +kernel
theorem d_Q_endAtClosing_59 : decode b_Q_endAtClosing 59 = .ok (.return_, 1) := by decide +kernel
theorem d_Q_isRunningBy_0 : decode b_Q_isRunningBy 0 = .ok (.aload_n 0, 1) := by decide +kernel
theorem d_Q_isRunningBy_1 : decode b_Q_isRunningBy 1 = .ok (.iload_n 1, 1) := by decide +kernel
theorem d_Q_isRunningBy_2 : decode b_Q_isRunningBy 2 = .ok (.invokevirtual 38, 3) := by decide +kernel
theorem d_Q_isRunningBy_5 : decode b_Q_isRunningBy 5 = .ok (.ifCond .eq 27, 3) := by decide +kernel
theorem d_Q_isRunningBy_8 : decode b_Q_isRunningBy 8 = .ok (.aload_n 0, 1) := by decide +kernel
theorem d_Q_isRunningBy_9 : decode b_Q_isRunningBy 9 = .ok (.getfield 9, 3) := by decide +kernel
theorem d_Q_isRunningBy_12 : decode b_Q_isRunningBy 12 = .ok (.iload_n 1, 1) := by decide +kernel
theorem d_Q_isRunningBy_13 : decode b_Q_isRunningBy 13 = .ok (.iaload, 1) := by decide +kernel
theorem d_Q_isRunningBy_14 : decode b_Q_isRunningBy 14 = .ok (.iload_n 2, 1) := by decide +kernel
theorem d_Q_isRunningBy_15 : decode b_Q_isRunningBy 15 = .ok (.if_icmp .ne 17, 3) := by decide +kernel
theorem d_Q_isRunningBy_18 : decode b_Q_isRunningBy 18 = .ok (.aload_n 0, 1) := by decide +kernel
theorem d_Q_isRunningBy_19 : decode b_Q_isRunningBy 19 = .ok (.getfield 18, 3) := by decide +kernel
theorem d_Q_isRunningBy_22 : decode b_Q_isRunningBy 22 = .ok (.iload_n 1, 1) := by decide +kernel
theorem d_Q_isRunningBy_23 : decode b_Q_isRunningBy 23 = .ok (.iaload, 1) := by decide +kernel
theorem d_Q_isRunningBy_24 : decode b_Q_isRunningBy 24 = .ok (.iconst 2, 1) := by decide +kernel
theorem d_Q_isRunningBy_25 : decode b_Q_isRunningBy 25 = .ok (.if_icmp .gt 7, 3) := by decide +kernel
theorem d_Q_isRunningBy_28 : decode b_Q_isRunningBy 28 = .ok (.iconst 1, 1) := by decide +kernel
theorem d_Q_isRunningBy_29 : decode b_Q_isRunningBy 29 = .ok (.goto 4, 3) := by decide +kernel
theorem d_Q_isRunningBy_32 : decode b_Q_isRunningBy 32 = .ok (.iconst 0, 1) := by decide +kernel
theorem d_Q_isRunningBy_33 : decode b_Q_isRunningBy 33 = .ok (.ireturn, 1) := by decide +kernel
theorem d_S_init_0 : decode b_S_init 0 = .ok (.aload_n 0, 1) := by decide +kernel
theorem d_S_init_1 : decode b_S_init 1 = .ok (.invokespecial 3, 3) := by decide +kernel
theorem d_S_init_4 : decode b_S_init 4 = .ok (.aload_n 0, 1) := by decide +kernel
theorem d_S_init_5 : decode b_S_init 5 = .ok (.bipush 20, 2) := by decide +kernel
theorem d_S_init_7 : decode b_S_init 7 = .ok (.newarray .int, 2) := by decide +kernel
theorem d_S_init_9 : decode b_S_init 9 = .ok (.putfield 9, 3) := by decide +kernel
theorem d_S_init_12 : decode b_S_init 12 = .ok (.aload_n 0, 1) := by decide +kernel
theorem d_S_init_13 : decode b_S_init 13 = .ok (.bipush 60, 2) := by decide +kernel
theorem d_S_init_15 : decode b_S_init 15 = .ok (.newarray .int, 2) := by decide +kernel
theorem d_S_init_17 : decode b_S_init 17 = .ok (.putfield 15, 3) := by decide +kernel
theorem d_S_init_20 : decode b_S_init 20 = .ok (.aload_n 0, 1) := by decide +kernel
theorem d_S_init_21 : decode b_S_init 21 = .ok (.iconst 0, 1) := by decide +kernel
theorem d_S_init_22 : decode b_S_init 22 = .ok (.bipush 20, 2) := by decide +kernel
theorem d_S_init_24 : decode b_S_init 24 = .ok (.iload_n 1, 1) := by decide +kernel
theorem d_S_init_25 : decode b_S_init 25 = .ok (.invokestatic 18, 3) := by decide +kernel
theorem d_S_init_28 : decode b_S_init 28 = .ok (.invokestatic 24, 3) := by decide +kernel
theorem d_S_init_31 : decode b_S_init 31 = .ok (.putfield 27, 3) := by decide +kernel
theorem d_S_init_34 : decode b_S_init 34 = .ok (.aload_n 0, 1) := by decide +kernel
theorem d_S_init_35 : decode b_S_init 35 = .ok (.getfield 9, 3) := by decide +kernel
theorem d_S_init_38 : decode b_S_init 38 = .ok (.iconst (-1), 1) := by decide +kernel
theorem d_S_init_39 : decode b_S_init 39 = .ok (.invokestatic 31, 3) := by decide +kernel
theorem d_S_init_42 : decode b_S_init 42 = .ok (.return_, 1) := by decide +kernel
theorem d_S_isSeated_0 : decode b_S_isSeated 0 = .ok (.aload_n 0, 1) := by decide +kernel
theorem d_S_isSeated_1 : decode b_S_isSeated 1 = .ok (.iload_n 1, 1) := by decide +kernel
theorem d_S_isSeated_2 : decode b_S_isSeated 2 = .ok (.invokevirtual 37, 3) := by decide +kernel
theorem d_S_isSeated_5 : decode b_S_isSeated 5 = .ok (.iconst (-1), 1) := by decide +kernel
theorem d_S_isSeated_6 : decode b_S_isSeated 6 = .ok (.if_icmp .eq 7, 3) := by decide +kernel
theorem d_S_isSeated_9 : decode b_S_isSeated 9 = .ok (.iconst 1, 1) := by decide +kernel
theorem d_S_isSeated_10 : decode b_S_isSeated 10 = .ok (.goto 4, 3) := by decide +kernel
theorem d_S_isSeated_13 : decode b_S_isSeated 13 = .ok (.iconst 0, 1) := by decide +kernel
theorem d_S_isSeated_14 : decode b_S_isSeated 14 = .ok (.ireturn, 1) := by decide +kernel
theorem d_S_isPresent_0 : decode b_S_isPresent 0 = .ok (.aload_n 0, 1) := by decide +kernel
theorem d_S_isPresent_1 : decode b_S_isPresent 1 = .ok (.iload_n 1, 1) := by decide +kernel
theorem d_S_isPresent_2 : decode b_S_isPresent 2 = .ok (.invokevirtual 41, 3) := by decide +kernel
theorem d_S_isPresent_5 : decode b_S_isPresent 5 = .ok (.ifCond .ne 12, 3) := by decide +kernel
theorem d_S_isPresent_8 : decode b_S_isPresent 8 = .ok (.aload_n 0, 1) := by decide +kernel
theorem d_S_isPresent_9 : decode b_S_isPresent 9 = .ok (.iload_n 1, 1) := by decide +kernel
theorem d_S_isPresent_10 : decode b_S_isPresent 10 = .ok (.invokevirtual 45, 3) := by decide +kernel
theorem d_S_isPresent_13 : decode b_S_isPresent 13 = .ok (.iconst (-1), 1) := by decide +kernel
theorem d_S_isPresent_14 : decode b_S_isPresent 14 = .ok (.if_icmp .eq 7, 3) := by decide +kernel
theorem d_S_isPresent_17 : decode b_S_isPresent 17 = .ok (.iconst 1, 1) := by decide +kernel
theorem d_S_isPresent_18 : decode b_S_isPresent 18 = .ok (.goto 4, 3) := by decide +kernel
theorem d_S_isPresent_21 : decode b_S_isPresent 21 = .ok (.iconst 0, 1) := by decide +kernel
theorem d_S_isPresent_22 : decode b_S_isPresent 22 = .ok (.ireturn, 1) := by decide +kernel
theorem d_S_seatOf_0 : decode b_S_seatOf 0 = .ok (.iload_n 1, 1) := by decide +kernel
theorem d_S_seatOf_1 : decode b_S_seatOf 1 = .ok (.invokestatic 48, 3) := by decide +kernel
theorem d_S_seatOf_4 : decode b_S_seatOf 4 = .ok (.ifCond .eq 11, 3) := by decide +kernel
theorem d_S_seatOf_7 : decode b_S_seatOf 7 = .ok (.aload_n 0, 1) := by decide +kernel
theorem d_S_seatOf_8 : decode b_S_seatOf 8 = .ok (.iload_n 1, 1) := by decide +kernel
theorem d_S_seatOf_9 : decode b_S_seatOf 9 = .ok (.invokevirtual 51, 3) := by decide +kernel
theorem d_S_seatOf_12 : decode b_S_seatOf 12 = .ok (.goto 4, 3) := by decide +kernel
theorem d_S_seatOf_15 : decode b_S_seatOf 15 = .ok (.iconst (-1), 1) := by decide +kernel
theorem d_S_seatOf_16 : decode b_S_seatOf 16 = .ok (.ireturn, 1) := by decide +kernel
theorem d_S_placeInRow_0 : decode b_S_placeInRow 0 = .ok (.iconst 0, 1) := by decide +kernel
theorem d_S_placeInRow_1 : decode b_S_placeInRow 1 = .ok (.istore_n 2, 1) := by decide +kernel
theorem d_S_placeInRow_2 : decode b_S_placeInRow 2 = .ok (.iload_n 2, 1) := by decide +kernel
theorem d_S_placeInRow_3 : decode b_S_placeInRow 3 = .ok (.aload_n 0, 1) := by decide +kernel
theorem d_S_placeInRow_4 : decode b_S_placeInRow 4 = .ok (.getfield 54, 3) := by decide +kernel
theorem d_S_placeInRow_7 : decode b_S_placeInRow 7 = .ok (.if_icmp .ge 21, 3) := by decide +kernel
theorem d_S_placeInRow_10 : decode b_S_placeInRow 10 = .ok (.aload_n 0, 1) := by decide +kernel
theorem d_S_placeInRow_11 : decode b_S_placeInRow 11 = .ok (.getfield 15, 3) := by decide +kernel
theorem d_S_placeInRow_14 : decode b_S_placeInRow 14 = .ok (.iload_n 2, 1) := by decide +kernel
theorem d_S_placeInRow_15 : decode b_S_placeInRow 15 = .ok (.iaload, 1) := by decide +kernel
theorem d_S_placeInRow_16 : decode b_S_placeInRow 16 = .ok (.iload_n 1, 1) := by decide +kernel
theorem d_S_placeInRow_17 : decode b_S_placeInRow 17 = .ok (.if_icmp .ne 5, 3) := by decide +kernel
theorem d_S_placeInRow_20 : decode b_S_placeInRow 20 = .ok (.iload_n 2, 1) := by decide +kernel
theorem d_S_placeInRow_21 : decode b_S_placeInRow 21 = .ok (.ireturn, 1) := by decide +kernel
theorem d_S_placeInRow_22 : decode b_S_placeInRow 22 = .ok (.iinc 2 1, 3) := by decide +kernel
theorem d_S_placeInRow_25 : decode b_S_placeInRow 25 = .ok (.goto (-23), 3) := by decide +kernel
theorem d_S_placeInRow_28 : decode b_S_placeInRow 28 = .ok (.iconst (-1), 1) := by decide +kernel
theorem d_S_placeInRow_29 : decode b_S_placeInRow 29 = .ok (.ireturn, 1) := by decide +kernel
theorem d_S_admit_0 : decode b_S_admit 0 = .ok (.aload_n 0, 1) := by decide +kernel
theorem d_S_admit_1 : decode b_S_admit 1 = .ok (.iconst (-1), 1) := by decide +kernel
theorem d_S_admit_2 : decode b_S_admit 2 = .ok (.invokevirtual 51, 3) := by decide +kernel
theorem d_S_admit_5 : decode b_S_admit 5 = .ok (.istore_n 2, 1) := by decide +kernel
theorem d_S_admit_6 : decode b_S_admit 6 = .ok (.iload_n 2, 1) := by decide +kernel
theorem d_S_admit_7 : decode b_S_admit 7 = .ok (.iconst (-1), 1) := by decide +kernel
theorem d_S_admit_8 : decode b_S_admit 8 = .ok (.if_icmp .eq 12, 3) := by decide +kernel
theorem d_S_admit_11 : decode b_S_admit 11 = .ok (.aload_n 0, 1) := by decide +kernel
theorem d_S_admit_12 : decode b_S_admit 12 = .ok (.getfield 9, 3) := by decide +kernel
theorem d_S_admit_15 : decode b_S_admit 15 = .ok (.iload_n 2, 1) := by decide +kernel
theorem d_S_admit_16 : decode b_S_admit 16 = .ok (.iload_n 1, 1) := by decide +kernel
theorem d_S_admit_17 : decode b_S_admit 17 = .ok (.iastore, 1) := by decide +kernel
theorem d_S_admit_18 : decode b_S_admit 18 = .ok (.iload_n 2, 1) := by decide +kernel
theorem d_S_admit_19 : decode b_S_admit 19 = .ok (.ireturn, 1) := by decide +kernel
theorem d_S_admit_20 : decode b_S_admit 20 = .ok (.aload_n 0, 1) := by decide +kernel
theorem d_S_admit_21 : decode b_S_admit 21 = .ok (.getfield 54, 3) := by decide +kernel
theorem d_S_admit_24 : decode b_S_admit 24 = .ok (.istore_n 3, 1) := by decide +kernel
theorem d_S_admit_25 : decode b_S_admit 25 = .ok (.iload_n 3, 1) := by decide +kernel
theorem d_S_admit_26 : decode b_S_admit 26 = .ok (.bipush 60, 2) := by decide +kernel
theorem d_S_admit_28 : decode b_S_admit 28 = .ok (.if_icmp .ge 20, 3) := by decide +kernel
theorem d_S_admit_31 : decode b_S_admit 31 = .ok (.aload_n 0, 1) := by decide +kernel
theorem d_S_admit_32 : decode b_S_admit 32 = .ok (.getfield 15, 3) := by decide +kernel
theorem d_S_admit_35 : decode b_S_admit 35 = .ok (.iload_n 3, 1) := by decide +kernel
theorem d_S_admit_36 : decode b_S_admit 36 = .ok (.iload_n 1, 1) := by decide +kernel
theorem d_S_admit_37 : decode b_S_admit 37 = .ok (.iastore, 1) := by decide +kernel
theorem d_S_admit_38 : decode b_S_admit 38 = .ok (.aload_n 0, 1) := by decide +kernel
theorem d_S_admit_39 : decode b_S_admit 39 = .ok (.dup, 1) := by decide +kernel
theorem d_S_admit_40 : decode b_S_admit 40 = .ok (.getfield 54, 3) := by decide +kernel
theorem d_S_admit_43 : decode b_S_admit 43 = .ok (.iconst 1, 1) := by decide +kernel
theorem d_S_admit_44 : decode b_S_admit 44 = .ok (.iadd, 1) := by decide +kernel
theorem d_S_admit_45 : decode b_S_admit 45 = .ok (.putfield 54, 3) := by decide +kernel
theorem d_S_admit_48 : decode b_S_admit 48 = .ok (.bipush (-10), 2) := by decide +kernel
theorem d_S_admit_50 : decode b_S_admit 50 = .ok (.iload_n 3, 1) := by decide +kernel
theorem d_S_admit_51 : decode b_S_admit 51 = .ok (.isub, 1) := by decide +kernel
theorem d_S_admit_52 : decode b_S_admit 52 = .ok (.ireturn, 1) := by decide +kernel
theorem d_S_release_0 : decode b_S_release 0 = .ok (.aload_n 0, 1) := by decide +kernel
theorem d_S_release_1 : decode b_S_release 1 = .ok (.iload_n 1, 1) := by decide +kernel
theorem d_S_release_2 : decode b_S_release 2 = .ok (.invokevirtual 37, 3) := by decide +kernel
theorem d_S_release_5 : decode b_S_release 5 = .ok (.istore_n 2, 1) := by decide +kernel
theorem d_S_release_6 : decode b_S_release 6 = .ok (.iload_n 2, 1) := by decide +kernel
theorem d_S_release_7 : decode b_S_release 7 = .ok (.iconst (-1), 1) := by decide +kernel
theorem d_S_release_8 : decode b_S_release 8 = .ok (.if_icmp .ne 15, 3) := by decide +kernel
theorem d_S_release_11 : decode b_S_release 11 = .ok (.aload_n 0, 1) := by decide +kernel
theorem d_S_release_12 : decode b_S_release 12 = .ok (.aload_n 0, 1) := by decide +kernel
theorem d_S_release_13 : decode b_S_release 13 = .ok (.iload_n 1, 1) := by decide +kernel
theorem d_S_release_14 : decode b_S_release 14 = .ok (.invokevirtual 45, 3) := by decide +kernel
theorem d_S_release_17 : decode b_S_release 17 = .ok (.invokevirtual 57, 3) := by decide +kernel
theorem d_S_release_20 : decode b_S_release 20 = .ok (.bipush 100, 2) := by decide +kernel
theorem d_S_release_22 : decode b_S_release 22 = .ok (.ireturn, 1) := by decide +kernel
theorem d_S_release_23 : decode b_S_release 23 = .ok (.aload_n 0, 1) := by decide +kernel
theorem d_S_release_24 : decode b_S_release 24 = .ok (.getfield 54, 3) := by decide +kernel
theorem d_S_release_27 : decode b_S_release 27 = .ok (.ifCond .ne 13, 3) := by decide +kernel
theorem d_S_release_30 : decode b_S_release 30 = .ok (.aload_n 0, 1) := by decide +kernel
theorem d_S_release_31 : decode b_S_release 31 = .ok (.getfield 9, 3) := by decide +kernel
theorem d_S_release_34 : decode b_S_release 34 = .ok (.iload_n 2, 1) := by decide +kernel
theorem d_S_release_35 : decode b_S_release 35 = .ok (.iconst (-1), 1) := by decide +kernel
theorem d_S_release_36 : decode b_S_release 36 = .ok (.iastore, 1) := by decide +kernel
theorem d_S_release_37 : decode b_S_release 37 = .ok (.bipush 100, 2) := by decide +kernel
theorem d_S_release_39 : decode b_S_release 39 = .ok (.ireturn, 1) := by decide +kernel
theorem d_S_release_40 : decode b_S_release 40 = .ok (.aload_n 0, 1) := by decide +kernel
theorem d_S_release_41 : decode b_S_release 41 = .ok (.getfield 9, 3) := by decide +kernel
theorem d_S_release_44 : decode b_S_release 44 = .ok (.iload_n 2, 1) := by decide +kernel
theorem d_S_release_45 : decode b_S_release 45 = .ok (.aload_n 0, 1) := by decide +kernel
theorem d_S_release_46 : decode b_S_release 46 = .ok (.getfield 15, 3) := by decide +kernel
theorem d_S_release_49 : decode b_S_release 49 = .ok (.iconst 0, 1) := by decide +kernel
theorem d_S_release_50 : decode b_S_release 50 = .ok (.iaload, 1) := by decide +kernel
theorem d_S_release_51 : decode b_S_release 51 = .ok (.iastore, 1) := by decide +kernel
theorem d_S_release_52 : decode b_S_release 52 = .ok (.aload_n 0, 1) := by decide +kernel
theorem d_S_release_53 : decode b_S_release 53 = .ok (.iconst 0, 1) := by decide +kernel
theorem d_S_release_54 : decode b_S_release 54 = .ok (.invokevirtual 57, 3) := by decide +kernel
theorem d_S_release_57 : decode b_S_release 57 = .ok (.aload_n 0, 1) := by decide +kernel
theorem d_S_release_58 : decode b_S_release 58 = .ok (.getfield 9, 3) := by decide +kernel
theorem d_S_release_61 : decode b_S_release 61 = .ok (.iload_n 2, 1) := by decide +kernel
theorem d_S_release_62 : decode b_S_release 62 = .ok (.iaload, 1) := by decide +kernel
theorem d_S_release_63 : decode b_S_release 63 = .ok (.ireturn, 1) := by decide +kernel
theorem d_S_clear_0 : decode b_S_clear 0 = .ok (.aload_n 0, 1) := by decide +kernel
theorem d_S_clear_1 : decode b_S_clear 1 = .ok (.getfield 9, 3) := by decide +kernel
theorem d_S_clear_4 : decode b_S_clear 4 = .ok (.iconst (-1), 1) := by decide +kernel
theorem d_S_clear_5 : decode b_S_clear 5 = .ok (.invokestatic 31, 3) := by decide +kernel
theorem d_S_clear_8 : decode b_S_clear 8 = .ok (.aload_n 0, 1) := by decide +kernel
theorem d_S_clear_9 : decode b_S_clear 9 = .ok (.iconst 0, 1) := by decide +kernel
theorem d_S_clear_10 : decode b_S_clear 10 = .ok (.putfield 54, 3) := by decide +kernel
theorem d_S_clear_13 : decode b_S_clear 13 = .ok (.return_, 1) := by decide +kernel
theorem d_S_firstSeatWith_0 : decode b_S_firstSeatWith 0 = .ok (.iconst 0, 1) := by decide +kernel
theorem d_S_firstSeatWith_1 : decode b_S_firstSeatWith 1 = .ok (.istore_n 2, 1) := by decide +kernel
theorem d_S_firstSeatWith_2 : decode b_S_firstSeatWith 2 = .ok (.iload_n 2, 1) := by decide +kernel
theorem d_S_firstSeatWith_3 : decode b_S_firstSeatWith 3 = .ok (.aload_n 0, 1) := by decide +kernel
theorem d_S_firstSeatWith_4 : decode b_S_firstSeatWith 4 = .ok (.getfield 27, 3) := by decide +kernel
theorem d_S_firstSeatWith_7 : decode b_S_firstSeatWith 7 = .ok (.if_icmp .ge 21, 3) := by decide +kernel
theorem d_S_firstSeatWith_10 : decode b_S_firstSeatWith 10 = .ok (.aload_n 0, 1) := by decide +kernel
theorem d_S_firstSeatWith_11 : decode b_S_firstSeatWith 11 = .ok (.getfield 9, 3) := by decide +kernel
theorem d_S_firstSeatWith_14 : decode b_S_firstSeatWith 14 = .ok (.iload_n 2, 1) := by decide +kernel
theorem d_S_firstSeatWith_15 : decode b_S_firstSeatWith 15 = .ok (.iaload, 1) := by decide +kernel
theorem d_S_firstSeatWith_16 : decode b_S_firstSeatWith 16 = .ok (.iload_n 1, 1) := by decide +kernel
theorem d_S_firstSeatWith_17 : decode b_S_firstSeatWith 17 = .ok (.if_icmp .ne 5, 3) := by decide +kernel
theorem d_S_firstSeatWith_20 : decode b_S_firstSeatWith 20 = .ok (.iload_n 2, 1) := by decide +kernel
theorem d_S_firstSeatWith_21 : decode b_S_firstSeatWith 21 = .ok (.ireturn, 1) := by decide +kernel
theorem d_S_firstSeatWith_22 : decode b_S_firstSeatWith 22 = .ok (.iinc 2 1, 3) := by decide +kernel
theorem d_S_firstSeatWith_25 : decode b_S_firstSeatWith 25 = .ok (.goto (-23), 3) := by decide +kernel
theorem d_S_firstSeatWith_28 : decode b_S_firstSeatWith 28 = .ok (.iconst (-1), 1) := by decide +kernel
theorem d_S_firstSeatWith_29 : decode b_S_firstSeatWith 29 = .ok (.ireturn, 1) := by decide +kernel
theorem d_S_dropFromRow_0 : decode b_S_dropFromRow 0 = .ok (.iload_n 1, 1) := by decide +kernel
theorem d_S_dropFromRow_1 : decode b_S_dropFromRow 1 = .ok (.iconst 0, 1) := by decide +kernel
theorem d_S_dropFromRow_2 : decode b_S_dropFromRow 2 = .ok (.aload_n 0, 1) := by decide +kernel
theorem d_S_dropFromRow_3 : decode b_S_dropFromRow 3 = .ok (.getfield 54, 3) := by decide +kernel
theorem d_S_dropFromRow_6 : decode b_S_dropFromRow 6 = .ok (.iconst 1, 1) := by decide +kernel
theorem d_S_dropFromRow_7 : decode b_S_dropFromRow 7 = .ok (.isub, 1) := by decide +kernel
theorem d_S_dropFromRow_8 : decode b_S_dropFromRow 8 = .ok (.invokestatic 61, 3) := by decide +kernel
theorem d_S_dropFromRow_11 : decode b_S_dropFromRow 11 = .ok (.ifCond .ne 4, 3) := by decide +kernel
theorem d_S_dropFromRow_14 : decode b_S_dropFromRow 14 = .ok (.return_, 1) := by decide +kernel
theorem d_S_dropFromRow_15 : decode b_S_dropFromRow 15 = .ok (.iload_n 1, 1) := by decide +kernel
theorem d_S_dropFromRow_16 : decode b_S_dropFromRow 16 = .ok (.iconst 1, 1) := by decide +kernel
theorem d_S_dropFromRow_17 : decode b_S_dropFromRow 17 = .ok (.iadd, 1) := by decide +kernel
theorem d_S_dropFromRow_18 : decode b_S_dropFromRow 18 = .ok (.istore_n 2, 1) := by decide +kernel
theorem d_S_dropFromRow_19 : decode b_S_dropFromRow 19 = .ok (.iload_n 2, 1) := by decide +kernel
theorem d_S_dropFromRow_20 : decode b_S_dropFromRow 20 = .ok (.aload_n 0, 1) := by decide +kernel
theorem d_S_dropFromRow_21 : decode b_S_dropFromRow 21 = .ok (.getfield 54, 3) := by decide +kernel
theorem d_S_dropFromRow_24 : decode b_S_dropFromRow 24 = .ok (.if_icmp .ge 23, 3) := by decide +kernel
theorem d_S_dropFromRow_27 : decode b_S_dropFromRow 27 = .ok (.aload_n 0, 1) := by decide +kernel
theorem d_S_dropFromRow_28 : decode b_S_dropFromRow 28 = .ok (.getfield 15, 3) := by decide +kernel
theorem d_S_dropFromRow_31 : decode b_S_dropFromRow 31 = .ok (.iload_n 2, 1) := by decide +kernel
theorem d_S_dropFromRow_32 : decode b_S_dropFromRow 32 = .ok (.iconst 1, 1) := by decide +kernel
theorem d_S_dropFromRow_33 : decode b_S_dropFromRow 33 = .ok (.isub, 1) := by decide +kernel
theorem d_S_dropFromRow_34 : decode b_S_dropFromRow 34 = .ok (.aload_n 0, 1) := by decide +kernel
theorem d_S_dropFromRow_35 : decode b_S_dropFromRow 35 = .ok (.getfield 15, 3) := by decide +kernel
theorem d_S_dropFromRow_38 : decode b_S_dropFromRow 38 = .ok (.iload_n 2, 1) := by decide +kernel
theorem d_S_dropFromRow_39 : decode b_S_dropFromRow 39 = .ok (.iaload, 1) := by decide +kernel
theorem d_S_dropFromRow_40 : decode b_S_dropFromRow 40 = .ok (.iastore, 1) := by decide +kernel
theorem d_S_dropFromRow_41 : decode b_S_dropFromRow 41 = .ok (.iinc 2 1, 3) := by decide +kernel
theorem d_S_dropFromRow_44 : decode b_S_dropFromRow 44 = .ok (.goto (-25), 3) := by decide +kernel
theorem d_S_dropFromRow_47 : decode b_S_dropFromRow 47 = .ok (.aload_n 0, 1) := by decide +kernel
theorem d_S_dropFromRow_48 : decode b_S_dropFromRow 48 = .ok (.dup, 1) := by decide +kernel
theorem d_S_dropFromRow_49 : decode b_S_dropFromRow 49 = .ok (.getfield 54, 3) := by decide +kernel
theorem d_S_dropFromRow_52 : decode b_S_dropFromRow 52 = .ok (.iconst 1, 1) := by decide +kernel
theorem d_S_dropFromRow_53 : decode b_S_dropFromRow 53 = .ok (.isub, 1) := by decide +kernel
theorem d_S_dropFromRow_54 : decode b_S_dropFromRow 54 = .ok (.putfield 54, 3) := by decide +kernel
theorem d_S_dropFromRow_57 : decode b_S_dropFromRow 57 = .ok (.return_, 1) := by decide +kernel
theorem d_JA_fill_0 : decode b_JA_fill 0 = .ok (.iconst 0, 1) := by decide +kernel
theorem d_JA_fill_1 : decode b_JA_fill 1 = .ok (.istore_n 2, 1) := by decide +kernel
theorem d_JA_fill_2 : decode b_JA_fill 2 = .ok (.aload_n 0, 1) := by decide +kernel
theorem d_JA_fill_3 : decode b_JA_fill 3 = .ok (.arraylength, 1) := by decide +kernel
theorem d_JA_fill_4 : decode b_JA_fill 4 = .ok (.istore_n 3, 1) := by decide +kernel
theorem d_JA_fill_5 : decode b_JA_fill 5 = .ok (.iload_n 2, 1) := by decide +kernel
theorem d_JA_fill_6 : decode b_JA_fill 6 = .ok (.iload_n 3, 1) := by decide +kernel
theorem d_JA_fill_7 : decode b_JA_fill 7 = .ok (.if_icmp .ge 13, 3) := by decide +kernel
theorem d_JA_fill_10 : decode b_JA_fill 10 = .ok (.aload_n 0, 1) := by decide +kernel
theorem d_JA_fill_11 : decode b_JA_fill 11 = .ok (.iload_n 2, 1) := by decide +kernel
theorem d_JA_fill_12 : decode b_JA_fill 12 = .ok (.iload_n 1, 1) := by decide +kernel
theorem d_JA_fill_13 : decode b_JA_fill 13 = .ok (.iastore, 1) := by decide +kernel
theorem d_JA_fill_14 : decode b_JA_fill 14 = .ok (.iinc 2 1, 3) := by decide +kernel
theorem d_JA_fill_17 : decode b_JA_fill 17 = .ok (.goto (-12), 3) := by decide +kernel
theorem d_JA_fill_20 : decode b_JA_fill 20 = .ok (.return_, 1) := by decide +kernel
end
section
theorem d_M_init_0 : decode b_M_init 0 = .ok (.aload_n 0, 1) := by decide +kernel
theorem d_M_init_1 : decode b_M_init 1 = .ok (.invokespecial 1, 3) := by decide +kernel
theorem d_M_init_4 : decode b_M_init 4 = .ok (.aload_n 0, 1) := by decide +kernel
theorem d_M_init_5 : decode b_M_init 5 = .ok (.bipush 20, 2) := by decide +kernel
theorem d_M_init_7 : decode b_M_init 7 = .ok (.newarray .int, 2) := by decide +kernel
theorem d_M_init_9 : decode b_M_init 9 = .ok (.putfield 7, 3) := by decide +kernel
theorem d_M_init_12 : decode b_M_init 12 = .ok (.aload_n 0, 1) := by decide +kernel
theorem d_M_init_13 : decode b_M_init 13 = .ok (.bipush 60, 2) := by decide +kernel
theorem d_M_init_15 : decode b_M_init 15 = .ok (.newarray .int, 2) := by decide +kernel
theorem d_M_init_17 : decode b_M_init 17 = .ok (.putfield 13, 3) := by decide +kernel
theorem d_M_init_20 : decode b_M_init 20 = .ok (.aload_n 0, 1) := by decide +kernel
theorem d_M_init_21 : decode b_M_init 21 = .ok (.bipush 60, 2) := by decide +kernel
theorem d_M_init_23 : decode b_M_init 23 = .ok (.newarray .int, 2) := by decide +kernel
theorem d_M_init_25 : decode b_M_init 25 = .ok (.putfield 16, 3) := by decide +kernel
theorem d_M_init_28 : decode b_M_init 28 = .ok (.aload_n 0, 1) := by decide +kernel
theorem d_M_init_29 : decode b_M_init 29 = .ok (.bipush 60, 2) := by decide +kernel
theorem d_M_init_31 : decode b_M_init 31 = .ok (.newarray .int, 2) := by decide +kernel
theorem d_M_init_33 : decode b_M_init 33 = .ok (.putfield 19, 3) := by decide +kernel
theorem d_M_init_36 : decode b_M_init 36 = .ok (.aload_n 0, 1) := by decide +kernel
theorem d_M_init_37 : decode b_M_init 37 = .ok (.bipush 60, 2) := by decide +kernel
theorem d_M_init_39 : decode b_M_init 39 = .ok (.newarray .int, 2) := by decide +kernel
theorem d_M_init_41 : decode b_M_init 41 = .ok (.putfield 22, 3) := by decide +kernel
theorem d_M_init_44 : decode b_M_init 44 = .ok (.aload_n 0, 1) := by decide +kernel
theorem d_M_init_45 : decode b_M_init 45 = .ok (.bipush 60, 2) := by decide +kernel
theorem d_M_init_47 : decode b_M_init 47 = .ok (.newarray .int, 2) := by decide +kernel
theorem d_M_init_49 : decode b_M_init 49 = .ok (.putfield 25, 3) := by decide +kernel
theorem d_M_init_52 : decode b_M_init 52 = .ok (.aload_n 0, 1) := by decide +kernel
theorem d_M_init_53 : decode b_M_init 53 = .ok (.bipush 60, 2) := by decide +kernel
theorem d_M_init_55 : decode b_M_init 55 = .ok (.newarray .int, 2) := by decide +kernel
theorem d_M_init_57 : decode b_M_init 57 = .ok (.putfield 28, 3) := by decide +kernel
theorem d_M_init_60 : decode b_M_init 60 = .ok (.aload_n 0, 1) := by decide +kernel
theorem d_M_init_61 : decode b_M_init 61 = .ok (.bipush 80, 2) := by decide +kernel
theorem d_M_init_63 : decode b_M_init 63 = .ok (.newarray .int, 2) := by decide +kernel
theorem d_M_init_65 : decode b_M_init 65 = .ok (.putfield 31, 3) := by decide +kernel
theorem d_M_init_68 : decode b_M_init 68 = .ok (.aload_n 0, 1) := by decide +kernel
theorem d_M_init_69 : decode b_M_init 69 = .ok (.bipush 80, 2) := by decide +kernel
theorem d_M_init_71 : decode b_M_init 71 = .ok (.newarray .int, 2) := by decide +kernel
theorem d_M_init_73 : decode b_M_init 73 = .ok (.putfield 34, 3) := by decide +kernel
theorem d_M_init_76 : decode b_M_init 76 = .ok (.aload_n 0, 1) := by decide +kernel
theorem d_M_init_77 : decode b_M_init 77 = .ok (.bipush 80, 2) := by decide +kernel
theorem d_M_init_79 : decode b_M_init 79 = .ok (.newarray .int, 2) := by decide +kernel
theorem d_M_init_81 : decode b_M_init 81 = .ok (.putfield 37, 3) := by decide +kernel
theorem d_M_init_84 : decode b_M_init 84 = .ok (.aload_n 0, 1) := by decide +kernel
theorem d_M_init_85 : decode b_M_init 85 = .ok (.bipush 80, 2) := by decide +kernel
theorem d_M_init_87 : decode b_M_init 87 = .ok (.newarray .int, 2) := by decide +kernel
theorem d_M_init_89 : decode b_M_init 89 = .ok (.putfield 40, 3) := by decide +kernel
theorem d_M_init_92 : decode b_M_init 92 = .ok (.aload_n 0, 1) := by decide +kernel
theorem d_M_init_93 : decode b_M_init 93 = .ok (.sipush 300, 3) := by decide +kernel
theorem d_M_init_96 : decode b_M_init 96 = .ok (.newarray .int, 2) := by decide +kernel
theorem d_M_init_98 : decode b_M_init 98 = .ok (.putfield 43, 3) := by decide +kernel
theorem d_M_init_101 : decode b_M_init 101 = .ok (.aload_n 0, 1) := by decide +kernel
theorem d_M_init_102 : decode b_M_init 102 = .ok (.sipush 300, 3) := by decide +kernel
theorem d_M_init_105 : decode b_M_init 105 = .ok (.newarray .int, 2) := by decide +kernel
theorem d_M_init_107 : decode b_M_init 107 = .ok (.putfield 46, 3) := by decide +kernel
theorem d_M_init_110 : decode b_M_init 110 = .ok (.aload_n 0, 1) := by decide +kernel
theorem d_M_init_111 : decode b_M_init 111 = .ok (.sipush 300, 3) := by decide +kernel
theorem d_M_init_114 : decode b_M_init 114 = .ok (.newarray .int, 2) := by decide +kernel
theorem d_M_init_116 : decode b_M_init 116 = .ok (.putfield 49, 3) := by decide +kernel
theorem d_M_init_119 : decode b_M_init 119 = .ok (.aload_n 0, 1) := by decide +kernel
theorem d_M_init_120 : decode b_M_init 120 = .ok (.sipush 300, 3) := by decide +kernel
theorem d_M_init_123 : decode b_M_init 123 = .ok (.newarray .int, 2) := by decide +kernel
theorem d_M_init_125 : decode b_M_init 125 = .ok (.putfield 52, 3) := by decide +kernel
theorem d_M_init_128 : decode b_M_init 128 = .ok (.aload_n 0, 1) := by decide +kernel
theorem d_M_init_129 : decode b_M_init 129 = .ok (.sipush 300, 3) := by decide +kernel
theorem d_M_init_132 : decode b_M_init 132 = .ok (.newarray .int, 2) := by decide +kernel
theorem d_M_init_134 : decode b_M_init 134 = .ok (.putfield 55, 3) := by decide +kernel
theorem d_M_init_137 : decode b_M_init 137 = .ok (.aload_n 0, 1) := by decide +kernel
theorem d_M_init_138 : decode b_M_init 138 = .ok (.sipush 300, 3) := by decide +kernel
theorem d_M_init_141 : decode b_M_init 141 = .ok (.newarray .int, 2) := by decide +kernel
theorem d_M_init_143 : decode b_M_init 143 = .ok (.putfield 58, 3) := by decide +kernel
theorem d_M_init_146 : decode b_M_init 146 = .ok (.aload_n 0, 1) := by decide +kernel
theorem d_M_init_147 : decode b_M_init 147 = .ok (.iload_n 1, 1) := by decide +kernel
theorem d_M_init_148 : decode b_M_init 148 = .ok (.ifCond .ge 7, 3) := by decide +kernel
theorem d_M_init_151 : decode b_M_init 151 = .ok (.iconst 0, 1) := by decide +kernel
theorem d_M_init_152 : decode b_M_init 152 = .ok (.goto 15, 3) := by decide +kernel
theorem d_M_init_155 : decode b_M_init 155 = .ok (.iload_n 1, 1) := by decide +kernel
theorem d_M_init_156 : decode b_M_init 156 = .ok (.bipush 20, 2) := by decide +kernel
theorem d_M_init_158 : decode b_M_init 158 = .ok (.if_icmp .le 8, 3) := by decide +kernel
theorem d_M_init_161 : decode b_M_init 161 = .ok (.bipush 20, 2) := by decide +kernel
theorem d_M_init_163 : decode b_M_init 163 = .ok (.goto 4, 3) := by decide +kernel
theorem d_M_init_166 : decode b_M_init 166 = .ok (.iload_n 1, 1) := by decide +kernel
theorem d_M_init_167 : decode b_M_init 167 = .ok (.putfield 61, 3) := by decide +kernel
theorem d_M_init_170 : decode b_M_init 170 = .ok (.iconst 0, 1) := by decide +kernel
theorem d_M_init_171 : decode b_M_init 171 = .ok (.istore_n 2, 1) := by decide +kernel
theorem d_M_init_172 : decode b_M_init 172 = .ok (.iload_n 2, 1) := by decide +kernel
theorem d_M_init_173 : decode b_M_init 173 = .ok (.bipush 20, 2) := by decide +kernel
theorem d_M_init_175 : decode b_M_init 175 = .ok (.if_icmp .ge 16, 3) := by decide +kernel
theorem d_M_init_178 : decode b_M_init 178 = .ok (.aload_n 0, 1) := by decide +kernel
theorem d_M_init_179 : decode b_M_init 179 = .ok (.getfield 7, 3) := by decide +kernel
theorem d_M_init_182 : decode b_M_init 182 = .ok (.iload_n 2, 1) := by decide +kernel
theorem d_M_init_183 : decode b_M_init 183 = .ok (.iconst (-1), 1) := by decide +kernel
theorem d_M_init_184 : decode b_M_init 184 = .ok (.iastore, 1) := by decide +kernel
theorem d_M_init_185 : decode b_M_init 185 = .ok (.iinc 2 1, 3) := by decide +kernel
theorem d_M_init_188 : decode b_M_init 188 = .ok (.goto (-16), 3) := by decide +kernel
theorem d_M_init_191 : decode b_M_init 191 = .ok (.iconst 0, 1) := by decide +kernel
theorem d_M_init_192 : decode b_M_init 192 = .ok (.istore_n 2, 1) := by decide +kernel
theorem d_M_init_193 : decode b_M_init 193 = .ok (.iload_n 2, 1) := by decide +kernel
theorem d_M_init_194 : decode b_M_init 194 = .ok (.bipush 60, 2) := by decide +kernel
theorem d_M_init_196 : decode b_M_init 196 = .ok (.if_icmp .ge 31, 3) := by decide +kernel
theorem d_M_init_199 : decode b_M_init 199 = .ok (.aload_n 0, 1) := by decide +kernel
theorem d_M_init_200 : decode b_M_init 200 = .ok (.getfield 19, 3) := by decide +kernel
theorem d_M_init_203 : decode b_M_init 203 = .ok (.iload_n 2, 1) := by decide +kernel
theorem d_M_init_204 : decode b_M_init 204 = .ok (.iconst 3, 1) := by decide +kernel
theorem d_M_init_205 : decode b_M_init 205 = .ok (.iastore, 1) := by decide +kernel
theorem d_M_init_206 : decode b_M_init 206 = .ok (.aload_n 0, 1) := by decide +kernel
theorem d_M_init_207 : decode b_M_init 207 = .ok (.getfield 22, 3) := by decide +kernel
theorem d_M_init_210 : decode b_M_init 210 = .ok (.iload_n 2, 1) := by decide +kernel
theorem d_M_init_211 : decode b_M_init 211 = .ok (.bipush 20, 2) := by decide +kernel
theorem d_M_init_213 : decode b_M_init 213 = .ok (.iastore, 1) := by decide +kernel
theorem d_M_init_214 : decode b_M_init 214 = .ok (.aload_n 0, 1) := by decide +kernel
theorem d_M_init_215 : decode b_M_init 215 = .ok (.getfield 28, 3) := by decide +kernel
theorem d_M_init_218 : decode b_M_init 218 = .ok (.iload_n 2, 1) := by decide +kernel
theorem d_M_init_219 : decode b_M_init 219 = .ok (.iconst (-1), 1) := by decide +kernel
theorem d_M_init_220 : decode b_M_init 220 = .ok (.iastore, 1) := by decide +kernel
theorem d_M_init_221 : decode b_M_init 221 = .ok (.iinc 2 1, 3) := by decide +kernel
theorem d_M_init_224 : decode b_M_init 224 = .ok (.goto (-31), 3) := by decide +kernel
theorem d_M_init_227 : decode b_M_init 227 = .ok (.iconst 0, 1) := by decide +kernel
theorem d_M_init_228 : decode b_M_init 228 = .ok (.istore_n 2, 1) := by decide +kernel
theorem d_M_init_229 : decode b_M_init 229 = .ok (.iload_n 2, 1) := by decide +kernel
theorem d_M_init_230 : decode b_M_init 230 = .ok (.bipush 80, 2) := by decide +kernel
theorem d_M_init_232 : decode b_M_init 232 = .ok (.if_icmp .ge 16, 3) := by decide +kernel
theorem d_M_init_235 : decode b_M_init 235 = .ok (.aload_n 0, 1) := by decide +kernel
theorem d_M_init_236 : decode b_M_init 236 = .ok (.getfield 40, 3) := by decide +kernel
theorem d_M_init_239 : decode b_M_init 239 = .ok (.iload_n 2, 1) := by decide +kernel
theorem d_M_init_240 : decode b_M_init 240 = .ok (.iconst (-1), 1) := by decide +kernel
theorem d_M_init_241 : decode b_M_init 241 = .ok (.iastore, 1) := by decide +kernel
theorem d_M_init_242 : decode b_M_init 242 = .ok (.iinc 2 1, 3) := by decide +kernel
theorem d_M_init_245 : decode b_M_init 245 = .ok (.goto (-16), 3) := by decide +kernel
theorem d_M_init_248 : decode b_M_init 248 = .ok (.return_, 1) := by decide +kernel
theorem d_M_thrown_0 : decode b_M_thrown 0 = .ok (.aload_n 0, 1) := by decide +kernel
theorem d_M_thrown_1 : decode b_M_thrown 1 = .ok (.getfield 65, 3) := by decide +kernel
theorem d_M_thrown_4 : decode b_M_thrown 4 = .ok (.ireturn, 1) := by decide +kernel
theorem d_M_in_0 : decode b_M_in 0 = .ok (.iload_n 0, 1) := by decide +kernel
theorem d_M_in_1 : decode b_M_in 1 = .ok (.iload_n 1, 1) := by decide +kernel
theorem d_M_in_2 : decode b_M_in 2 = .ok (.if_icmp .lt 12, 3) := by decide +kernel
theorem d_M_in_5 : decode b_M_in 5 = .ok (.iload_n 0, 1) := by decide +kernel
theorem d_M_in_6 : decode b_M_in 6 = .ok (.iload_n 2, 1) := by decide +kernel
theorem d_M_in_7 : decode b_M_in 7 = .ok (.if_icmp .gt 7, 3) := by decide +kernel
theorem d_M_in_10 : decode b_M_in 10 = .ok (.iconst 1, 1) := by decide +kernel
theorem d_M_in_11 : decode b_M_in 11 = .ok (.goto 4, 3) := by decide +kernel
theorem d_M_in_14 : decode b_M_in 14 = .ok (.iconst 0, 1) := by decide +kernel
theorem d_M_in_15 : decode b_M_in 15 = .ok (.ireturn, 1) := by decide +kernel
theorem d_M_isPerson_0 : decode b_M_isPerson 0 = .ok (.iload_n 0, 1) := by decide +kernel
theorem d_M_isPerson_1 : decode b_M_isPerson 1 = .ok (.iconst 0, 1) := by decide +kernel
theorem d_M_isPerson_2 : decode b_M_isPerson 2 = .ok (.bipush 59, 2) := by decide +kernel
theorem d_M_isPerson_4 : decode b_M_isPerson 4 = .ok (.invokestatic 68, 3) := by decide +kernel
theorem d_M_isPerson_7 : decode b_M_isPerson 7 = .ok (.ireturn, 1) := by decide +kernel
theorem d_M_isUnit_0 : decode b_M_isUnit 0 = .ok (.iload_n 0, 1) := by decide +kernel
theorem d_M_isUnit_1 : decode b_M_isUnit 1 = .ok (.iconst 0, 1) := by decide +kernel
theorem d_M_isUnit_2 : decode b_M_isUnit 2 = .ok (.bipush 79, 2) := by decide +kernel
theorem d_M_isUnit_4 : decode b_M_isUnit 4 = .ok (.invokestatic 68, 3) := by decide +kernel
theorem d_M_isUnit_7 : decode b_M_isUnit 7 = .ok (.ireturn, 1) := by decide +kernel
theorem d_M_isNow_0 : decode b_M_isNow 0 = .ok (.iload_n 1, 1) := by decide +kernel
theorem d_M_isNow_1 : decode b_M_isNow 1 = .ok (.aload_n 0, 1) := by decide +kernel
theorem d_M_isNow_2 : decode b_M_isNow 2 = .ok (.getfield 72, 3) := by decide +kernel
theorem d_M_isNow_5 : decode b_M_isNow 5 = .ok (.ldc 75, 2) := by decide +kernel
theorem d_M_isNow_7 : decode b_M_isNow 7 = .ok (.invokestatic 68, 3) := by decide +kernel
theorem d_M_isNow_10 : decode b_M_isNow 10 = .ok (.ireturn, 1) := by decide +kernel
theorem d_M_seatOf_0 : decode b_M_seatOf 0 = .ok (.iconst 0, 1) := by decide +kernel
theorem d_M_seatOf_1 : decode b_M_seatOf 1 = .ok (.istore_n 2, 1) := by decide +kernel
theorem d_M_seatOf_2 : decode b_M_seatOf 2 = .ok (.iload_n 2, 1) := by decide +kernel
theorem d_M_seatOf_3 : decode b_M_seatOf 3 = .ok (.aload_n 0, 1) := by decide +kernel
theorem d_M_seatOf_4 : decode b_M_seatOf 4 = .ok (.getfield 61, 3) := by decide +kernel
theorem d_M_seatOf_7 : decode b_M_seatOf 7 = .ok (.if_icmp .ge 21, 3) := by decide +kernel
theorem d_M_seatOf_10 : decode b_M_seatOf 10 = .ok (.aload_n 0, 1) := by decide +kernel
theorem d_M_seatOf_11 : decode b_M_seatOf 11 = .ok (.getfield 7, 3) := by decide +kernel
theorem d_M_seatOf_14 : decode b_M_seatOf 14 = .ok (.iload_n 2, 1) := by decide +kernel
theorem d_M_seatOf_15 : decode b_M_seatOf 15 = .ok (.iaload, 1) := by decide +kernel
theorem d_M_seatOf_16 : decode b_M_seatOf 16 = .ok (.iload_n 1, 1) := by decide +kernel
theorem d_M_seatOf_17 : decode b_M_seatOf 17 = .ok (.if_icmp .ne 5, 3) := by decide +kernel
theorem d_M_seatOf_20 : decode b_M_seatOf 20 = .ok (.iload_n 2, 1) := by decide +kernel
theorem d_M_seatOf_21 : decode b_M_seatOf 21 = .ok (.ireturn, 1) := by decide +kernel
theorem d_M_seatOf_22 : decode b_M_seatOf 22 = .ok (.iinc 2 1, 3) := by decide +kernel
theorem d_M_seatOf_25 : decode b_M_seatOf 25 = .ok (.goto (-23), 3) := by decide +kernel
theorem d_M_seatOf_28 : decode b_M_seatOf 28 = .ok (.iconst (-1), 1) := by decide +kernel
theorem d_M_seatOf_29 : decode b_M_seatOf 29 = .ok (.ireturn, 1) := by decide +kernel
theorem d_M_waitOf_0 : decode b_M_waitOf 0 = .ok (.iconst 0, 1) := by decide +kernel
theorem d_M_waitOf_1 : decode b_M_waitOf 1 = .ok (.istore_n 2, 1) := by decide +kernel
theorem d_M_waitOf_2 : decode b_M_waitOf 2 = .ok (.iload_n 2, 1) := by decide +kernel
theorem d_M_waitOf_3 : decode b_M_waitOf 3 = .ok (.aload_n 0, 1) := by decide +kernel
theorem d_M_waitOf_4 : decode b_M_waitOf 4 = .ok (.getfield 76, 3) := by decide +kernel
theorem d_M_waitOf_7 : decode b_M_waitOf 7 = .ok (.if_icmp .ge 21, 3) := by decide +kernel
theorem d_M_waitOf_10 : decode b_M_waitOf 10 = .ok (.aload_n 0, 1) := by decide +kernel
theorem d_M_waitOf_11 : decode b_M_waitOf 11 = .ok (.getfield 13, 3) := by decide +kernel
theorem d_M_waitOf_14 : decode b_M_waitOf 14 = .ok (.iload_n 2, 1) := by decide +kernel
theorem d_M_waitOf_15 : decode b_M_waitOf 15 = .ok (.iaload, 1) := by decide +kernel
theorem d_M_waitOf_16 : decode b_M_waitOf 16 = .ok (.iload_n 1, 1) := by decide +kernel
theorem d_M_waitOf_17 : decode b_M_waitOf 17 = .ok (.if_icmp .ne 5, 3) := by decide +kernel
theorem d_M_waitOf_20 : decode b_M_waitOf 20 = .ok (.iload_n 2, 1) := by decide +kernel
theorem d_M_waitOf_21 : decode b_M_waitOf 21 = .ok (.ireturn, 1) := by decide +kernel
theorem d_M_waitOf_22 : decode b_M_waitOf 22 = .ok (.iinc 2 1, 3) := by decide +kernel
theorem d_M_waitOf_25 : decode b_M_waitOf 25 = .ok (.goto (-23), 3) := by decide +kernel
theorem d_M_waitOf_28 : decode b_M_waitOf 28 = .ok (.iconst (-1), 1) := by decide +kernel
theorem d_M_waitOf_29 : decode b_M_waitOf 29 = .ok (.ireturn, 1) := by decide +kernel
theorem d_M_has_0 : decode b_M_has 0 = .ok (.iconst 0, 1) := by decide +kernel
theorem d_M_has_1 : decode b_M_has 1 = .ok (.istore_n 2, 1) := by decide +kernel
theorem d_M_has_2 : decode b_M_has 2 = .ok (.iconst 0, 1) := by decide +kernel
theorem d_M_has_3 : decode b_M_has 3 = .ok (.istore_n 3, 1) := by decide +kernel
theorem d_M_has_4 : decode b_M_has 4 = .ok (.iload_n 3, 1) := by decide +kernel
theorem d_M_has_5 : decode b_M_has 5 = .ok (.bipush 80, 2) := by decide +kernel
theorem d_M_has_7 : decode b_M_has 7 = .ok (.if_icmp .ge 42, 3) := by decide +kernel
theorem d_M_has_10 : decode b_M_has 10 = .ok (.iload_n 2, 1) := by decide +kernel
theorem d_M_has_11 : decode b_M_has 11 = .ok (.aload_n 0, 1) := by decide +kernel
theorem d_M_has_12 : decode b_M_has 12 = .ok (.getfield 31, 3) := by decide +kernel
theorem d_M_has_15 : decode b_M_has 15 = .ok (.iload_n 3, 1) := by decide +kernel
theorem d_M_has_16 : decode b_M_has 16 = .ok (.iaload, 1) := by decide +kernel
theorem d_M_has_17 : decode b_M_has 17 = .ok (.iconst 2, 1) := by decide +kernel
theorem d_M_has_18 : decode b_M_has 18 = .ok (.if_icmp .ne 22, 3) := by decide +kernel
theorem d_M_has_21 : decode b_M_has 21 = .ok (.aload_n 0, 1) := by decide +kernel
theorem d_M_has_22 : decode b_M_has 22 = .ok (.getfield 43, 3) := by decide +kernel
theorem d_M_has_25 : decode b_M_has 25 = .ok (.aload_n 0, 1) := by decide +kernel
theorem d_M_has_26 : decode b_M_has 26 = .ok (.getfield 40, 3) := by decide +kernel
theorem d_M_has_29 : decode b_M_has 29 = .ok (.iload_n 3, 1) := by decide +kernel
theorem d_M_has_30 : decode b_M_has 30 = .ok (.iaload, 1) := by decide +kernel
theorem d_M_has_31 : decode b_M_has 31 = .ok (.iaload, 1) := by decide +kernel
theorem d_M_has_32 : decode b_M_has 32 = .ok (.iload_n 1, 1) := by decide +kernel
theorem d_M_has_33 : decode b_M_has 33 = .ok (.if_icmp .ne 7, 3) := by decide +kernel
theorem d_M_has_36 : decode b_M_has 36 = .ok (.iconst 1, 1) := by decide +kernel
theorem d_M_has_37 : decode b_M_has 37 = .ok (.goto 4, 3) := by decide +kernel
theorem d_M_has_40 : decode b_M_has 40 = .ok (.iconst 0, 1) := by decide +kernel
theorem d_M_has_41 : decode b_M_has 41 = .ok (.iadd, 1) := by decide +kernel
theorem d_M_has_42 : decode b_M_has 42 = .ok (.istore_n 2, 1) := by decide +kernel
theorem d_M_has_43 : decode b_M_has 43 = .ok (.iinc 3 1, 3) := by decide +kernel
theorem d_M_has_46 : decode b_M_has 46 = .ok (.goto (-42), 3) := by decide +kernel
theorem d_M_has_49 : decode b_M_has 49 = .ok (.iload_n 2, 1) := by decide +kernel
theorem d_M_has_50 : decode b_M_has 50 = .ok (.ireturn, 1) := by decide +kernel
theorem d_M_come_0 : decode b_M_come 0 = .ok (.aload_n 0, 1) := by decide +kernel
theorem d_M_come_1 : decode b_M_come 1 = .ok (.iconst 0, 1) := by decide +kernel
theorem d_M_come_2 : decode b_M_come 2 = .ok (.putfield 65, 3) := by decide +kernel
theorem d_M_come_5 : decode b_M_come 5 = .ok (.iload_n 1, 1) := by decide +kernel
theorem d_M_come_6 : decode b_M_come 6 = .ok (.invokestatic 79, 3) := by decide +kernel
theorem d_M_come_9 : decode b_M_come 9 = .ok (.ifCond .ne 5, 3) := by decide +kernel
theorem d_M_come_12 : decode b_M_come 12 = .ok (.iconst (-1), 1) := by decide +kernel
theorem d_M_come_13 : decode b_M_come 13 = .ok (.ireturn, 1) := by decide +kernel
theorem d_M_come_14 : decode b_M_come 14 = .ok (.aload_n 0, 1) := by decide +kernel
theorem d_M_come_15 : decode b_M_come 15 = .ok (.iload_n 1, 1) := by decide +kernel
theorem d_M_come_16 : decode b_M_come 16 = .ok (.invokevirtual 83, 3) := by decide +kernel
theorem d_M_come_19 : decode b_M_come 19 = .ok (.ifCond .ge 11, 3) := by decide +kernel
theorem d_M_come_22 : decode b_M_come 22 = .ok (.aload_n 0, 1) := by decide +kernel
theorem d_M_come_23 : decode b_M_come 23 = .ok (.iload_n 1, 1) := by decide +kernel
theorem d_M_come_24 : decode b_M_come 24 = .ok (.invokevirtual 87, 3) := by decide +kernel
theorem d_M_come_27 : decode b_M_come 27 = .ok (.ifCond .lt 6, 3) := by decide +kernel
theorem d_M_come_30 : decode b_M_come 30 = .ok (.bipush (-3), 2) := by decide +kernel
theorem d_M_come_32 : decode b_M_come 32 = .ok (.ireturn, 1) := by decide +kernel
theorem d_M_come_33 : decode b_M_come 33 = .ok (.aload_n 0, 1) := by decide +kernel
theorem d_M_come_34 : decode b_M_come 34 = .ok (.iconst (-1), 1) := by decide +kernel
theorem d_M_come_35 : decode b_M_come 35 = .ok (.invokevirtual 83, 3) := by decide +kernel
theorem d_M_come_38 : decode b_M_come 38 = .ok (.istore_n 2, 1) := by decide +kernel
theorem d_M_come_39 : decode b_M_come 39 = .ok (.iload_n 2, 1) := by decide +kernel
theorem d_M_come_40 : decode b_M_come 40 = .ok (.ifCond .lt 12, 3) := by decide +kernel
theorem d_M_come_43 : decode b_M_come 43 = .ok (.aload_n 0, 1) := by decide +kernel
theorem d_M_come_44 : decode b_M_come 44 = .ok (.getfield 7, 3) := by decide +kernel
theorem d_M_come_47 : decode b_M_come 47 = .ok (.iload_n 2, 1) := by decide +kernel
theorem d_M_come_48 : decode b_M_come 48 = .ok (.iload_n 1, 1) := by decide +kernel
theorem d_M_come_49 : decode b_M_come 49 = .ok (.iastore, 1) := by decide +kernel
theorem d_M_come_50 : decode b_M_come 50 = .ok (.iload_n 2, 1) := by decide +kernel
theorem d_M_come_51 : decode b_M_come 51 = .ok (.ireturn, 1) := by decide +kernel
theorem d_M_come_52 : decode b_M_come 52 = .ok (.aload_n 0, 1) := by decide +kernel
theorem d_M_come_53 : decode b_M_come 53 = .ok (.getfield 13, 3) := by decide +kernel
theorem d_M_come_56 : decode b_M_come 56 = .ok (.aload_n 0, 1) := by decide +kernel
theorem d_M_come_57 : decode b_M_come 57 = .ok (.getfield 76, 3) := by decide +kernel
theorem d_M_come_60 : decode b_M_come 60 = .ok (.iload_n 1, 1) := by decide +kernel
theorem d_M_come_61 : decode b_M_come 61 = .ok (.iastore, 1) := by decide +kernel
theorem d_M_come_62 : decode b_M_come 62 = .ok (.aload_n 0, 1) := by decide +kernel
theorem d_M_come_63 : decode b_M_come 63 = .ok (.dup, 1) := by decide +kernel
theorem d_M_come_64 : decode b_M_come 64 = .ok (.getfield 76, 3) := by decide +kernel
theorem d_M_come_67 : decode b_M_come 67 = .ok (.iconst 1, 1) := by decide +kernel
theorem d_M_come_68 : decode b_M_come 68 = .ok (.iadd, 1) := by decide +kernel
theorem d_M_come_69 : decode b_M_come 69 = .ok (.putfield 76, 3) := by decide +kernel
theorem d_M_come_72 : decode b_M_come 72 = .ok (.bipush (-10), 2) := by decide +kernel
theorem d_M_come_74 : decode b_M_come 74 = .ok (.aload_n 0, 1) := by decide +kernel
theorem d_M_come_75 : decode b_M_come 75 = .ok (.getfield 76, 3) := by decide +kernel
theorem d_M_come_78 : decode b_M_come 78 = .ok (.iconst 1, 1) := by decide +kernel
theorem d_M_come_79 : decode b_M_come 79 = .ok (.isub, 1) := by decide +kernel
theorem d_M_come_80 : decode b_M_come 80 = .ok (.isub, 1) := by decide +kernel
theorem d_M_come_81 : decode b_M_come 81 = .ok (.ireturn, 1) := by decide +kernel
theorem d_M_leaveRow_0 : decode b_M_leaveRow 0 = .ok (.aload_n 0, 1) := by decide +kernel
theorem d_M_leaveRow_1 : decode b_M_leaveRow 1 = .ok (.dup, 1) := by decide +kernel
theorem d_M_leaveRow_2 : decode b_M_leaveRow 2 = .ok (.getfield 76, 3) := by decide +kernel
theorem d_M_leaveRow_5 : decode b_M_leaveRow 5 = .ok (.iconst 1, 1) := by decide +kernel
theorem d_M_leaveRow_6 : decode b_M_leaveRow 6 = .ok (.isub, 1) := by decide +kernel
theorem d_M_leaveRow_7 : decode b_M_leaveRow 7 = .ok (.putfield 76, 3) := by decide +kernel
theorem d_M_leaveRow_10 : decode b_M_leaveRow 10 = .ok (.iload_n 1, 1) := by decide +kernel
theorem d_M_leaveRow_11 : decode b_M_leaveRow 11 = .ok (.istore_n 2, 1) := by decide +kernel
theorem d_M_leaveRow_12 : decode b_M_leaveRow 12 = .ok (.iload_n 2, 1) := by decide +kernel
theorem d_M_leaveRow_13 : decode b_M_leaveRow 13 = .ok (.aload_n 0, 1) := by decide +kernel
theorem d_M_leaveRow_14 : decode b_M_leaveRow 14 = .ok (.getfield 76, 3) := by decide +kernel
theorem d_M_leaveRow_17 : decode b_M_leaveRow 17 = .ok (.if_icmp .ge 23, 3) := by decide +kernel
theorem d_M_leaveRow_20 : decode b_M_leaveRow 20 = .ok (.aload_n 0, 1) := by decide +kernel
theorem d_M_leaveRow_21 : decode b_M_leaveRow 21 = .ok (.getfield 13, 3) := by decide +kernel
theorem d_M_leaveRow_24 : decode b_M_leaveRow 24 = .ok (.iload_n 2, 1) := by decide +kernel
theorem d_M_leaveRow_25 : decode b_M_leaveRow 25 = .ok (.aload_n 0, 1) := by decide +kernel
theorem d_M_leaveRow_26 : decode b_M_leaveRow 26 = .ok (.getfield 13, 3) := by decide +kernel
theorem d_M_leaveRow_29 : decode b_M_leaveRow 29 = .ok (.iload_n 2, 1) := by decide +kernel
theorem d_M_leaveRow_30 : decode b_M_leaveRow 30 = .ok (.iconst 1, 1) := by decide +kernel
theorem d_M_leaveRow_31 : decode b_M_leaveRow 31 = .ok (.iadd, 1) := by decide +kernel
theorem d_M_leaveRow_32 : decode b_M_leaveRow 32 = .ok (.iaload, 1) := by decide +kernel
theorem d_M_leaveRow_33 : decode b_M_leaveRow 33 = .ok (.iastore, 1) := by decide +kernel
theorem d_M_leaveRow_34 : decode b_M_leaveRow 34 = .ok (.iinc 2 1, 3) := by decide +kernel
theorem d_M_leaveRow_37 : decode b_M_leaveRow 37 = .ok (.goto (-25), 3) := by decide +kernel
theorem d_M_leaveRow_40 : decode b_M_leaveRow 40 = .ok (.return_, 1) := by decide +kernel
theorem d_M_leave_0 : decode b_M_leave 0 = .ok (.aload_n 0, 1) := by decide +kernel
theorem d_M_leave_1 : decode b_M_leave 1 = .ok (.iconst 0, 1) := by decide +kernel
theorem d_M_leave_2 : decode b_M_leave 2 = .ok (.putfield 65, 3) := by decide +kernel
theorem d_M_leave_5 : decode b_M_leave 5 = .ok (.iload_n 1, 1) := by decide +kernel
theorem d_M_leave_6 : decode b_M_leave 6 = .ok (.invokestatic 79, 3) := by decide +kernel
theorem d_M_leave_9 : decode b_M_leave 9 = .ok (.ifCond .ne 5, 3) := by decide +kernel
theorem d_M_leave_12 : decode b_M_leave 12 = .ok (.iconst (-1), 1) := by decide +kernel
theorem d_M_leave_13 : decode b_M_leave 13 = .ok (.ireturn, 1) := by decide +kernel
theorem d_M_leave_14 : decode b_M_leave 14 = .ok (.aload_n 0, 1) := by decide +kernel
theorem d_M_leave_15 : decode b_M_leave 15 = .ok (.iload_n 1, 1) := by decide +kernel
theorem d_M_leave_16 : decode b_M_leave 16 = .ok (.invokevirtual 83, 3) := by decide +kernel
theorem d_M_leave_19 : decode b_M_leave 19 = .ok (.istore_n 2, 1) := by decide +kernel
theorem d_M_leave_20 : decode b_M_leave 20 = .ok (.aload_n 0, 1) := by decide +kernel
theorem d_M_leave_21 : decode b_M_leave 21 = .ok (.iload_n 1, 1) := by decide +kernel
theorem d_M_leave_22 : decode b_M_leave 22 = .ok (.invokevirtual 87, 3) := by decide +kernel
theorem d_M_leave_25 : decode b_M_leave 25 = .ok (.istore_n 3, 1) := by decide +kernel
theorem d_M_leave_26 : decode b_M_leave 26 = .ok (.iload_n 2, 1) := by decide +kernel
theorem d_M_leave_27 : decode b_M_leave 27 = .ok (.ifCond .ge 7, 3) := by decide +kernel
theorem d_M_leave_30 : decode b_M_leave 30 = .ok (.iload_n 3, 1) := by decide +kernel
theorem d_M_leave_31 : decode b_M_leave 31 = .ok (.ifCond .lt 11, 3) := by decide +kernel
theorem d_M_leave_34 : decode b_M_leave 34 = .ok (.aload_n 0, 1) := by decide +kernel
theorem d_M_leave_35 : decode b_M_leave 35 = .ok (.iload_n 1, 1) := by decide +kernel
theorem d_M_leave_36 : decode b_M_leave 36 = .ok (.invokevirtual 90, 3) := by decide +kernel
theorem d_M_leave_39 : decode b_M_leave 39 = .ok (.ifCond .le 6, 3) := by decide +kernel
theorem d_M_leave_42 : decode b_M_leave 42 = .ok (.bipush (-3), 2) := by decide +kernel
theorem d_M_leave_44 : decode b_M_leave 44 = .ok (.ireturn, 1) := by decide +kernel
theorem d_M_leave_45 : decode b_M_leave 45 = .ok (.iload_n 3, 1) := by decide +kernel
theorem d_M_leave_46 : decode b_M_leave 46 = .ok (.ifCond .lt 11, 3) := by decide +kernel
theorem d_M_leave_49 : decode b_M_leave 49 = .ok (.aload_n 0, 1) := by decide +kernel
theorem d_M_leave_50 : decode b_M_leave 50 = .ok (.iload_n 3, 1) := by decide +kernel
theorem d_M_leave_51 : decode b_M_leave 51 = .ok (.invokevirtual 93, 3) := by decide +kernel
theorem d_M_leave_54 : decode b_M_leave 54 = .ok (.bipush 100, 2) := by decide +kernel
theorem d_M_leave_56 : decode b_M_leave 56 = .ok (.ireturn, 1) := by decide +kernel
theorem d_M_leave_57 : decode b_M_leave 57 = .ok (.aload_n 0, 1) := by decide +kernel
theorem d_M_leave_58 : decode b_M_leave 58 = .ok (.getfield 7, 3) := by decide +kernel
theorem d_M_leave_61 : decode b_M_leave 61 = .ok (.iload_n 2, 1) := by decide +kernel
theorem d_M_leave_62 : decode b_M_leave 62 = .ok (.aload_n 0, 1) := by decide +kernel
theorem d_M_leave_63 : decode b_M_leave 63 = .ok (.getfield 76, 3) := by decide +kernel
theorem d_M_leave_66 : decode b_M_leave 66 = .ok (.ifCond .le 12, 3) := by decide +kernel
theorem d_M_leave_69 : decode b_M_leave 69 = .ok (.aload_n 0, 1) := by decide +kernel
theorem d_M_leave_70 : decode b_M_leave 70 = .ok (.getfield 13, 3) := by decide +kernel
theorem d_M_leave_73 : decode b_M_leave 73 = .ok (.iconst 0, 1) := by decide +kernel
theorem d_M_leave_74 : decode b_M_leave 74 = .ok (.iaload, 1) := by decide +kernel
theorem d_M_leave_75 : decode b_M_leave 75 = .ok (.goto 4, 3) := by decide +kernel
theorem d_M_leave_78 : decode b_M_leave 78 = .ok (.iconst (-1), 1) := by decide +kernel
theorem d_M_leave_79 : decode b_M_leave 79 = .ok (.iastore, 1) := by decide +kernel
theorem d_M_leave_80 : decode b_M_leave 80 = .ok (.aload_n 0, 1) := by decide +kernel
theorem d_M_leave_81 : decode b_M_leave 81 = .ok (.getfield 76, 3) := by decide +kernel
theorem d_M_leave_84 : decode b_M_leave 84 = .ok (.ifCond .le 8, 3) := by decide +kernel
theorem d_M_leave_87 : decode b_M_leave 87 = .ok (.aload_n 0, 1) := by decide +kernel
theorem d_M_leave_88 : decode b_M_leave 88 = .ok (.iconst 0, 1) := by decide +kernel
theorem d_M_leave_89 : decode b_M_leave 89 = .ok (.invokevirtual 93, 3) := by decide +kernel
theorem d_M_leave_92 : decode b_M_leave 92 = .ok (.aload_n 0, 1) := by decide +kernel
theorem d_M_leave_93 : decode b_M_leave 93 = .ok (.getfield 7, 3) := by decide +kernel
theorem d_M_leave_96 : decode b_M_leave 96 = .ok (.iload_n 2, 1) := by decide +kernel
theorem d_M_leave_97 : decode b_M_leave 97 = .ok (.iaload, 1) := by decide +kernel
theorem d_M_leave_98 : decode b_M_leave 98 = .ok (.ifCond .ge 8, 3) := by decide +kernel
theorem d_M_leave_101 : decode b_M_leave 101 = .ok (.bipush 100, 2) := by decide +kernel
theorem d_M_leave_103 : decode b_M_leave 103 = .ok (.goto 9, 3) := by decide +kernel
theorem d_M_leave_106 : decode b_M_leave 106 = .ok (.aload_n 0, 1) := by decide +kernel
theorem d_M_leave_107 : decode b_M_leave 107 = .ok (.getfield 7, 3) := by decide +kernel
theorem d_M_leave_110 : decode b_M_leave 110 = .ok (.iload_n 2, 1) := by decide +kernel
theorem d_M_leave_111 : decode b_M_leave 111 = .ok (.iaload, 1) := by decide +kernel
theorem d_M_leave_112 : decode b_M_leave 112 = .ok (.ireturn, 1) := by decide +kernel
theorem d_M_right_0 : decode b_M_right 0 = .ok (.aload_n 0, 1) := by decide +kernel
theorem d_M_right_1 : decode b_M_right 1 = .ok (.iconst 0, 1) := by decide +kernel
theorem d_M_right_2 : decode b_M_right 2 = .ok (.putfield 65, 3) := by decide +kernel
theorem d_M_right_5 : decode b_M_right 5 = .ok (.iload_n 1, 1) := by decide +kernel
theorem d_M_right_6 : decode b_M_right 6 = .ok (.invokestatic 79, 3) := by decide +kernel
theorem d_M_right_9 : decode b_M_right 9 = .ok (.ifCond .ne 5, 3) := by decide +kernel
theorem d_M_right_12 : decode b_M_right 12 = .ok (.iconst (-1), 1) := by decide +kernel
theorem d_M_right_13 : decode b_M_right 13 = .ok (.ireturn, 1) := by decide +kernel
theorem d_M_right_14 : decode b_M_right 14 = .ok (.iload_n 2, 1) := by decide +kernel
theorem d_M_right_15 : decode b_M_right 15 = .ok (.iconst 0, 1) := by decide +kernel
theorem d_M_right_16 : decode b_M_right 16 = .ok (.iconst 3, 1) := by decide +kernel
theorem d_M_right_17 : decode b_M_right 17 = .ok (.invokestatic 68, 3) := by decide +kernel
theorem d_M_right_20 : decode b_M_right 20 = .ok (.ifCond .ne 6, 3) := by decide +kernel
theorem d_M_right_23 : decode b_M_right 23 = .ok (.bipush (-2), 2) := by decide +kernel
theorem d_M_right_25 : decode b_M_right 25 = .ok (.ireturn, 1) := by decide +kernel
theorem d_M_right_26 : decode b_M_right 26 = .ok (.aload_n 0, 1) := by decide +kernel
theorem d_M_right_27 : decode b_M_right 27 = .ok (.getfield 16, 3) := by decide +kernel
theorem d_M_right_30 : decode b_M_right 30 = .ok (.iload_n 1, 1) := by decide +kernel
theorem d_M_right_31 : decode b_M_right 31 = .ok (.iload_n 2, 1) := by decide +kernel
theorem d_M_right_32 : decode b_M_right 32 = .ok (.iastore, 1) := by decide +kernel
theorem d_M_right_33 : decode b_M_right 33 = .ok (.iconst 1, 1) := by decide +kernel
theorem d_M_right_34 : decode b_M_right 34 = .ok (.ireturn, 1) := by decide +kernel
theorem d_M_limit_0 : decode b_M_limit 0 = .ok (.aload_n 0, 1) := by decide +kernel
theorem d_M_limit_1 : decode b_M_limit 1 = .ok (.iconst 0, 1) := by decide +kernel
theorem d_M_limit_2 : decode b_M_limit 2 = .ok (.putfield 65, 3) := by decide +kernel
theorem d_M_limit_5 : decode b_M_limit 5 = .ok (.iload_n 1, 1) := by decide +kernel
theorem d_M_limit_6 : decode b_M_limit 6 = .ok (.invokestatic 79, 3) := by decide +kernel
theorem d_M_limit_9 : decode b_M_limit 9 = .ok (.ifCond .ne 5, 3) := by decide +kernel
theorem d_M_limit_12 : decode b_M_limit 12 = .ok (.iconst (-1), 1) := by decide +kernel
theorem d_M_limit_13 : decode b_M_limit 13 = .ok (.ireturn, 1) := by decide +kernel
theorem d_M_limit_14 : decode b_M_limit 14 = .ok (.iload_n 2, 1) := by decide +kernel
theorem d_M_limit_15 : decode b_M_limit 15 = .ok (.iconst 0, 1) := by decide +kernel
theorem d_M_limit_16 : decode b_M_limit 16 = .ok (.bipush 9, 2) := by decide +kernel
theorem d_M_limit_18 : decode b_M_limit 18 = .ok (.invokestatic 68, 3) := by decide +kernel
theorem d_M_limit_21 : decode b_M_limit 21 = .ok (.ifCond .eq 14, 3) := by decide +kernel
theorem d_M_limit_24 : decode b_M_limit 24 = .ok (.iload_n 3, 1) := by decide +kernel
theorem d_M_limit_25 : decode b_M_limit 25 = .ok (.iconst 0, 1) := by decide +kernel
theorem d_M_limit_26 : decode b_M_limit 26 = .ok (.sipush 500, 3) := by decide +kernel
theorem d_M_limit_29 : decode b_M_limit 29 = .ok (.invokestatic 68, 3) := by decide +kernel
theorem d_M_limit_32 : decode b_M_limit 32 = .ok (.ifCond .ne 6, 3) := by decide +kernel
theorem d_M_limit_35 : decode b_M_limit 35 = .ok (.bipush (-2), 2) := by decide +kernel
theorem d_M_limit_37 : decode b_M_limit 37 = .ok (.ireturn, 1) := by decide +kernel
theorem d_M_limit_38 : decode b_M_limit 38 = .ok (.aload_n 0, 1) := by decide +kernel
theorem d_M_limit_39 : decode b_M_limit 39 = .ok (.getfield 19, 3) := by decide +kernel
theorem d_M_limit_42 : decode b_M_limit 42 = .ok (.iload_n 1, 1) := by decide +kernel
theorem d_M_limit_43 : decode b_M_limit 43 = .ok (.iload_n 2, 1) := by decide +kernel
theorem d_M_limit_44 : decode b_M_limit 44 = .ok (.iastore, 1) := by decide +kernel
theorem d_M_limit_45 : decode b_M_limit 45 = .ok (.aload_n 0, 1) := by decide +kernel
theorem d_M_limit_46 : decode b_M_limit 46 = .ok (.getfield 22, 3) := by decide +kernel
theorem d_M_limit_49 : decode b_M_limit 49 = .ok (.iload_n 1, 1) := by decide +kernel
theorem d_M_limit_50 : decode b_M_limit 50 = .ok (.iload_n 3, 1) := by decide +kernel
theorem d_M_limit_51 : decode b_M_limit 51 = .ok (.iastore, 1) := by decide +kernel
theorem d_M_limit_52 : decode b_M_limit 52 = .ok (.iconst 1, 1) := by decide +kernel
theorem d_M_limit_53 : decode b_M_limit 53 = .ok (.ireturn, 1) := by decide +kernel
theorem d_M_lives_0 : decode b_M_lives 0 = .ok (.aload_n 0, 1) := by decide +kernel
theorem d_M_lives_1 : decode b_M_lives 1 = .ok (.getfield 49, 3) := by decide +kernel
theorem d_M_lives_4 : decode b_M_lives 4 = .ok (.iload_n 1, 1) := by decide +kernel
theorem d_M_lives_5 : decode b_M_lives 5 = .ok (.iaload, 1) := by decide +kernel
theorem d_M_lives_6 : decode b_M_lives 6 = .ok (.iconst 3, 1) := by decide +kernel
theorem d_M_lives_7 : decode b_M_lives 7 = .ok (.if_icmp .ge 7, 3) := by decide +kernel
theorem d_M_lives_10 : decode b_M_lives 10 = .ok (.iconst 1, 1) := by decide +kernel
theorem d_M_lives_11 : decode b_M_lives 11 = .ok (.goto 4, 3) := by decide +kernel
theorem d_M_lives_14 : decode b_M_lives 14 = .ok (.iconst 0, 1) := by decide +kernel
theorem d_M_lives_15 : decode b_M_lives 15 = .ok (.ireturn, 1) := by decide +kernel
theorem d_M_living_0 : decode b_M_living 0 = .ok (.iconst 0, 1) := by decide +kernel
theorem d_M_living_1 : decode b_M_living 1 = .ok (.istore_n 2, 1) := by decide +kernel
theorem d_M_living_2 : decode b_M_living 2 = .ok (.iconst 0, 1) := by decide +kernel
theorem d_M_living_3 : decode b_M_living 3 = .ok (.istore_n 3, 1) := by decide +kernel
theorem d_M_living_4 : decode b_M_living 4 = .ok (.iload_n 3, 1) := by decide +kernel
theorem d_M_living_5 : decode b_M_living 5 = .ok (.aload_n 0, 1) := by decide +kernel
theorem d_M_living_6 : decode b_M_living 6 = .ok (.getfield 97, 3) := by decide +kernel
theorem d_M_living_9 : decode b_M_living 9 = .ok (.if_icmp .ge 35, 3) := by decide +kernel
theorem d_M_living_12 : decode b_M_living 12 = .ok (.iload_n 2, 1) := by decide +kernel
theorem d_M_living_13 : decode b_M_living 13 = .ok (.aload_n 0, 1) := by decide +kernel
theorem d_M_living_14 : decode b_M_living 14 = .ok (.getfield 43, 3) := by decide +kernel
theorem d_M_living_17 : decode b_M_living 17 = .ok (.iload_n 3, 1) := by decide +kernel
theorem d_M_living_18 : decode b_M_living 18 = .ok (.iaload, 1) := by decide +kernel
theorem d_M_living_19 : decode b_M_living 19 = .ok (.iload_n 1, 1) := by decide +kernel
theorem d_M_living_20 : decode b_M_living 20 = .ok (.if_icmp .ne 15, 3) := by decide +kernel
theorem d_M_living_23 : decode b_M_living 23 = .ok (.aload_n 0, 1) := by decide +kernel
theorem d_M_living_24 : decode b_M_living 24 = .ok (.iload_n 3, 1) := by decide +kernel
theorem d_M_living_25 : decode b_M_living 25 = .ok (.invokevirtual 100, 3) := by decide +kernel
theorem d_M_living_28 : decode b_M_living 28 = .ok (.ifCond .eq 7, 3) := by decide +kernel
theorem d_M_living_31 : decode b_M_living 31 = .ok (.iconst 1, 1) := by decide +kernel
theorem d_M_living_32 : decode b_M_living 32 = .ok (.goto 4, 3) := by decide +kernel
theorem d_M_living_35 : decode b_M_living 35 = .ok (.iconst 0, 1) := by decide +kernel
theorem d_M_living_36 : decode b_M_living 36 = .ok (.iadd, 1) := by decide +kernel
theorem d_M_living_37 : decode b_M_living 37 = .ok (.istore_n 2, 1) := by decide +kernel
theorem d_M_living_38 : decode b_M_living 38 = .ok (.iinc 3 1, 3) := by decide +kernel
theorem d_M_living_41 : decode b_M_living 41 = .ok (.goto (-37), 3) := by decide +kernel
theorem d_M_living_44 : decode b_M_living 44 = .ok (.iload_n 2, 1) := by decide +kernel
theorem d_M_living_45 : decode b_M_living 45 = .ok (.ireturn, 1) := by decide +kernel
end
section
theorem d_M_ahead_0 : decode b_M_ahead 0 = .ok (.iconst 0, 1) := by decide +kernel
theorem d_M_ahead_1 : decode b_M_ahead 1 = .ok (.istore_n 2, 1) := by decide +kernel
theorem d_M_ahead_2 : decode b_M_ahead 2 = .ok (.iload_n 2, 1) := by decide +kernel
theorem d_M_ahead_3 : decode b_M_ahead 3 = .ok (.aload_n 0, 1) := by decide +kernel
theorem d_M_ahead_4 : decode b_M_ahead 4 = .ok (.getfield 97, 3) := by decide +kernel
theorem d_M_ahead_7 : decode b_M_ahead 7 = .ok (.if_icmp .ge 30, 3) := by decide +kernel
theorem d_M_ahead_10 : decode b_M_ahead 10 = .ok (.aload_n 0, 1) := by decide +kernel
theorem d_M_ahead_11 : decode b_M_ahead 11 = .ok (.getfield 46, 3) := by decide +kernel
theorem d_M_ahead_14 : decode b_M_ahead 14 = .ok (.iload_n 2, 1) := by decide +kernel
theorem d_M_ahead_15 : decode b_M_ahead 15 = .ok (.iaload, 1) := by decide +kernel
theorem d_M_ahead_16 : decode b_M_ahead 16 = .ok (.iload_n 1, 1) := by decide +kernel
theorem d_M_ahead_17 : decode b_M_ahead 17 = .ok (.if_icmp .ne 14, 3) := by decide +kernel
theorem d_M_ahead_20 : decode b_M_ahead 20 = .ok (.aload_n 0, 1) := by decide +kernel
theorem d_M_ahead_21 : decode b_M_ahead 21 = .ok (.getfield 49, 3) := by decide +kernel
theorem d_M_ahead_24 : decode b_M_ahead 24 = .ok (.iload_n 2, 1) := by decide +kernel
theorem d_M_ahead_25 : decode b_M_ahead 25 = .ok (.iaload, 1) := by decide +kernel
theorem d_M_ahead_26 : decode b_M_ahead 26 = .ok (.ifCond .ne 5, 3) := by decide +kernel
theorem d_M_ahead_29 : decode b_M_ahead 29 = .ok (.iload_n 2, 1) := by decide +kernel
theorem d_M_ahead_30 : decode b_M_ahead 30 = .ok (.ireturn, 1) := by decide +kernel
theorem d_M_ahead_31 : decode b_M_ahead 31 = .ok (.iinc 2 1, 3) := by decide +kernel
theorem d_M_ahead_34 : decode b_M_ahead 34 = .ok (.goto (-32), 3) := by decide +kernel
theorem d_M_ahead_37 : decode b_M_ahead 37 = .ok (.iconst (-1), 1) := by decide +kernel
theorem d_M_ahead_38 : decode b_M_ahead 38 = .ok (.ireturn, 1) := by decide +kernel
theorem d_M_ask_0 : decode b_M_ask 0 = .ok (.aload_n 0, 1) := by decide +kernel
theorem d_M_ask_1 : decode b_M_ask 1 = .ok (.iconst 0, 1) := by decide +kernel
theorem d_M_ask_2 : decode b_M_ask 2 = .ok (.putfield 65, 3) := by decide +kernel
theorem d_M_ask_5 : decode b_M_ask 5 = .ok (.iload_n 1, 1) := by decide +kernel
theorem d_M_ask_6 : decode b_M_ask 6 = .ok (.invokestatic 79, 3) := by decide +kernel
theorem d_M_ask_9 : decode b_M_ask 9 = .ok (.ifCond .eq 10, 3) := by decide +kernel
theorem d_M_ask_12 : decode b_M_ask 12 = .ok (.iload_n 2, 1) := by decide +kernel
theorem d_M_ask_13 : decode b_M_ask 13 = .ok (.invokestatic 103, 3) := by decide +kernel
theorem d_M_ask_16 : decode b_M_ask 16 = .ok (.ifCond .ne 5, 3) := by decide +kernel
theorem d_M_ask_19 : decode b_M_ask 19 = .ok (.iconst (-1), 1) := by decide +kernel
theorem d_M_ask_20 : decode b_M_ask 20 = .ok (.ireturn, 1) := by decide +kernel
theorem d_M_ask_21 : decode b_M_ask 21 = .ok (.aload_n 0, 1) := by decide +kernel
theorem d_M_ask_22 : decode b_M_ask 22 = .ok (.iload_n 3, 1) := by decide +kernel
theorem d_M_ask_23 : decode b_M_ask 23 = .ok (.invokevirtual 106, 3) := by decide +kernel
theorem d_M_ask_26 : decode b_M_ask 26 = .ok (.ifCond .ne 6, 3) := by decide +kernel
theorem d_M_ask_29 : decode b_M_ask 29 = .ok (.bipush (-2), 2) := by decide +kernel
theorem d_M_ask_31 : decode b_M_ask 31 = .ok (.ireturn, 1) := by decide +kernel
theorem d_M_ask_32 : decode b_M_ask 32 = .ok (.aload_n 0, 1) := by decide +kernel
theorem d_M_ask_33 : decode b_M_ask 33 = .ok (.iload_n 1, 1) := by decide +kernel
theorem d_M_ask_34 : decode b_M_ask 34 = .ok (.invokevirtual 83, 3) := by decide +kernel
theorem d_M_ask_37 : decode b_M_ask 37 = .ok (.ifCond .ge 7, 3) := by decide +kernel
theorem d_M_ask_40 : decode b_M_ask 40 = .ok (.iconst 1, 1) := by decide +kernel
theorem d_M_ask_41 : decode b_M_ask 41 = .ok (.goto 4, 3) := by decide +kernel
theorem d_M_ask_44 : decode b_M_ask 44 = .ok (.iconst 0, 1) := by decide +kernel
theorem d_M_ask_45 : decode b_M_ask 45 = .ok (.istore 4, 2) := by decide +kernel
theorem d_M_ask_47 : decode b_M_ask 47 = .ok (.iconst 0, 1) := by decide +kernel
theorem d_M_ask_48 : decode b_M_ask 48 = .ok (.istore 5, 2) := by decide +kernel
theorem d_M_ask_50 : decode b_M_ask 50 = .ok (.iload 5, 2) := by decide +kernel
theorem d_M_ask_52 : decode b_M_ask 52 = .ok (.aload_n 0, 1) := by decide +kernel
theorem d_M_ask_53 : decode b_M_ask 53 = .ok (.getfield 97, 3) := by decide +kernel
theorem d_M_ask_56 : decode b_M_ask 56 = .ok (.if_icmp .ge 52, 3) := by decide +kernel
theorem d_M_ask_59 : decode b_M_ask 59 = .ok (.iload 4, 2) := by decide +kernel
theorem d_M_ask_61 : decode b_M_ask 61 = .ok (.ifCond .ne 34, 3) := by decide +kernel
theorem d_M_ask_64 : decode b_M_ask 64 = .ok (.aload_n 0, 1) := by decide +kernel
theorem d_M_ask_65 : decode b_M_ask 65 = .ok (.getfield 43, 3) := by decide +kernel
theorem d_M_ask_68 : decode b_M_ask 68 = .ok (.iload 5, 2) := by decide +kernel
theorem d_M_ask_70 : decode b_M_ask 70 = .ok (.iaload, 1) := by decide +kernel
theorem d_M_ask_71 : decode b_M_ask 71 = .ok (.iload_n 1, 1) := by decide +kernel
theorem d_M_ask_72 : decode b_M_ask 72 = .ok (.if_icmp .ne 27, 3) := by decide +kernel
theorem d_M_ask_75 : decode b_M_ask 75 = .ok (.aload_n 0, 1) := by decide +kernel
theorem d_M_ask_76 : decode b_M_ask 76 = .ok (.getfield 46, 3) := by decide +kernel
theorem d_M_ask_79 : decode b_M_ask 79 = .ok (.iload 5, 2) := by decide +kernel
theorem d_M_ask_81 : decode b_M_ask 81 = .ok (.iaload, 1) := by decide +kernel
theorem d_M_ask_82 : decode b_M_ask 82 = .ok (.iload_n 2, 1) := by decide +kernel
theorem d_M_ask_83 : decode b_M_ask 83 = .ok (.if_icmp .ne 16, 3) := by decide +kernel
theorem d_M_ask_86 : decode b_M_ask 86 = .ok (.aload_n 0, 1) := by decide +kernel
theorem d_M_ask_87 : decode b_M_ask 87 = .ok (.iload 5, 2) := by decide +kernel
theorem d_M_ask_89 : decode b_M_ask 89 = .ok (.invokevirtual 100, 3) := by decide +kernel
theorem d_M_ask_92 : decode b_M_ask 92 = .ok (.ifCond .eq 7, 3) := by decide +kernel
theorem d_M_ask_95 : decode b_M_ask 95 = .ok (.iconst 1, 1) := by decide +kernel
theorem d_M_ask_96 : decode b_M_ask 96 = .ok (.goto 4, 3) := by decide +kernel
theorem d_M_ask_99 : decode b_M_ask 99 = .ok (.iconst 0, 1) := by decide +kernel
theorem d_M_ask_100 : decode b_M_ask 100 = .ok (.istore 4, 2) := by decide +kernel
theorem d_M_ask_102 : decode b_M_ask 102 = .ok (.iinc 5 1, 3) := by decide +kernel
theorem d_M_ask_105 : decode b_M_ask 105 = .ok (.goto (-55), 3) := by decide +kernel
theorem d_M_ask_108 : decode b_M_ask 108 = .ok (.iload 4, 2) := by decide +kernel
theorem d_M_ask_110 : decode b_M_ask 110 = .ok (.ifCond .eq 6, 3) := by decide +kernel
theorem d_M_ask_113 : decode b_M_ask 113 = .ok (.bipush (-3), 2) := by decide +kernel
theorem d_M_ask_115 : decode b_M_ask 115 = .ok (.ireturn, 1) := by decide +kernel
theorem d_M_ask_116 : decode b_M_ask 116 = .ok (.aload_n 0, 1) := by decide +kernel
theorem d_M_ask_117 : decode b_M_ask 117 = .ok (.getfield 16, 3) := by decide +kernel
theorem d_M_ask_120 : decode b_M_ask 120 = .ok (.iload_n 1, 1) := by decide +kernel
theorem d_M_ask_121 : decode b_M_ask 121 = .ok (.iaload, 1) := by decide +kernel
theorem d_M_ask_122 : decode b_M_ask 122 = .ok (.aload_n 0, 1) := by decide +kernel
theorem d_M_ask_123 : decode b_M_ask 123 = .ok (.getfield 37, 3) := by decide +kernel
theorem d_M_ask_126 : decode b_M_ask 126 = .ok (.iload_n 2, 1) := by decide +kernel
theorem d_M_ask_127 : decode b_M_ask 127 = .ok (.iaload, 1) := by decide +kernel
theorem d_M_ask_128 : decode b_M_ask 128 = .ok (.if_icmp .ge 6, 3) := by decide +kernel
theorem d_M_ask_131 : decode b_M_ask 131 = .ok (.bipush (-5), 2) := by decide +kernel
theorem d_M_ask_133 : decode b_M_ask 133 = .ok (.ireturn, 1) := by decide +kernel
theorem d_M_ask_134 : decode b_M_ask 134 = .ok (.aload_n 0, 1) := by decide +kernel
theorem d_M_ask_135 : decode b_M_ask 135 = .ok (.iload_n 1, 1) := by decide +kernel
theorem d_M_ask_136 : decode b_M_ask 136 = .ok (.invokevirtual 109, 3) := by decide +kernel
theorem d_M_ask_139 : decode b_M_ask 139 = .ok (.aload_n 0, 1) := by decide +kernel
theorem d_M_ask_140 : decode b_M_ask 140 = .ok (.getfield 19, 3) := by decide +kernel
theorem d_M_ask_143 : decode b_M_ask 143 = .ok (.iload_n 1, 1) := by decide +kernel
theorem d_M_ask_144 : decode b_M_ask 144 = .ok (.iaload, 1) := by decide +kernel
theorem d_M_ask_145 : decode b_M_ask 145 = .ok (.if_icmp .ge 13, 3) := by decide +kernel
theorem d_M_ask_148 : decode b_M_ask 148 = .ok (.aload_n 0, 1) := by decide +kernel
theorem d_M_ask_149 : decode b_M_ask 149 = .ok (.getfield 97, 3) := by decide +kernel
theorem d_M_ask_152 : decode b_M_ask 152 = .ok (.sipush 300, 3) := by decide +kernel
theorem d_M_ask_155 : decode b_M_ask 155 = .ok (.if_icmp .ne 6, 3) := by decide +kernel
theorem d_M_ask_158 : decode b_M_ask 158 = .ok (.bipush (-4), 2) := by decide +kernel
theorem d_M_ask_160 : decode b_M_ask 160 = .ok (.ireturn, 1) := by decide +kernel
theorem d_M_ask_161 : decode b_M_ask 161 = .ok (.aload_n 0, 1) := by decide +kernel
theorem d_M_ask_162 : decode b_M_ask 162 = .ok (.iload_n 3, 1) := by decide +kernel
theorem d_M_ask_163 : decode b_M_ask 163 = .ok (.putfield 72, 3) := by decide +kernel
theorem d_M_ask_166 : decode b_M_ask 166 = .ok (.aload_n 0, 1) := by decide +kernel
theorem d_M_ask_167 : decode b_M_ask 167 = .ok (.getfield 43, 3) := by decide +kernel
theorem d_M_ask_170 : decode b_M_ask 170 = .ok (.aload_n 0, 1) := by decide +kernel
theorem d_M_ask_171 : decode b_M_ask 171 = .ok (.getfield 97, 3) := by decide +kernel
theorem d_M_ask_174 : decode b_M_ask 174 = .ok (.iload_n 1, 1) := by decide +kernel
theorem d_M_ask_175 : decode b_M_ask 175 = .ok (.iastore, 1) := by decide +kernel
theorem d_M_ask_176 : decode b_M_ask 176 = .ok (.aload_n 0, 1) := by decide +kernel
theorem d_M_ask_177 : decode b_M_ask 177 = .ok (.getfield 46, 3) := by decide +kernel
theorem d_M_ask_180 : decode b_M_ask 180 = .ok (.aload_n 0, 1) := by decide +kernel
theorem d_M_ask_181 : decode b_M_ask 181 = .ok (.getfield 97, 3) := by decide +kernel
theorem d_M_ask_184 : decode b_M_ask 184 = .ok (.iload_n 2, 1) := by decide +kernel
theorem d_M_ask_185 : decode b_M_ask 185 = .ok (.iastore, 1) := by decide +kernel
theorem d_M_ask_186 : decode b_M_ask 186 = .ok (.aload_n 0, 1) := by decide +kernel
theorem d_M_ask_187 : decode b_M_ask 187 = .ok (.getfield 49, 3) := by decide +kernel
theorem d_M_ask_190 : decode b_M_ask 190 = .ok (.aload_n 0, 1) := by decide +kernel
theorem d_M_ask_191 : decode b_M_ask 191 = .ok (.getfield 97, 3) := by decide +kernel
theorem d_M_ask_194 : decode b_M_ask 194 = .ok (.iconst 0, 1) := by decide +kernel
theorem d_M_ask_195 : decode b_M_ask 195 = .ok (.iastore, 1) := by decide +kernel
theorem d_M_ask_196 : decode b_M_ask 196 = .ok (.aload_n 0, 1) := by decide +kernel
theorem d_M_ask_197 : decode b_M_ask 197 = .ok (.getfield 52, 3) := by decide +kernel
theorem d_M_ask_200 : decode b_M_ask 200 = .ok (.aload_n 0, 1) := by decide +kernel
theorem d_M_ask_201 : decode b_M_ask 201 = .ok (.getfield 97, 3) := by decide +kernel
theorem d_M_ask_204 : decode b_M_ask 204 = .ok (.iload_n 3, 1) := by decide +kernel
theorem d_M_ask_205 : decode b_M_ask 205 = .ok (.iastore, 1) := by decide +kernel
theorem d_M_ask_206 : decode b_M_ask 206 = .ok (.aload_n 0, 1) := by decide +kernel
theorem d_M_ask_207 : decode b_M_ask 207 = .ok (.getfield 55, 3) := by decide +kernel
theorem d_M_ask_210 : decode b_M_ask 210 = .ok (.aload_n 0, 1) := by decide +kernel
theorem d_M_ask_211 : decode b_M_ask 211 = .ok (.getfield 97, 3) := by decide +kernel
theorem d_M_ask_214 : decode b_M_ask 214 = .ok (.iconst (-1), 1) := by decide +kernel
theorem d_M_ask_215 : decode b_M_ask 215 = .ok (.iastore, 1) := by decide +kernel
theorem d_M_ask_216 : decode b_M_ask 216 = .ok (.aload_n 0, 1) := by decide +kernel
theorem d_M_ask_217 : decode b_M_ask 217 = .ok (.getfield 58, 3) := by decide +kernel
theorem d_M_ask_220 : decode b_M_ask 220 = .ok (.aload_n 0, 1) := by decide +kernel
theorem d_M_ask_221 : decode b_M_ask 221 = .ok (.getfield 97, 3) := by decide +kernel
theorem d_M_ask_224 : decode b_M_ask 224 = .ok (.iconst (-1), 1) := by decide +kernel
theorem d_M_ask_225 : decode b_M_ask 225 = .ok (.iastore, 1) := by decide +kernel
theorem d_M_ask_226 : decode b_M_ask 226 = .ok (.aload_n 0, 1) := by decide +kernel
theorem d_M_ask_227 : decode b_M_ask 227 = .ok (.dup, 1) := by decide +kernel
theorem d_M_ask_228 : decode b_M_ask 228 = .ok (.getfield 97, 3) := by decide +kernel
theorem d_M_ask_231 : decode b_M_ask 231 = .ok (.iconst 1, 1) := by decide +kernel
theorem d_M_ask_232 : decode b_M_ask 232 = .ok (.iadd, 1) := by decide +kernel
theorem d_M_ask_233 : decode b_M_ask 233 = .ok (.putfield 97, 3) := by decide +kernel
theorem d_M_ask_236 : decode b_M_ask 236 = .ok (.aload_n 0, 1) := by decide +kernel
theorem d_M_ask_237 : decode b_M_ask 237 = .ok (.getfield 97, 3) := by decide +kernel
theorem d_M_ask_240 : decode b_M_ask 240 = .ok (.iconst 1, 1) := by decide +kernel
theorem d_M_ask_241 : decode b_M_ask 241 = .ok (.isub, 1) := by decide +kernel
theorem d_M_ask_242 : decode b_M_ask 242 = .ok (.ireturn, 1) := by decide +kernel
theorem d_M_fetchFor_0 : decode b_M_fetchFor 0 = .ok (.aload_n 0, 1) := by decide +kernel
theorem d_M_fetchFor_1 : decode b_M_fetchFor 1 = .ok (.getfield 31, 3) := by decide +kernel
theorem d_M_fetchFor_4 : decode b_M_fetchFor 4 = .ok (.iload_n 1, 1) := by decide +kernel
theorem d_M_fetchFor_5 : decode b_M_fetchFor 5 = .ok (.iconst 1, 1) := by decide +kernel
theorem d_M_fetchFor_6 : decode b_M_fetchFor 6 = .ok (.iastore, 1) := by decide +kernel
theorem d_M_fetchFor_7 : decode b_M_fetchFor 7 = .ok (.aload_n 0, 1) := by decide +kernel
theorem d_M_fetchFor_8 : decode b_M_fetchFor 8 = .ok (.getfield 40, 3) := by decide +kernel
theorem d_M_fetchFor_11 : decode b_M_fetchFor 11 = .ok (.iload_n 1, 1) := by decide +kernel
theorem d_M_fetchFor_12 : decode b_M_fetchFor 12 = .ok (.iload_n 2, 1) := by decide +kernel
theorem d_M_fetchFor_13 : decode b_M_fetchFor 13 = .ok (.iastore, 1) := by decide +kernel
theorem d_M_fetchFor_14 : decode b_M_fetchFor 14 = .ok (.aload_n 0, 1) := by decide +kernel
theorem d_M_fetchFor_15 : decode b_M_fetchFor 15 = .ok (.getfield 49, 3) := by decide +kernel
theorem d_M_fetchFor_18 : decode b_M_fetchFor 18 = .ok (.iload_n 2, 1) := by decide +kernel
theorem d_M_fetchFor_19 : decode b_M_fetchFor 19 = .ok (.iconst 1, 1) := by decide +kernel
theorem d_M_fetchFor_20 : decode b_M_fetchFor 20 = .ok (.iastore, 1) := by decide +kernel
theorem d_M_fetchFor_21 : decode b_M_fetchFor 21 = .ok (.iload_n 2, 1) := by decide +kernel
theorem d_M_fetchFor_22 : decode b_M_fetchFor 22 = .ok (.ireturn, 1) := by decide +kernel
theorem d_M_fetch_0 : decode b_M_fetch 0 = .ok (.aload_n 0, 1) := by decide +kernel
theorem d_M_fetch_1 : decode b_M_fetch 1 = .ok (.iconst 0, 1) := by decide +kernel
theorem d_M_fetch_2 : decode b_M_fetch 2 = .ok (.putfield 65, 3) := by decide +kernel
theorem d_M_fetch_5 : decode b_M_fetch 5 = .ok (.iload_n 1, 1) := by decide +kernel
theorem d_M_fetch_6 : decode b_M_fetch 6 = .ok (.invokestatic 103, 3) := by decide +kernel
theorem d_M_fetch_9 : decode b_M_fetch 9 = .ok (.ifCond .ne 5, 3) := by decide +kernel
theorem d_M_fetch_12 : decode b_M_fetch 12 = .ok (.iconst (-1), 1) := by decide +kernel
theorem d_M_fetch_13 : decode b_M_fetch 13 = .ok (.ireturn, 1) := by decide +kernel
theorem d_M_fetch_14 : decode b_M_fetch 14 = .ok (.aload_n 0, 1) := by decide +kernel
theorem d_M_fetch_15 : decode b_M_fetch 15 = .ok (.iload_n 2, 1) := by decide +kernel
theorem d_M_fetch_16 : decode b_M_fetch 16 = .ok (.invokevirtual 106, 3) := by decide +kernel
theorem d_M_fetch_19 : decode b_M_fetch 19 = .ok (.ifCond .ne 6, 3) := by decide +kernel
theorem d_M_fetch_22 : decode b_M_fetch 22 = .ok (.bipush (-2), 2) := by decide +kernel
theorem d_M_fetch_24 : decode b_M_fetch 24 = .ok (.ireturn, 1) := by decide +kernel
theorem d_M_fetch_25 : decode b_M_fetch 25 = .ok (.aload_n 0, 1) := by decide +kernel
theorem d_M_fetch_26 : decode b_M_fetch 26 = .ok (.getfield 31, 3) := by decide +kernel
theorem d_M_fetch_29 : decode b_M_fetch 29 = .ok (.iload_n 1, 1) := by decide +kernel
theorem d_M_fetch_30 : decode b_M_fetch 30 = .ok (.iaload, 1) := by decide +kernel
theorem d_M_fetch_31 : decode b_M_fetch 31 = .ok (.ifCond .ne 21, 3) := by decide +kernel
theorem d_M_fetch_34 : decode b_M_fetch 34 = .ok (.aload_n 0, 1) := by decide +kernel
theorem d_M_fetch_35 : decode b_M_fetch 35 = .ok (.iload_n 1, 1) := by decide +kernel
theorem d_M_fetch_36 : decode b_M_fetch 36 = .ok (.invokevirtual 112, 3) := by decide +kernel
theorem d_M_fetch_39 : decode b_M_fetch 39 = .ok (.ifCond .lt 13, 3) := by decide +kernel
theorem d_M_fetch_42 : decode b_M_fetch 42 = .ok (.aload_n 0, 1) := by decide +kernel
theorem d_M_fetch_43 : decode b_M_fetch 43 = .ok (.getfield 34, 3) := by decide +kernel
theorem d_M_fetch_46 : decode b_M_fetch 46 = .ok (.iload_n 1, 1) := by decide +kernel
theorem d_M_fetch_47 : decode b_M_fetch 47 = .ok (.iaload, 1) := by decide +kernel
theorem d_M_fetch_48 : decode b_M_fetch 48 = .ok (.iconst 3, 1) := by decide +kernel
theorem d_M_fetch_49 : decode b_M_fetch 49 = .ok (.if_icmp .ne 6, 3) := by decide +kernel
theorem d_M_fetch_52 : decode b_M_fetch 52 = .ok (.bipush (-3), 2) := by decide +kernel
theorem d_M_fetch_54 : decode b_M_fetch 54 = .ok (.ireturn, 1) := by decide +kernel
theorem d_M_fetch_55 : decode b_M_fetch 55 = .ok (.aload_n 0, 1) := by decide +kernel
theorem d_M_fetch_56 : decode b_M_fetch 56 = .ok (.iload_n 2, 1) := by decide +kernel
theorem d_M_fetch_57 : decode b_M_fetch 57 = .ok (.putfield 72, 3) := by decide +kernel
theorem d_M_fetch_60 : decode b_M_fetch 60 = .ok (.aload_n 0, 1) := by decide +kernel
theorem d_M_fetch_61 : decode b_M_fetch 61 = .ok (.iload_n 1, 1) := by decide +kernel
theorem d_M_fetch_62 : decode b_M_fetch 62 = .ok (.aload_n 0, 1) := by decide +kernel
theorem d_M_fetch_63 : decode b_M_fetch 63 = .ok (.iload_n 1, 1) := by decide +kernel
theorem d_M_fetch_64 : decode b_M_fetch 64 = .ok (.invokevirtual 112, 3) := by decide +kernel
theorem d_M_fetch_67 : decode b_M_fetch 67 = .ok (.invokevirtual 115, 3) := by decide +kernel
theorem d_M_fetch_70 : decode b_M_fetch 70 = .ok (.ireturn, 1) := by decide +kernel
theorem d_M_handOut_0 : decode b_M_handOut 0 = .ok (.aload_n 0, 1) := by decide +kernel
theorem d_M_handOut_1 : decode b_M_handOut 1 = .ok (.iconst 0, 1) := by decide +kernel
theorem d_M_handOut_2 : decode b_M_handOut 2 = .ok (.putfield 65, 3) := by decide +kernel
theorem d_M_handOut_5 : decode b_M_handOut 5 = .ok (.iload_n 1, 1) := by decide +kernel
theorem d_M_handOut_6 : decode b_M_handOut 6 = .ok (.invokestatic 103, 3) := by decide +kernel
theorem d_M_handOut_9 : decode b_M_handOut 9 = .ok (.ifCond .ne 5, 3) := by decide +kernel
theorem d_M_handOut_12 : decode b_M_handOut 12 = .ok (.iconst (-1), 1) := by decide +kernel
theorem d_M_handOut_13 : decode b_M_handOut 13 = .ok (.ireturn, 1) := by decide +kernel
theorem d_M_handOut_14 : decode b_M_handOut 14 = .ok (.aload_n 0, 1) := by decide +kernel
theorem d_M_handOut_15 : decode b_M_handOut 15 = .ok (.iload_n 2, 1) := by decide +kernel
theorem d_M_handOut_16 : decode b_M_handOut 16 = .ok (.invokevirtual 106, 3) := by decide +kernel
theorem d_M_handOut_19 : decode b_M_handOut 19 = .ok (.ifCond .ne 6, 3) := by decide +kernel
theorem d_M_handOut_22 : decode b_M_handOut 22 = .ok (.bipush (-2), 2) := by decide +kernel
theorem d_M_handOut_24 : decode b_M_handOut 24 = .ok (.ireturn, 1) := by decide +kernel
theorem d_M_handOut_25 : decode b_M_handOut 25 = .ok (.aload_n 0, 1) := by decide +kernel
theorem d_M_handOut_26 : decode b_M_handOut 26 = .ok (.getfield 31, 3) := by decide +kernel
theorem d_M_handOut_29 : decode b_M_handOut 29 = .ok (.iload_n 1, 1) := by decide +kernel
theorem d_M_handOut_30 : decode b_M_handOut 30 = .ok (.iaload, 1) := by decide +kernel
theorem d_M_handOut_31 : decode b_M_handOut 31 = .ok (.iconst 1, 1) := by decide +kernel
theorem d_M_handOut_32 : decode b_M_handOut 32 = .ok (.if_icmp .ne 21, 3) := by decide +kernel
theorem d_M_handOut_35 : decode b_M_handOut 35 = .ok (.aload_n 0, 1) := by decide +kernel
theorem d_M_handOut_36 : decode b_M_handOut 36 = .ok (.aload_n 0, 1) := by decide +kernel
theorem d_M_handOut_37 : decode b_M_handOut 37 = .ok (.getfield 43, 3) := by decide +kernel
theorem d_M_handOut_40 : decode b_M_handOut 40 = .ok (.aload_n 0, 1) := by decide +kernel
theorem d_M_handOut_41 : decode b_M_handOut 41 = .ok (.getfield 40, 3) := by decide +kernel
theorem d_M_handOut_44 : decode b_M_handOut 44 = .ok (.iload_n 1, 1) := by decide +kernel
theorem d_M_handOut_45 : decode b_M_handOut 45 = .ok (.iaload, 1) := by decide +kernel
theorem d_M_handOut_46 : decode b_M_handOut 46 = .ok (.iaload, 1) := by decide +kernel
theorem d_M_handOut_47 : decode b_M_handOut 47 = .ok (.invokevirtual 83, 3) := by decide +kernel
theorem d_M_handOut_50 : decode b_M_handOut 50 = .ok (.ifCond .ge 6, 3) := by decide +kernel
theorem d_M_handOut_53 : decode b_M_handOut 53 = .ok (.bipush (-3), 2) := by decide +kernel
theorem d_M_handOut_55 : decode b_M_handOut 55 = .ok (.ireturn, 1) := by decide +kernel
theorem d_M_handOut_56 : decode b_M_handOut 56 = .ok (.aload_n 0, 1) := by decide +kernel
theorem d_M_handOut_57 : decode b_M_handOut 57 = .ok (.getfield 40, 3) := by decide +kernel
theorem d_M_handOut_60 : decode b_M_handOut 60 = .ok (.iload_n 1, 1) := by decide +kernel
theorem d_M_handOut_61 : decode b_M_handOut 61 = .ok (.iaload, 1) := by decide +kernel
theorem d_M_handOut_62 : decode b_M_handOut 62 = .ok (.istore_n 3, 1) := by decide +kernel
theorem d_M_handOut_63 : decode b_M_handOut 63 = .ok (.aload_n 0, 1) := by decide +kernel
theorem d_M_handOut_64 : decode b_M_handOut 64 = .ok (.getfield 16, 3) := by decide +kernel
theorem d_M_handOut_67 : decode b_M_handOut 67 = .ok (.aload_n 0, 1) := by decide +kernel
theorem d_M_handOut_68 : decode b_M_handOut 68 = .ok (.getfield 43, 3) := by decide +kernel
theorem d_M_handOut_71 : decode b_M_handOut 71 = .ok (.iload_n 3, 1) := by decide +kernel
theorem d_M_handOut_72 : decode b_M_handOut 72 = .ok (.iaload, 1) := by decide +kernel
theorem d_M_handOut_73 : decode b_M_handOut 73 = .ok (.iaload, 1) := by decide +kernel
theorem d_M_handOut_74 : decode b_M_handOut 74 = .ok (.aload_n 0, 1) := by decide +kernel
theorem d_M_handOut_75 : decode b_M_handOut 75 = .ok (.getfield 37, 3) := by decide +kernel
theorem d_M_handOut_78 : decode b_M_handOut 78 = .ok (.iload_n 1, 1) := by decide +kernel
theorem d_M_handOut_79 : decode b_M_handOut 79 = .ok (.iaload, 1) := by decide +kernel
theorem d_M_handOut_80 : decode b_M_handOut 80 = .ok (.if_icmp .ge 6, 3) := by decide +kernel
theorem d_M_handOut_83 : decode b_M_handOut 83 = .ok (.bipush (-5), 2) := by decide +kernel
theorem d_M_handOut_85 : decode b_M_handOut 85 = .ok (.ireturn, 1) := by decide +kernel
theorem d_M_handOut_86 : decode b_M_handOut 86 = .ok (.aload_n 0, 1) := by decide +kernel
theorem d_M_handOut_87 : decode b_M_handOut 87 = .ok (.iload_n 2, 1) := by decide +kernel
theorem d_M_handOut_88 : decode b_M_handOut 88 = .ok (.putfield 72, 3) := by decide +kernel
theorem d_M_handOut_91 : decode b_M_handOut 91 = .ok (.aload_n 0, 1) := by decide +kernel
theorem d_M_handOut_92 : decode b_M_handOut 92 = .ok (.getfield 31, 3) := by decide +kernel
theorem d_M_handOut_95 : decode b_M_handOut 95 = .ok (.iload_n 1, 1) := by decide +kernel
theorem d_M_handOut_96 : decode b_M_handOut 96 = .ok (.iconst 2, 1) := by decide +kernel
theorem d_M_handOut_97 : decode b_M_handOut 97 = .ok (.iastore, 1) := by decide +kernel
theorem d_M_handOut_98 : decode b_M_handOut 98 = .ok (.aload_n 0, 1) := by decide +kernel
theorem d_M_handOut_99 : decode b_M_handOut 99 = .ok (.getfield 49, 3) := by decide +kernel
theorem d_M_handOut_102 : decode b_M_handOut 102 = .ok (.iload_n 3, 1) := by decide +kernel
theorem d_M_handOut_103 : decode b_M_handOut 103 = .ok (.iconst 2, 1) := by decide +kernel
theorem d_M_handOut_104 : decode b_M_handOut 104 = .ok (.iastore, 1) := by decide +kernel
theorem d_M_handOut_105 : decode b_M_handOut 105 = .ok (.aload_n 0, 1) := by decide +kernel
theorem d_M_handOut_106 : decode b_M_handOut 106 = .ok (.getfield 55, 3) := by decide +kernel
theorem d_M_handOut_109 : decode b_M_handOut 109 = .ok (.iload_n 3, 1) := by decide +kernel
theorem d_M_handOut_110 : decode b_M_handOut 110 = .ok (.iload_n 2, 1) := by decide +kernel
theorem d_M_handOut_111 : decode b_M_handOut 111 = .ok (.iastore, 1) := by decide +kernel
theorem d_M_handOut_112 : decode b_M_handOut 112 = .ok (.aload_n 0, 1) := by decide +kernel
theorem d_M_handOut_113 : decode b_M_handOut 113 = .ok (.getfield 43, 3) := by decide +kernel
theorem d_M_handOut_116 : decode b_M_handOut 116 = .ok (.iload_n 3, 1) := by decide +kernel
theorem d_M_handOut_117 : decode b_M_handOut 117 = .ok (.iaload, 1) := by decide +kernel
theorem d_M_handOut_118 : decode b_M_handOut 118 = .ok (.ireturn, 1) := by decide +kernel
theorem d_M_back_0 : decode b_M_back 0 = .ok (.aload_n 0, 1) := by decide +kernel
theorem d_M_back_1 : decode b_M_back 1 = .ok (.iconst 0, 1) := by decide +kernel
theorem d_M_back_2 : decode b_M_back 2 = .ok (.putfield 65, 3) := by decide +kernel
theorem d_M_back_5 : decode b_M_back 5 = .ok (.iload_n 1, 1) := by decide +kernel
theorem d_M_back_6 : decode b_M_back 6 = .ok (.invokestatic 103, 3) := by decide +kernel
theorem d_M_back_9 : decode b_M_back 9 = .ok (.ifCond .ne 5, 3) := by decide +kernel
theorem d_M_back_12 : decode b_M_back 12 = .ok (.iconst (-1), 1) := by decide +kernel
theorem d_M_back_13 : decode b_M_back 13 = .ok (.ireturn, 1) := by decide +kernel
theorem d_M_back_14 : decode b_M_back 14 = .ok (.aload_n 0, 1) := by decide +kernel
theorem d_M_back_15 : decode b_M_back 15 = .ok (.iload_n 2, 1) := by decide +kernel
theorem d_M_back_16 : decode b_M_back 16 = .ok (.invokevirtual 106, 3) := by decide +kernel
theorem d_M_back_19 : decode b_M_back 19 = .ok (.ifCond .ne 6, 3) := by decide +kernel
theorem d_M_back_22 : decode b_M_back 22 = .ok (.bipush (-2), 2) := by decide +kernel
theorem d_M_back_24 : decode b_M_back 24 = .ok (.ireturn, 1) := by decide +kernel
theorem d_M_back_25 : decode b_M_back 25 = .ok (.aload_n 0, 1) := by decide +kernel
theorem d_M_back_26 : decode b_M_back 26 = .ok (.getfield 31, 3) := by decide +kernel
theorem d_M_back_29 : decode b_M_back 29 = .ok (.iload_n 1, 1) := by decide +kernel
theorem d_M_back_30 : decode b_M_back 30 = .ok (.iaload, 1) := by decide +kernel
theorem d_M_back_31 : decode b_M_back 31 = .ok (.iconst 2, 1) := by decide +kernel
theorem d_M_back_32 : decode b_M_back 32 = .ok (.if_icmp .eq 6, 3) := by decide +kernel
theorem d_M_back_35 : decode b_M_back 35 = .ok (.bipush (-3), 2) := by decide +kernel
theorem d_M_back_37 : decode b_M_back 37 = .ok (.ireturn, 1) := by decide +kernel
theorem d_M_back_38 : decode b_M_back 38 = .ok (.aload_n 0, 1) := by decide +kernel
theorem d_M_back_39 : decode b_M_back 39 = .ok (.iload_n 2, 1) := by decide +kernel
theorem d_M_back_40 : decode b_M_back 40 = .ok (.putfield 72, 3) := by decide +kernel
theorem d_M_back_43 : decode b_M_back 43 = .ok (.aload_n 0, 1) := by decide +kernel
theorem d_M_back_44 : decode b_M_back 44 = .ok (.getfield 31, 3) := by decide +kernel
theorem d_M_back_47 : decode b_M_back 47 = .ok (.iload_n 1, 1) := by decide +kernel
theorem d_M_back_48 : decode b_M_back 48 = .ok (.iconst 3, 1) := by decide +kernel
theorem d_M_back_49 : decode b_M_back 49 = .ok (.iastore, 1) := by decide +kernel
theorem d_M_back_50 : decode b_M_back 50 = .ok (.aload_n 0, 1) := by decide +kernel
theorem d_M_back_51 : decode b_M_back 51 = .ok (.getfield 49, 3) := by decide +kernel
theorem d_M_back_54 : decode b_M_back 54 = .ok (.aload_n 0, 1) := by decide +kernel
theorem d_M_back_55 : decode b_M_back 55 = .ok (.getfield 40, 3) := by decide +kernel
theorem d_M_back_58 : decode b_M_back 58 = .ok (.iload_n 1, 1) := by decide +kernel
theorem d_M_back_59 : decode b_M_back 59 = .ok (.iaload, 1) := by decide +kernel
theorem d_M_back_60 : decode b_M_back 60 = .ok (.iconst 3, 1) := by decide +kernel
theorem d_M_back_61 : decode b_M_back 61 = .ok (.iastore, 1) := by decide +kernel
theorem d_M_back_62 : decode b_M_back 62 = .ok (.aload_n 0, 1) := by decide +kernel
theorem d_M_back_63 : decode b_M_back 63 = .ok (.getfield 58, 3) := by decide +kernel
theorem d_M_back_66 : decode b_M_back 66 = .ok (.aload_n 0, 1) := by decide +kernel
theorem d_M_back_67 : decode b_M_back 67 = .ok (.getfield 40, 3) := by decide +kernel
theorem d_M_back_70 : decode b_M_back 70 = .ok (.iload_n 1, 1) := by decide +kernel
theorem d_M_back_71 : decode b_M_back 71 = .ok (.iaload, 1) := by decide +kernel
theorem d_M_back_72 : decode b_M_back 72 = .ok (.iload_n 2, 1) := by decide +kernel
theorem d_M_back_73 : decode b_M_back 73 = .ok (.iastore, 1) := by decide +kernel
theorem d_M_back_74 : decode b_M_back 74 = .ok (.aload_n 0, 1) := by decide +kernel
theorem d_M_back_75 : decode b_M_back 75 = .ok (.getfield 40, 3) := by decide +kernel
theorem d_M_back_78 : decode b_M_back 78 = .ok (.iload_n 1, 1) := by decide +kernel
theorem d_M_back_79 : decode b_M_back 79 = .ok (.iaload, 1) := by decide +kernel
theorem d_M_back_80 : decode b_M_back 80 = .ok (.ireturn, 1) := by decide +kernel
theorem d_M_look_0 : decode b_M_look 0 = .ok (.aload_n 0, 1) := by decide +kernel
theorem d_M_look_1 : decode b_M_look 1 = .ok (.iconst 0, 1) := by decide +kernel
theorem d_M_look_2 : decode b_M_look 2 = .ok (.putfield 65, 3) := by decide +kernel
theorem d_M_look_5 : decode b_M_look 5 = .ok (.iload_n 1, 1) := by decide +kernel
theorem d_M_look_6 : decode b_M_look 6 = .ok (.invokestatic 103, 3) := by decide +kernel
theorem d_M_look_9 : decode b_M_look 9 = .ok (.ifCond .ne 5, 3) := by decide +kernel
theorem d_M_look_12 : decode b_M_look 12 = .ok (.iconst (-1), 1) := by decide +kernel
theorem d_M_look_13 : decode b_M_look 13 = .ok (.ireturn, 1) := by decide +kernel
theorem d_M_look_14 : decode b_M_look 14 = .ok (.iload_n 2, 1) := by decide +kernel
theorem d_M_look_15 : decode b_M_look 15 = .ok (.aload_n 0, 1) := by decide +kernel
theorem d_M_look_16 : decode b_M_look 16 = .ok (.getfield 34, 3) := by decide +kernel
theorem d_M_look_19 : decode b_M_look 19 = .ok (.iload_n 1, 1) := by decide +kernel
theorem d_M_look_20 : decode b_M_look 20 = .ok (.iaload, 1) := by decide +kernel
theorem d_M_look_21 : decode b_M_look 21 = .ok (.iconst 3, 1) := by decide +kernel
theorem d_M_look_22 : decode b_M_look 22 = .ok (.invokestatic 68, 3) := by decide +kernel
theorem d_M_look_25 : decode b_M_look 25 = .ok (.ifCond .ne 6, 3) := by decide +kernel
theorem d_M_look_28 : decode b_M_look 28 = .ok (.bipush (-2), 2) := by decide +kernel
theorem d_M_look_30 : decode b_M_look 30 = .ok (.ireturn, 1) := by decide +kernel
theorem d_M_look_31 : decode b_M_look 31 = .ok (.aload_n 0, 1) := by decide +kernel
theorem d_M_look_32 : decode b_M_look 32 = .ok (.getfield 31, 3) := by decide +kernel
theorem d_M_look_35 : decode b_M_look 35 = .ok (.iload_n 1, 1) := by decide +kernel
theorem d_M_look_36 : decode b_M_look 36 = .ok (.iaload, 1) := by decide +kernel
theorem d_M_look_37 : decode b_M_look 37 = .ok (.iconst 3, 1) := by decide +kernel
theorem d_M_look_38 : decode b_M_look 38 = .ok (.if_icmp .eq 6, 3) := by decide +kernel
theorem d_M_look_41 : decode b_M_look 41 = .ok (.bipush (-3), 2) := by decide +kernel
theorem d_M_look_43 : decode b_M_look 43 = .ok (.ireturn, 1) := by decide +kernel
theorem d_M_look_44 : decode b_M_look 44 = .ok (.aload_n 0, 1) := by decide +kernel
theorem d_M_look_45 : decode b_M_look 45 = .ok (.getfield 34, 3) := by decide +kernel
theorem d_M_look_48 : decode b_M_look 48 = .ok (.iload_n 1, 1) := by decide +kernel
theorem d_M_look_49 : decode b_M_look 49 = .ok (.iload_n 2, 1) := by decide +kernel
theorem d_M_look_50 : decode b_M_look 50 = .ok (.iastore, 1) := by decide +kernel
theorem d_M_look_51 : decode b_M_look 51 = .ok (.iload_n 2, 1) := by decide +kernel
theorem d_M_look_52 : decode b_M_look 52 = .ok (.iconst 2, 1) := by decide +kernel
theorem d_M_look_53 : decode b_M_look 53 = .ok (.if_icmp .ge 22, 3) := by decide +kernel
theorem d_M_look_56 : decode b_M_look 56 = .ok (.aload_n 0, 1) := by decide +kernel
theorem d_M_look_57 : decode b_M_look 57 = .ok (.iload_n 1, 1) := by decide +kernel
theorem d_M_look_58 : decode b_M_look 58 = .ok (.invokevirtual 112, 3) := by decide +kernel
theorem d_M_look_61 : decode b_M_look 61 = .ok (.ifCond .lt 14, 3) := by decide +kernel
theorem d_M_look_64 : decode b_M_look 64 = .ok (.aload_n 0, 1) := by decide +kernel
theorem d_M_look_65 : decode b_M_look 65 = .ok (.iload_n 1, 1) := by decide +kernel
theorem d_M_look_66 : decode b_M_look 66 = .ok (.aload_n 0, 1) := by decide +kernel
theorem d_M_look_67 : decode b_M_look 67 = .ok (.iload_n 1, 1) := by decide +kernel
theorem d_M_look_68 : decode b_M_look 68 = .ok (.invokevirtual 112, 3) := by decide +kernel
theorem d_M_look_71 : decode b_M_look 71 = .ok (.invokevirtual 115, 3) := by decide +kernel
theorem d_M_look_74 : decode b_M_look 74 = .ok (.ireturn, 1) := by decide +kernel
theorem d_M_look_75 : decode b_M_look 75 = .ok (.aload_n 0, 1) := by decide +kernel
theorem d_M_look_76 : decode b_M_look 76 = .ok (.getfield 31, 3) := by decide +kernel
theorem d_M_look_79 : decode b_M_look 79 = .ok (.iload_n 1, 1) := by decide +kernel
theorem d_M_look_80 : decode b_M_look 80 = .ok (.iconst 0, 1) := by decide +kernel
theorem d_M_look_81 : decode b_M_look 81 = .ok (.iastore, 1) := by decide +kernel
theorem d_M_look_82 : decode b_M_look 82 = .ok (.aload_n 0, 1) := by decide +kernel
theorem d_M_look_83 : decode b_M_look 83 = .ok (.getfield 40, 3) := by decide +kernel
theorem d_M_look_86 : decode b_M_look 86 = .ok (.iload_n 1, 1) := by decide +kernel
theorem d_M_look_87 : decode b_M_look 87 = .ok (.iconst (-1), 1) := by decide +kernel
theorem d_M_look_88 : decode b_M_look 88 = .ok (.iastore, 1) := by decide +kernel
theorem d_M_look_89 : decode b_M_look 89 = .ok (.sipush 1000, 3) := by decide +kernel
theorem d_M_look_92 : decode b_M_look 92 = .ok (.ireturn, 1) := by decide +kernel
theorem d_M_mend_0 : decode b_M_mend 0 = .ok (.aload_n 0, 1) := by decide +kernel
theorem d_M_mend_1 : decode b_M_mend 1 = .ok (.iconst 0, 1) := by decide +kernel
theorem d_M_mend_2 : decode b_M_mend 2 = .ok (.putfield 65, 3) := by decide +kernel
theorem d_M_mend_5 : decode b_M_mend 5 = .ok (.iload_n 1, 1) := by decide +kernel
theorem d_M_mend_6 : decode b_M_mend 6 = .ok (.invokestatic 103, 3) := by decide +kernel
theorem d_M_mend_9 : decode b_M_mend 9 = .ok (.ifCond .ne 5, 3) := by decide +kernel
theorem d_M_mend_12 : decode b_M_mend 12 = .ok (.iconst (-1), 1) := by decide +kernel
theorem d_M_mend_13 : decode b_M_mend 13 = .ok (.ireturn, 1) := by decide +kernel
theorem d_M_mend_14 : decode b_M_mend 14 = .ok (.aload_n 0, 1) := by decide +kernel
theorem d_M_mend_15 : decode b_M_mend 15 = .ok (.getfield 31, 3) := by decide +kernel
theorem d_M_mend_18 : decode b_M_mend 18 = .ok (.iload_n 1, 1) := by decide +kernel
theorem d_M_mend_19 : decode b_M_mend 19 = .ok (.iaload, 1) := by decide +kernel
theorem d_M_mend_20 : decode b_M_mend 20 = .ok (.ifCond .eq 6, 3) := by decide +kernel
theorem d_M_mend_23 : decode b_M_mend 23 = .ok (.bipush (-3), 2) := by decide +kernel
theorem d_M_mend_25 : decode b_M_mend 25 = .ok (.ireturn, 1) := by decide +kernel
theorem d_M_mend_26 : decode b_M_mend 26 = .ok (.aload_n 0, 1) := by decide +kernel
theorem d_M_mend_27 : decode b_M_mend 27 = .ok (.getfield 34, 3) := by decide +kernel
theorem d_M_mend_30 : decode b_M_mend 30 = .ok (.iload_n 1, 1) := by decide +kernel
theorem d_M_mend_31 : decode b_M_mend 31 = .ok (.iconst 0, 1) := by decide +kernel
theorem d_M_mend_32 : decode b_M_mend 32 = .ok (.iastore, 1) := by decide +kernel
theorem d_M_mend_33 : decode b_M_mend 33 = .ok (.iconst 1, 1) := by decide +kernel
theorem d_M_mend_34 : decode b_M_mend 34 = .ok (.ireturn, 1) := by decide +kernel
end
section
theorem d_M_restrict_0 : decode b_M_restrict 0 = .ok (.aload_n 0, 1) := by decide +kernel
theorem d_M_restrict_1 : decode b_M_restrict 1 = .ok (.iconst 0, 1) := by decide +kernel
theorem d_M_restrict_2 : decode b_M_restrict 2 = .ok (.putfield 65, 3) := by decide +kernel
theorem d_M_restrict_5 : decode b_M_restrict 5 = .ok (.iload_n 1, 1) := by decide +kernel
theorem d_M_restrict_6 : decode b_M_restrict 6 = .ok (.invokestatic 103, 3) := by decide +kernel
theorem d_M_restrict_9 : decode b_M_restrict 9 = .ok (.ifCond .ne 5, 3) := by decide +kernel
theorem d_M_restrict_12 : decode b_M_restrict 12 = .ok (.iconst (-1), 1) := by decide +kernel
theorem d_M_restrict_13 : decode b_M_restrict 13 = .ok (.ireturn, 1) := by decide +kernel
theorem d_M_restrict_14 : decode b_M_restrict 14 = .ok (.iload_n 2, 1) := by decide +kernel
theorem d_M_restrict_15 : decode b_M_restrict 15 = .ok (.iconst 0, 1) := by decide +kernel
theorem d_M_restrict_16 : decode b_M_restrict 16 = .ok (.iconst 3, 1) := by decide +kernel
theorem d_M_restrict_17 : decode b_M_restrict 17 = .ok (.invokestatic 68, 3) := by decide +kernel
theorem d_M_restrict_20 : decode b_M_restrict 20 = .ok (.ifCond .ne 6, 3) := by decide +kernel
theorem d_M_restrict_23 : decode b_M_restrict 23 = .ok (.bipush (-2), 2) := by decide +kernel
theorem d_M_restrict_25 : decode b_M_restrict 25 = .ok (.ireturn, 1) := by decide +kernel
theorem d_M_restrict_26 : decode b_M_restrict 26 = .ok (.aload_n 0, 1) := by decide +kernel
theorem d_M_restrict_27 : decode b_M_restrict 27 = .ok (.getfield 37, 3) := by decide +kernel
theorem d_M_restrict_30 : decode b_M_restrict 30 = .ok (.iload_n 1, 1) := by decide +kernel
theorem d_M_restrict_31 : decode b_M_restrict 31 = .ok (.iload_n 2, 1) := by decide +kernel
theorem d_M_restrict_32 : decode b_M_restrict 32 = .ok (.iastore, 1) := by decide +kernel
theorem d_M_restrict_33 : decode b_M_restrict 33 = .ok (.iconst 0, 1) := by decide +kernel
theorem d_M_restrict_34 : decode b_M_restrict 34 = .ok (.istore_n 3, 1) := by decide +kernel
theorem d_M_restrict_35 : decode b_M_restrict 35 = .ok (.iconst 0, 1) := by decide +kernel
theorem d_M_restrict_36 : decode b_M_restrict 36 = .ok (.istore 4, 2) := by decide +kernel
theorem d_M_restrict_38 : decode b_M_restrict 38 = .ok (.iload 4, 2) := by decide +kernel
theorem d_M_restrict_40 : decode b_M_restrict 40 = .ok (.aload_n 0, 1) := by decide +kernel
theorem d_M_restrict_41 : decode b_M_restrict 41 = .ok (.getfield 97, 3) := by decide +kernel
theorem d_M_restrict_44 : decode b_M_restrict 44 = .ok (.if_icmp .ge 60, 3) := by decide +kernel
theorem d_M_restrict_47 : decode b_M_restrict 47 = .ok (.aload_n 0, 1) := by decide +kernel
theorem d_M_restrict_48 : decode b_M_restrict 48 = .ok (.getfield 46, 3) := by decide +kernel
theorem d_M_restrict_51 : decode b_M_restrict 51 = .ok (.iload 4, 2) := by decide +kernel
theorem d_M_restrict_53 : decode b_M_restrict 53 = .ok (.iaload, 1) := by decide +kernel
theorem d_M_restrict_54 : decode b_M_restrict 54 = .ok (.iload_n 1, 1) := by decide +kernel
theorem d_M_restrict_55 : decode b_M_restrict 55 = .ok (.if_icmp .ne 43, 3) := by decide +kernel
theorem d_M_restrict_58 : decode b_M_restrict 58 = .ok (.aload_n 0, 1) := by decide +kernel
theorem d_M_restrict_59 : decode b_M_restrict 59 = .ok (.getfield 49, 3) := by decide +kernel
theorem d_M_restrict_62 : decode b_M_restrict 62 = .ok (.iload 4, 2) := by decide +kernel
theorem d_M_restrict_64 : decode b_M_restrict 64 = .ok (.iaload, 1) := by decide +kernel
theorem d_M_restrict_65 : decode b_M_restrict 65 = .ok (.ifCond .ne 33, 3) := by decide +kernel
theorem d_M_restrict_68 : decode b_M_restrict 68 = .ok (.aload_n 0, 1) := by decide +kernel
theorem d_M_restrict_69 : decode b_M_restrict 69 = .ok (.getfield 16, 3) := by decide +kernel
theorem d_M_restrict_72 : decode b_M_restrict 72 = .ok (.aload_n 0, 1) := by decide +kernel
theorem d_M_restrict_73 : decode b_M_restrict 73 = .ok (.getfield 43, 3) := by decide +kernel
theorem d_M_restrict_76 : decode b_M_restrict 76 = .ok (.iload 4, 2) := by decide +kernel
theorem d_M_restrict_78 : decode b_M_restrict 78 = .ok (.iaload, 1) := by decide +kernel
theorem d_M_restrict_79 : decode b_M_restrict 79 = .ok (.iaload, 1) := by decide +kernel
theorem d_M_restrict_80 : decode b_M_restrict 80 = .ok (.iload_n 2, 1) := by decide +kernel
theorem d_M_restrict_81 : decode b_M_restrict 81 = .ok (.if_icmp .lt 6, 3) := by decide +kernel
theorem d_M_restrict_84 : decode b_M_restrict 84 = .ok (.goto 14, 3) := by decide +kernel
theorem d_M_restrict_87 : decode b_M_restrict 87 = .ok (.aload_n 0, 1) := by decide +kernel
theorem d_M_restrict_88 : decode b_M_restrict 88 = .ok (.getfield 49, 3) := by decide +kernel
theorem d_M_restrict_91 : decode b_M_restrict 91 = .ok (.iload 4, 2) := by decide +kernel
theorem d_M_restrict_93 : decode b_M_restrict 93 = .ok (.iconst 4, 1) := by decide +kernel
theorem d_M_restrict_94 : decode b_M_restrict 94 = .ok (.iastore, 1) := by decide +kernel
theorem d_M_restrict_95 : decode b_M_restrict 95 = .ok (.iinc 3 1, 3) := by decide +kernel
theorem d_M_restrict_98 : decode b_M_restrict 98 = .ok (.iinc 4 1, 3) := by decide +kernel
theorem d_M_restrict_101 : decode b_M_restrict 101 = .ok (.goto (-63), 3) := by decide +kernel
theorem d_M_restrict_104 : decode b_M_restrict 104 = .ok (.iload_n 3, 1) := by decide +kernel
theorem d_M_restrict_105 : decode b_M_restrict 105 = .ok (.ireturn, 1) := by decide +kernel
theorem d_M_copy_0 : decode b_M_copy 0 = .ok (.aload_n 0, 1) := by decide +kernel
theorem d_M_copy_1 : decode b_M_copy 1 = .ok (.iconst 0, 1) := by decide +kernel
theorem d_M_copy_2 : decode b_M_copy 2 = .ok (.putfield 65, 3) := by decide +kernel
theorem d_M_copy_5 : decode b_M_copy 5 = .ok (.iload_n 1, 1) := by decide +kernel
theorem d_M_copy_6 : decode b_M_copy 6 = .ok (.invokestatic 103, 3) := by decide +kernel
theorem d_M_copy_9 : decode b_M_copy 9 = .ok (.ifCond .ne 5, 3) := by decide +kernel
theorem d_M_copy_12 : decode b_M_copy 12 = .ok (.iconst (-1), 1) := by decide +kernel
theorem d_M_copy_13 : decode b_M_copy 13 = .ok (.ireturn, 1) := by decide +kernel
theorem d_M_copy_14 : decode b_M_copy 14 = .ok (.iload_n 2, 1) := by decide +kernel
theorem d_M_copy_15 : decode b_M_copy 15 = .ok (.iconst 1, 1) := by decide +kernel
theorem d_M_copy_16 : decode b_M_copy 16 = .ok (.sipush 500, 3) := by decide +kernel
theorem d_M_copy_19 : decode b_M_copy 19 = .ok (.invokestatic 68, 3) := by decide +kernel
theorem d_M_copy_22 : decode b_M_copy 22 = .ok (.ifCond .eq 11, 3) := by decide +kernel
theorem d_M_copy_25 : decode b_M_copy 25 = .ok (.aload_n 0, 1) := by decide +kernel
theorem d_M_copy_26 : decode b_M_copy 26 = .ok (.iload_n 3, 1) := by decide +kernel
theorem d_M_copy_27 : decode b_M_copy 27 = .ok (.invokevirtual 106, 3) := by decide +kernel
theorem d_M_copy_30 : decode b_M_copy 30 = .ok (.ifCond .ne 6, 3) := by decide +kernel
theorem d_M_copy_33 : decode b_M_copy 33 = .ok (.bipush (-2), 2) := by decide +kernel
theorem d_M_copy_35 : decode b_M_copy 35 = .ok (.ireturn, 1) := by decide +kernel
theorem d_M_copy_36 : decode b_M_copy 36 = .ok (.aload_n 0, 1) := by decide +kernel
theorem d_M_copy_37 : decode b_M_copy 37 = .ok (.getfield 31, 3) := by decide +kernel
theorem d_M_copy_40 : decode b_M_copy 40 = .ok (.iload_n 1, 1) := by decide +kernel
theorem d_M_copy_41 : decode b_M_copy 41 = .ok (.iaload, 1) := by decide +kernel
theorem d_M_copy_42 : decode b_M_copy 42 = .ok (.iconst 2, 1) := by decide +kernel
theorem d_M_copy_43 : decode b_M_copy 43 = .ok (.if_icmp .ne 13, 3) := by decide +kernel
theorem d_M_copy_46 : decode b_M_copy 46 = .ok (.aload_n 0, 1) := by decide +kernel
theorem d_M_copy_47 : decode b_M_copy 47 = .ok (.getfield 34, 3) := by decide +kernel
theorem d_M_copy_50 : decode b_M_copy 50 = .ok (.iload_n 1, 1) := by decide +kernel
theorem d_M_copy_51 : decode b_M_copy 51 = .ok (.iaload, 1) := by decide +kernel
theorem d_M_copy_52 : decode b_M_copy 52 = .ok (.iconst 1, 1) := by decide +kernel
theorem d_M_copy_53 : decode b_M_copy 53 = .ok (.if_icmp .le 6, 3) := by decide +kernel
theorem d_M_copy_56 : decode b_M_copy 56 = .ok (.bipush (-3), 2) := by decide +kernel
theorem d_M_copy_58 : decode b_M_copy 58 = .ok (.ireturn, 1) := by decide +kernel
theorem d_M_copy_59 : decode b_M_copy 59 = .ok (.aload_n 0, 1) := by decide +kernel
theorem d_M_copy_60 : decode b_M_copy 60 = .ok (.getfield 43, 3) := by decide +kernel
theorem d_M_copy_63 : decode b_M_copy 63 = .ok (.aload_n 0, 1) := by decide +kernel
theorem d_M_copy_64 : decode b_M_copy 64 = .ok (.getfield 40, 3) := by decide +kernel
theorem d_M_copy_67 : decode b_M_copy 67 = .ok (.iload_n 1, 1) := by decide +kernel
theorem d_M_copy_68 : decode b_M_copy 68 = .ok (.iaload, 1) := by decide +kernel
theorem d_M_copy_69 : decode b_M_copy 69 = .ok (.iaload, 1) := by decide +kernel
theorem d_M_copy_70 : decode b_M_copy 70 = .ok (.istore 4, 2) := by decide +kernel
theorem d_M_copy_72 : decode b_M_copy 72 = .ok (.aload_n 0, 1) := by decide +kernel
theorem d_M_copy_73 : decode b_M_copy 73 = .ok (.getfield 28, 3) := by decide +kernel
theorem d_M_copy_76 : decode b_M_copy 76 = .ok (.iload 4, 2) := by decide +kernel
theorem d_M_copy_78 : decode b_M_copy 78 = .ok (.iaload, 1) := by decide +kernel
theorem d_M_copy_79 : decode b_M_copy 79 = .ok (.iload_n 3, 1) := by decide +kernel
theorem d_M_copy_80 : decode b_M_copy 80 = .ok (.ldc 119, 2) := by decide +kernel
theorem d_M_copy_82 : decode b_M_copy 82 = .ok (.idiv, 1) := by decide +kernel
theorem d_M_copy_83 : decode b_M_copy 83 = .ok (.if_icmp .ne 13, 3) := by decide +kernel
theorem d_M_copy_86 : decode b_M_copy 86 = .ok (.aload_n 0, 1) := by decide +kernel
theorem d_M_copy_87 : decode b_M_copy 87 = .ok (.getfield 25, 3) := by decide +kernel
theorem d_M_copy_90 : decode b_M_copy 90 = .ok (.iload 4, 2) := by decide +kernel
theorem d_M_copy_92 : decode b_M_copy 92 = .ok (.iaload, 1) := by decide +kernel
theorem d_M_copy_93 : decode b_M_copy 93 = .ok (.goto 4, 3) := by decide +kernel
theorem d_M_copy_96 : decode b_M_copy 96 = .ok (.iconst 0, 1) := by decide +kernel
theorem d_M_copy_97 : decode b_M_copy 97 = .ok (.istore 5, 2) := by decide +kernel
theorem d_M_copy_99 : decode b_M_copy 99 = .ok (.iload 5, 2) := by decide +kernel
theorem d_M_copy_101 : decode b_M_copy 101 = .ok (.iload_n 2, 1) := by decide +kernel
theorem d_M_copy_102 : decode b_M_copy 102 = .ok (.iadd, 1) := by decide +kernel
theorem d_M_copy_103 : decode b_M_copy 103 = .ok (.aload_n 0, 1) := by decide +kernel
theorem d_M_copy_104 : decode b_M_copy 104 = .ok (.getfield 22, 3) := by decide +kernel
theorem d_M_copy_107 : decode b_M_copy 107 = .ok (.iload 4, 2) := by decide +kernel
theorem d_M_copy_109 : decode b_M_copy 109 = .ok (.iaload, 1) := by decide +kernel
theorem d_M_copy_110 : decode b_M_copy 110 = .ok (.if_icmp .le 6, 3) := by decide +kernel
theorem d_M_copy_113 : decode b_M_copy 113 = .ok (.bipush (-4), 2) := by decide +kernel
theorem d_M_copy_115 : decode b_M_copy 115 = .ok (.ireturn, 1) := by decide +kernel
theorem d_M_copy_116 : decode b_M_copy 116 = .ok (.aload_n 0, 1) := by decide +kernel
theorem d_M_copy_117 : decode b_M_copy 117 = .ok (.iload_n 3, 1) := by decide +kernel
theorem d_M_copy_118 : decode b_M_copy 118 = .ok (.putfield 72, 3) := by decide +kernel
theorem d_M_copy_121 : decode b_M_copy 121 = .ok (.aload_n 0, 1) := by decide +kernel
theorem d_M_copy_122 : decode b_M_copy 122 = .ok (.getfield 25, 3) := by decide +kernel
theorem d_M_copy_125 : decode b_M_copy 125 = .ok (.iload 4, 2) := by decide +kernel
theorem d_M_copy_127 : decode b_M_copy 127 = .ok (.iload 5, 2) := by decide +kernel
theorem d_M_copy_129 : decode b_M_copy 129 = .ok (.iload_n 2, 1) := by decide +kernel
theorem d_M_copy_130 : decode b_M_copy 130 = .ok (.iadd, 1) := by decide +kernel
theorem d_M_copy_131 : decode b_M_copy 131 = .ok (.iastore, 1) := by decide +kernel
theorem d_M_copy_132 : decode b_M_copy 132 = .ok (.aload_n 0, 1) := by decide +kernel
theorem d_M_copy_133 : decode b_M_copy 133 = .ok (.getfield 28, 3) := by decide +kernel
theorem d_M_copy_136 : decode b_M_copy 136 = .ok (.iload 4, 2) := by decide +kernel
theorem d_M_copy_138 : decode b_M_copy 138 = .ok (.iload_n 3, 1) := by decide +kernel
theorem d_M_copy_139 : decode b_M_copy 139 = .ok (.ldc 119, 2) := by decide +kernel
theorem d_M_copy_141 : decode b_M_copy 141 = .ok (.idiv, 1) := by decide +kernel
theorem d_M_copy_142 : decode b_M_copy 142 = .ok (.iastore, 1) := by decide +kernel
theorem d_M_copy_143 : decode b_M_copy 143 = .ok (.aload_n 0, 1) := by decide +kernel
theorem d_M_copy_144 : decode b_M_copy 144 = .ok (.getfield 22, 3) := by decide +kernel
theorem d_M_copy_147 : decode b_M_copy 147 = .ok (.iload 4, 2) := by decide +kernel
theorem d_M_copy_149 : decode b_M_copy 149 = .ok (.iaload, 1) := by decide +kernel
theorem d_M_copy_150 : decode b_M_copy 150 = .ok (.aload_n 0, 1) := by decide +kernel
theorem d_M_copy_151 : decode b_M_copy 151 = .ok (.getfield 25, 3) := by decide +kernel
theorem d_M_copy_154 : decode b_M_copy 154 = .ok (.iload 4, 2) := by decide +kernel
theorem d_M_copy_156 : decode b_M_copy 156 = .ok (.iaload, 1) := by decide +kernel
theorem d_M_copy_157 : decode b_M_copy 157 = .ok (.isub, 1) := by decide +kernel
theorem d_M_copy_158 : decode b_M_copy 158 = .ok (.ireturn, 1) := by decide +kernel
theorem d_M_close_0 : decode b_M_close 0 = .ok (.aload_n 0, 1) := by decide +kernel
theorem d_M_close_1 : decode b_M_close 1 = .ok (.iconst 0, 1) := by decide +kernel
theorem d_M_close_2 : decode b_M_close 2 = .ok (.putfield 65, 3) := by decide +kernel
theorem d_M_close_5 : decode b_M_close 5 = .ok (.aload_n 0, 1) := by decide +kernel
theorem d_M_close_6 : decode b_M_close 6 = .ok (.iload_n 1, 1) := by decide +kernel
theorem d_M_close_7 : decode b_M_close 7 = .ok (.invokevirtual 106, 3) := by decide +kernel
theorem d_M_close_10 : decode b_M_close 10 = .ok (.ifCond .ne 6, 3) := by decide +kernel
theorem d_M_close_13 : decode b_M_close 13 = .ok (.bipush (-2), 2) := by decide +kernel
theorem d_M_close_15 : decode b_M_close 15 = .ok (.ireturn, 1) := by decide +kernel
theorem d_M_close_16 : decode b_M_close 16 = .ok (.aload_n 0, 1) := by decide +kernel
theorem d_M_close_17 : decode b_M_close 17 = .ok (.iload_n 1, 1) := by decide +kernel
theorem d_M_close_18 : decode b_M_close 18 = .ok (.putfield 72, 3) := by decide +kernel
theorem d_M_close_21 : decode b_M_close 21 = .ok (.iconst 0, 1) := by decide +kernel
theorem d_M_close_22 : decode b_M_close 22 = .ok (.istore_n 2, 1) := by decide +kernel
theorem d_M_close_23 : decode b_M_close 23 = .ok (.iconst 0, 1) := by decide +kernel
theorem d_M_close_24 : decode b_M_close 24 = .ok (.istore_n 3, 1) := by decide +kernel
theorem d_M_close_25 : decode b_M_close 25 = .ok (.iload_n 3, 1) := by decide +kernel
theorem d_M_close_26 : decode b_M_close 26 = .ok (.bipush 80, 2) := by decide +kernel
theorem d_M_close_28 : decode b_M_close 28 = .ok (.if_icmp .ge 40, 3) := by decide +kernel
theorem d_M_close_31 : decode b_M_close 31 = .ok (.iload_n 2, 1) := by decide +kernel
theorem d_M_close_32 : decode b_M_close 32 = .ok (.aload_n 0, 1) := by decide +kernel
theorem d_M_close_33 : decode b_M_close 33 = .ok (.getfield 31, 3) := by decide +kernel
theorem d_M_close_36 : decode b_M_close 36 = .ok (.iload_n 3, 1) := by decide +kernel
theorem d_M_close_37 : decode b_M_close 37 = .ok (.iaload, 1) := by decide +kernel
theorem d_M_close_38 : decode b_M_close 38 = .ok (.ifCond .eq 7, 3) := by decide +kernel
theorem d_M_close_41 : decode b_M_close 41 = .ok (.iconst 1, 1) := by decide +kernel
theorem d_M_close_42 : decode b_M_close 42 = .ok (.goto 4, 3) := by decide +kernel
theorem d_M_close_45 : decode b_M_close 45 = .ok (.iconst 0, 1) := by decide +kernel
theorem d_M_close_46 : decode b_M_close 46 = .ok (.iadd, 1) := by decide +kernel
theorem d_M_close_47 : decode b_M_close 47 = .ok (.istore_n 2, 1) := by decide +kernel
theorem d_M_close_48 : decode b_M_close 48 = .ok (.aload_n 0, 1) := by decide +kernel
theorem d_M_close_49 : decode b_M_close 49 = .ok (.getfield 31, 3) := by decide +kernel
theorem d_M_close_52 : decode b_M_close 52 = .ok (.iload_n 3, 1) := by decide +kernel
theorem d_M_close_53 : decode b_M_close 53 = .ok (.iconst 0, 1) := by decide +kernel
theorem d_M_close_54 : decode b_M_close 54 = .ok (.iastore, 1) := by decide +kernel
theorem d_M_close_55 : decode b_M_close 55 = .ok (.aload_n 0, 1) := by decide +kernel
theorem d_M_close_56 : decode b_M_close 56 = .ok (.getfield 40, 3) := by decide +kernel
theorem d_M_close_59 : decode b_M_close 59 = .ok (.iload_n 3, 1) := by decide +kernel
theorem d_M_close_60 : decode b_M_close 60 = .ok (.iconst (-1), 1) := by decide +kernel
theorem d_M_close_61 : decode b_M_close 61 = .ok (.iastore, 1) := by decide +kernel
theorem d_M_close_62 : decode b_M_close 62 = .ok (.iinc 3 1, 3) := by decide +kernel
theorem d_M_close_65 : decode b_M_close 65 = .ok (.goto (-40), 3) := by decide +kernel
theorem d_M_close_68 : decode b_M_close 68 = .ok (.iconst 0, 1) := by decide +kernel
theorem d_M_close_69 : decode b_M_close 69 = .ok (.istore_n 3, 1) := by decide +kernel
theorem d_M_close_70 : decode b_M_close 70 = .ok (.iload_n 3, 1) := by decide +kernel
theorem d_M_close_71 : decode b_M_close 71 = .ok (.aload_n 0, 1) := by decide +kernel
theorem d_M_close_72 : decode b_M_close 72 = .ok (.getfield 97, 3) := by decide +kernel
theorem d_M_close_75 : decode b_M_close 75 = .ok (.if_icmp .ge 65, 3) := by decide +kernel
theorem d_M_close_78 : decode b_M_close 78 = .ok (.aload_n 0, 1) := by decide +kernel
theorem d_M_close_79 : decode b_M_close 79 = .ok (.getfield 49, 3) := by decide +kernel
theorem d_M_close_82 : decode b_M_close 82 = .ok (.iload_n 3, 1) := by decide +kernel
theorem d_M_close_83 : decode b_M_close 83 = .ok (.iaload, 1) := by decide +kernel
theorem d_M_close_84 : decode b_M_close 84 = .ok (.iconst 2, 1) := by decide +kernel
theorem d_M_close_85 : decode b_M_close 85 = .ok (.if_icmp .ne 10, 3) := by decide +kernel
theorem d_M_close_88 : decode b_M_close 88 = .ok (.aload_n 0, 1) := by decide +kernel
theorem d_M_close_89 : decode b_M_close 89 = .ok (.getfield 58, 3) := by decide +kernel
theorem d_M_close_92 : decode b_M_close 92 = .ok (.iload_n 3, 1) := by decide +kernel
theorem d_M_close_93 : decode b_M_close 93 = .ok (.iload_n 1, 1) := by decide +kernel
theorem d_M_close_94 : decode b_M_close 94 = .ok (.iastore, 1) := by decide +kernel
theorem d_M_close_95 : decode b_M_close 95 = .ok (.aload_n 0, 1) := by decide +kernel
theorem d_M_close_96 : decode b_M_close 96 = .ok (.getfield 49, 3) := by decide +kernel
theorem d_M_close_99 : decode b_M_close 99 = .ok (.iload_n 3, 1) := by decide +kernel
theorem d_M_close_100 : decode b_M_close 100 = .ok (.aload_n 0, 1) := by decide +kernel
theorem d_M_close_101 : decode b_M_close 101 = .ok (.getfield 49, 3) := by decide +kernel
theorem d_M_close_104 : decode b_M_close 104 = .ok (.iload_n 3, 1) := by decide +kernel
theorem d_M_close_105 : decode b_M_close 105 = .ok (.iaload, 1) := by decide +kernel
theorem d_M_close_106 : decode b_M_close 106 = .ok (.ifCond .ne 7, 3) := by decide +kernel
theorem d_M_close_109 : decode b_M_close 109 = .ok (.iconst 4, 1) := by decide +kernel
theorem d_M_close_110 : decode b_M_close 110 = .ok (.goto 23, 3) := by decide +kernel
theorem d_M_close_113 : decode b_M_close 113 = .ok (.aload_n 0, 1) := by decide +kernel
theorem d_M_close_114 : decode b_M_close 114 = .ok (.getfield 49, 3) := by decide +kernel
theorem d_M_close_117 : decode b_M_close 117 = .ok (.iload_n 3, 1) := by decide +kernel
theorem d_M_close_118 : decode b_M_close 118 = .ok (.iaload, 1) := by decide +kernel
theorem d_M_close_119 : decode b_M_close 119 = .ok (.iconst 3, 1) := by decide +kernel
theorem d_M_close_120 : decode b_M_close 120 = .ok (.if_icmp .ge 7, 3) := by decide +kernel
theorem d_M_close_123 : decode b_M_close 123 = .ok (.iconst 3, 1) := by decide +kernel
theorem d_M_close_124 : decode b_M_close 124 = .ok (.goto 9, 3) := by decide +kernel
theorem d_M_close_127 : decode b_M_close 127 = .ok (.aload_n 0, 1) := by decide +kernel
theorem d_M_close_128 : decode b_M_close 128 = .ok (.getfield 49, 3) := by decide +kernel
theorem d_M_close_131 : decode b_M_close 131 = .ok (.iload_n 3, 1) := by decide +kernel
theorem d_M_close_132 : decode b_M_close 132 = .ok (.iaload, 1) := by decide +kernel
theorem d_M_close_133 : decode b_M_close 133 = .ok (.iastore, 1) := by decide +kernel
theorem d_M_close_134 : decode b_M_close 134 = .ok (.iinc 3 1, 3) := by decide +kernel
theorem d_M_close_137 : decode b_M_close 137 = .ok (.goto (-67), 3) := by decide +kernel
theorem d_M_close_140 : decode b_M_close 140 = .ok (.iconst 0, 1) := by decide +kernel
theorem d_M_close_141 : decode b_M_close 141 = .ok (.istore_n 3, 1) := by decide +kernel
theorem d_M_close_142 : decode b_M_close 142 = .ok (.iload_n 3, 1) := by decide +kernel
theorem d_M_close_143 : decode b_M_close 143 = .ok (.aload_n 0, 1) := by decide +kernel
theorem d_M_close_144 : decode b_M_close 144 = .ok (.getfield 61, 3) := by decide +kernel
theorem d_M_close_147 : decode b_M_close 147 = .ok (.if_icmp .ge 16, 3) := by decide +kernel
theorem d_M_close_150 : decode b_M_close 150 = .ok (.aload_n 0, 1) := by decide +kernel
theorem d_M_close_151 : decode b_M_close 151 = .ok (.getfield 7, 3) := by decide +kernel
theorem d_M_close_154 : decode b_M_close 154 = .ok (.iload_n 3, 1) := by decide +kernel
theorem d_M_close_155 : decode b_M_close 155 = .ok (.iconst (-1), 1) := by decide +kernel
theorem d_M_close_156 : decode b_M_close 156 = .ok (.iastore, 1) := by decide +kernel
theorem d_M_close_157 : decode b_M_close 157 = .ok (.iinc 3 1, 3) := by decide +kernel
theorem d_M_close_160 : decode b_M_close 160 = .ok (.goto (-18), 3) := by decide +kernel
theorem d_M_close_163 : decode b_M_close 163 = .ok (.aload_n 0, 1) := by decide +kernel
theorem d_M_close_164 : decode b_M_close 164 = .ok (.iconst 0, 1) := by decide +kernel
theorem d_M_close_165 : decode b_M_close 165 = .ok (.putfield 76, 3) := by decide +kernel
theorem d_M_close_168 : decode b_M_close 168 = .ok (.iload_n 2, 1) := by decide +kernel
theorem d_M_close_169 : decode b_M_close 169 = .ok (.ireturn, 1) := by decide +kernel
theorem d_M_unit_0 : decode b_M_unit 0 = .ok (.aload_n 0, 1) := by decide +kernel
theorem d_M_unit_1 : decode b_M_unit 1 = .ok (.iconst 0, 1) := by decide +kernel
theorem d_M_unit_2 : decode b_M_unit 2 = .ok (.putfield 65, 3) := by decide +kernel
theorem d_M_unit_5 : decode b_M_unit 5 = .ok (.iload_n 1, 1) := by decide +kernel
theorem d_M_unit_6 : decode b_M_unit 6 = .ok (.invokestatic 103, 3) := by decide +kernel
theorem d_M_unit_9 : decode b_M_unit 9 = .ok (.ifCond .eq 12, 3) := by decide +kernel
theorem d_M_unit_12 : decode b_M_unit 12 = .ok (.iload_n 2, 1) := by decide +kernel
theorem d_M_unit_13 : decode b_M_unit 13 = .ok (.iconst 0, 1) := by decide +kernel
theorem d_M_unit_14 : decode b_M_unit 14 = .ok (.iconst 4, 1) := by decide +kernel
theorem d_M_unit_15 : decode b_M_unit 15 = .ok (.invokestatic 68, 3) := by decide +kernel
theorem d_M_unit_18 : decode b_M_unit 18 = .ok (.ifCond .ne 5, 3) := by decide +kernel
theorem d_M_unit_21 : decode b_M_unit 21 = .ok (.iconst (-1), 1) := by decide +kernel
theorem d_M_unit_22 : decode b_M_unit 22 = .ok (.ireturn, 1) := by decide +kernel
theorem d_M_unit_23 : decode b_M_unit 23 = .ok (.iload_n 2, 1) := by decide +kernel
theorem d_M_unit_24 : decode b_M_unit 24 = .ok (.iconst 4, 1) := by decide +kernel
theorem d_M_unit_25 : decode b_M_unit 25 = .ok (.if_icmp .ge 51, 3) := by decide +kernel
theorem d_M_unit_28 : decode b_M_unit 28 = .ok (.iload_n 2, 1) := by decide +kernel
theorem d_M_unit_29 : decode b_M_unit 29 = .ok (.ifCond .ne 12, 3) := by decide +kernel
theorem d_M_unit_32 : decode b_M_unit 32 = .ok (.aload_n 0, 1) := by decide +kernel
theorem d_M_unit_33 : decode b_M_unit 33 = .ok (.getfield 31, 3) := by decide +kernel
theorem d_M_unit_36 : decode b_M_unit 36 = .ok (.iload_n 1, 1) := by decide +kernel
theorem d_M_unit_37 : decode b_M_unit 37 = .ok (.iaload, 1) := by decide +kernel
theorem d_M_unit_38 : decode b_M_unit 38 = .ok (.goto 37, 3) := by decide +kernel
theorem d_M_unit_41 : decode b_M_unit 41 = .ok (.iload_n 2, 1) := by decide +kernel
theorem d_M_unit_42 : decode b_M_unit 42 = .ok (.iconst 1, 1) := by decide +kernel
theorem d_M_unit_43 : decode b_M_unit 43 = .ok (.if_icmp .ne 12, 3) := by decide +kernel
theorem d_M_unit_46 : decode b_M_unit 46 = .ok (.aload_n 0, 1) := by decide +kernel
theorem d_M_unit_47 : decode b_M_unit 47 = .ok (.getfield 34, 3) := by decide +kernel
theorem d_M_unit_50 : decode b_M_unit 50 = .ok (.iload_n 1, 1) := by decide +kernel
theorem d_M_unit_51 : decode b_M_unit 51 = .ok (.iaload, 1) := by decide +kernel
theorem d_M_unit_52 : decode b_M_unit 52 = .ok (.goto 23, 3) := by decide +kernel
theorem d_M_unit_55 : decode b_M_unit 55 = .ok (.iload_n 2, 1) := by decide +kernel
theorem d_M_unit_56 : decode b_M_unit 56 = .ok (.iconst 2, 1) := by decide +kernel
theorem d_M_unit_57 : decode b_M_unit 57 = .ok (.if_icmp .ne 12, 3) := by decide +kernel
theorem d_M_unit_60 : decode b_M_unit 60 = .ok (.aload_n 0, 1) := by decide +kernel
theorem d_M_unit_61 : decode b_M_unit 61 = .ok (.getfield 37, 3) := by decide +kernel
theorem d_M_unit_64 : decode b_M_unit 64 = .ok (.iload_n 1, 1) := by decide +kernel
theorem d_M_unit_65 : decode b_M_unit 65 = .ok (.iaload, 1) := by decide +kernel
theorem d_M_unit_66 : decode b_M_unit 66 = .ok (.goto 9, 3) := by decide +kernel
theorem d_M_unit_69 : decode b_M_unit 69 = .ok (.aload_n 0, 1) := by decide +kernel
theorem d_M_unit_70 : decode b_M_unit 70 = .ok (.getfield 40, 3) := by decide +kernel
theorem d_M_unit_73 : decode b_M_unit 73 = .ok (.iload_n 1, 1) := by decide +kernel
theorem d_M_unit_74 : decode b_M_unit 74 = .ok (.iaload, 1) := by decide +kernel
theorem d_M_unit_75 : decode b_M_unit 75 = .ok (.ireturn, 1) := by decide +kernel
theorem d_M_unit_76 : decode b_M_unit 76 = .ok (.iconst 0, 1) := by decide +kernel
theorem d_M_unit_77 : decode b_M_unit 77 = .ok (.istore_n 3, 1) := by decide +kernel
theorem d_M_unit_78 : decode b_M_unit 78 = .ok (.iconst 0, 1) := by decide +kernel
theorem d_M_unit_79 : decode b_M_unit 79 = .ok (.istore 4, 2) := by decide +kernel
theorem d_M_unit_81 : decode b_M_unit 81 = .ok (.iload 4, 2) := by decide +kernel
theorem d_M_unit_83 : decode b_M_unit 83 = .ok (.aload_n 0, 1) := by decide +kernel
theorem d_M_unit_84 : decode b_M_unit 84 = .ok (.getfield 97, 3) := by decide +kernel
theorem d_M_unit_87 : decode b_M_unit 87 = .ok (.if_icmp .ge 38, 3) := by decide +kernel
theorem d_M_unit_90 : decode b_M_unit 90 = .ok (.iload_n 3, 1) := by decide +kernel
theorem d_M_unit_91 : decode b_M_unit 91 = .ok (.aload_n 0, 1) := by decide +kernel
theorem d_M_unit_92 : decode b_M_unit 92 = .ok (.getfield 46, 3) := by decide +kernel
theorem d_M_unit_95 : decode b_M_unit 95 = .ok (.iload 4, 2) := by decide +kernel
theorem d_M_unit_97 : decode b_M_unit 97 = .ok (.iaload, 1) := by decide +kernel
theorem d_M_unit_98 : decode b_M_unit 98 = .ok (.iload_n 1, 1) := by decide +kernel
theorem d_M_unit_99 : decode b_M_unit 99 = .ok (.if_icmp .ne 17, 3) := by decide +kernel
theorem d_M_unit_102 : decode b_M_unit 102 = .ok (.aload_n 0, 1) := by decide +kernel
theorem d_M_unit_103 : decode b_M_unit 103 = .ok (.getfield 49, 3) := by decide +kernel
theorem d_M_unit_106 : decode b_M_unit 106 = .ok (.iload 4, 2) := by decide +kernel
theorem d_M_unit_108 : decode b_M_unit 108 = .ok (.iaload, 1) := by decide +kernel
theorem d_M_unit_109 : decode b_M_unit 109 = .ok (.ifCond .ne 7, 3) := by decide +kernel
theorem d_M_unit_112 : decode b_M_unit 112 = .ok (.iconst 1, 1) := by decide +kernel
theorem d_M_unit_113 : decode b_M_unit 113 = .ok (.goto 4, 3) := by decide +kernel
theorem d_M_unit_116 : decode b_M_unit 116 = .ok (.iconst 0, 1) := by decide +kernel
theorem d_M_unit_117 : decode b_M_unit 117 = .ok (.iadd, 1) := by decide +kernel
theorem d_M_unit_118 : decode b_M_unit 118 = .ok (.istore_n 3, 1) := by decide +kernel
theorem d_M_unit_119 : decode b_M_unit 119 = .ok (.iinc 4 1, 3) := by decide +kernel
theorem d_M_unit_122 : decode b_M_unit 122 = .ok (.goto (-41), 3) := by decide +kernel
theorem d_M_unit_125 : decode b_M_unit 125 = .ok (.iload_n 3, 1) := by decide +kernel
theorem d_M_unit_126 : decode b_M_unit 126 = .ok (.ireturn, 1) := by decide +kernel
theorem d_M_person_0 : decode b_M_person 0 = .ok (.aload_n 0, 1) := by decide +kernel
theorem d_M_person_1 : decode b_M_person 1 = .ok (.iconst 0, 1) := by decide +kernel
theorem d_M_person_2 : decode b_M_person 2 = .ok (.putfield 65, 3) := by decide +kernel
theorem d_M_person_5 : decode b_M_person 5 = .ok (.iload_n 1, 1) := by decide +kernel
theorem d_M_person_6 : decode b_M_person 6 = .ok (.invokestatic 79, 3) := by decide +kernel
theorem d_M_person_9 : decode b_M_person 9 = .ok (.ifCond .ne 5, 3) := by decide +kernel
theorem d_M_person_12 : decode b_M_person 12 = .ok (.iconst (-1), 1) := by decide +kernel
theorem d_M_person_13 : decode b_M_person 13 = .ok (.ireturn, 1) := by decide +kernel
theorem d_M_person_14 : decode b_M_person 14 = .ok (.iload_n 2, 1) := by decide +kernel
theorem d_M_person_15 : decode b_M_person 15 = .ok (.tableswitch 64 0 4 #[33, 39, 45, 51, 57], 33) := by decide +kernel
theorem d_M_person_48 : decode b_M_person 48 = .ok (.aload_n 0, 1) := by decide +kernel
theorem d_M_person_49 : decode b_M_person 49 = .ok (.iload_n 1, 1) := by decide +kernel
theorem d_M_person_50 : decode b_M_person 50 = .ok (.invokevirtual 83, 3) := by decide +kernel
theorem d_M_person_53 : decode b_M_person 53 = .ok (.ireturn, 1) := by decide +kernel
theorem d_M_person_54 : decode b_M_person 54 = .ok (.aload_n 0, 1) := by decide +kernel
theorem d_M_person_55 : decode b_M_person 55 = .ok (.iload_n 1, 1) := by decide +kernel
theorem d_M_person_56 : decode b_M_person 56 = .ok (.invokevirtual 87, 3) := by decide +kernel
theorem d_M_person_59 : decode b_M_person 59 = .ok (.ireturn, 1) := by decide +kernel
theorem d_M_person_60 : decode b_M_person 60 = .ok (.aload_n 0, 1) := by decide +kernel
theorem d_M_person_61 : decode b_M_person 61 = .ok (.iload_n 1, 1) := by decide +kernel
theorem d_M_person_62 : decode b_M_person 62 = .ok (.invokevirtual 109, 3) := by decide +kernel
theorem d_M_person_65 : decode b_M_person 65 = .ok (.ireturn, 1) := by decide +kernel
theorem d_M_person_66 : decode b_M_person 66 = .ok (.aload_n 0, 1) := by decide +kernel
theorem d_M_person_67 : decode b_M_person 67 = .ok (.iload_n 1, 1) := by decide +kernel
theorem d_M_person_68 : decode b_M_person 68 = .ok (.invokevirtual 90, 3) := by decide +kernel
theorem d_M_person_71 : decode b_M_person 71 = .ok (.ireturn, 1) := by decide +kernel
theorem d_M_person_72 : decode b_M_person 72 = .ok (.aload_n 0, 1) := by decide +kernel
theorem d_M_person_73 : decode b_M_person 73 = .ok (.getfield 25, 3) := by decide +kernel
theorem d_M_person_76 : decode b_M_person 76 = .ok (.iload_n 1, 1) := by decide +kernel
theorem d_M_person_77 : decode b_M_person 77 = .ok (.iaload, 1) := by decide +kernel
theorem d_M_person_78 : decode b_M_person 78 = .ok (.ireturn, 1) := by decide +kernel
theorem d_M_person_79 : decode b_M_person 79 = .ok (.iconst (-1), 1) := by decide +kernel
theorem d_M_person_80 : decode b_M_person 80 = .ok (.ireturn, 1) := by decide +kernel
theorem d_M_request_0 : decode b_M_request 0 = .ok (.aload_n 0, 1) := by decide +kernel
theorem d_M_request_1 : decode b_M_request 1 = .ok (.iload_n 1, 1) := by decide +kernel
theorem d_M_request_2 : decode b_M_request 2 = .ok (.iconst 0, 1) := by decide +kernel
theorem d_M_request_3 : decode b_M_request 3 = .ok (.aload_n 0, 1) := by decide +kernel
theorem d_M_request_4 : decode b_M_request 4 = .ok (.getfield 97, 3) := by decide +kernel
theorem d_M_request_7 : decode b_M_request 7 = .ok (.iconst 1, 1) := by decide +kernel
theorem d_M_request_8 : decode b_M_request 8 = .ok (.isub, 1) := by decide +kernel
theorem d_M_request_9 : decode b_M_request 9 = .ok (.invokestatic 68, 3) := by decide +kernel
theorem d_M_request_12 : decode b_M_request 12 = .ok (.ifCond .eq 12, 3) := by decide +kernel
theorem d_M_request_15 : decode b_M_request 15 = .ok (.iload_n 2, 1) := by decide +kernel
theorem d_M_request_16 : decode b_M_request 16 = .ok (.iconst 0, 1) := by decide +kernel
theorem d_M_request_17 : decode b_M_request 17 = .ok (.iconst 5, 1) := by decide +kernel
theorem d_M_request_18 : decode b_M_request 18 = .ok (.invokestatic 68, 3) := by decide +kernel
theorem d_M_request_21 : decode b_M_request 21 = .ok (.ifCond .ne 7, 3) := by decide +kernel
theorem d_M_request_24 : decode b_M_request 24 = .ok (.iconst 1, 1) := by decide +kernel
theorem d_M_request_25 : decode b_M_request 25 = .ok (.goto 4, 3) := by decide +kernel
theorem d_M_request_28 : decode b_M_request 28 = .ok (.iconst 0, 1) := by decide +kernel
theorem d_M_request_29 : decode b_M_request 29 = .ok (.putfield 65, 3) := by decide +kernel
theorem d_M_request_32 : decode b_M_request 32 = .ok (.aload_n 0, 1) := by decide +kernel
theorem d_M_request_33 : decode b_M_request 33 = .ok (.getfield 65, 3) := by decide +kernel
theorem d_M_request_36 : decode b_M_request 36 = .ok (.ifCond .le 5, 3) := by decide +kernel
theorem d_M_request_39 : decode b_M_request 39 = .ok (.iconst 0, 1) := by decide +kernel
theorem d_M_request_40 : decode b_M_request 40 = .ok (.ireturn, 1) := by decide +kernel
theorem d_M_request_41 : decode b_M_request 41 = .ok (.iload_n 2, 1) := by decide +kernel
theorem d_M_request_42 : decode b_M_request 42 = .ok (.ifCond .ne 12, 3) := by decide +kernel
theorem d_M_request_45 : decode b_M_request 45 = .ok (.aload_n 0, 1) := by decide +kernel
theorem d_M_request_46 : decode b_M_request 46 = .ok (.getfield 43, 3) := by decide +kernel
theorem d_M_request_49 : decode b_M_request 49 = .ok (.iload_n 1, 1) := by decide +kernel
theorem d_M_request_50 : decode b_M_request 50 = .ok (.iaload, 1) := by decide +kernel
theorem d_M_request_51 : decode b_M_request 51 = .ok (.goto 65, 3) := by decide +kernel
theorem d_M_request_54 : decode b_M_request 54 = .ok (.iload_n 2, 1) := by decide +kernel
theorem d_M_request_55 : decode b_M_request 55 = .ok (.iconst 1, 1) := by decide +kernel
theorem d_M_request_56 : decode b_M_request 56 = .ok (.if_icmp .ne 12, 3) := by decide +kernel
theorem d_M_request_59 : decode b_M_request 59 = .ok (.aload_n 0, 1) := by decide +kernel
theorem d_M_request_60 : decode b_M_request 60 = .ok (.getfield 46, 3) := by decide +kernel
theorem d_M_request_63 : decode b_M_request 63 = .ok (.iload_n 1, 1) := by decide +kernel
theorem d_M_request_64 : decode b_M_request 64 = .ok (.iaload, 1) := by decide +kernel
theorem d_M_request_65 : decode b_M_request 65 = .ok (.goto 51, 3) := by decide +kernel
theorem d_M_request_68 : decode b_M_request 68 = .ok (.iload_n 2, 1) := by decide +kernel
theorem d_M_request_69 : decode b_M_request 69 = .ok (.iconst 2, 1) := by decide +kernel
theorem d_M_request_70 : decode b_M_request 70 = .ok (.if_icmp .ne 12, 3) := by decide +kernel
theorem d_M_request_73 : decode b_M_request 73 = .ok (.aload_n 0, 1) := by decide +kernel
theorem d_M_request_74 : decode b_M_request 74 = .ok (.getfield 49, 3) := by decide +kernel
theorem d_M_request_77 : decode b_M_request 77 = .ok (.iload_n 1, 1) := by decide +kernel
theorem d_M_request_78 : decode b_M_request 78 = .ok (.iaload, 1) := by decide +kernel
theorem d_M_request_79 : decode b_M_request 79 = .ok (.goto 37, 3) := by decide +kernel
theorem d_M_request_82 : decode b_M_request 82 = .ok (.iload_n 2, 1) := by decide +kernel
theorem d_M_request_83 : decode b_M_request 83 = .ok (.iconst 3, 1) := by decide +kernel
theorem d_M_request_84 : decode b_M_request 84 = .ok (.if_icmp .ne 12, 3) := by decide +kernel
theorem d_M_request_87 : decode b_M_request 87 = .ok (.aload_n 0, 1) := by decide +kernel
theorem d_M_request_88 : decode b_M_request 88 = .ok (.getfield 52, 3) := by decide +kernel
theorem d_M_request_91 : decode b_M_request 91 = .ok (.iload_n 1, 1) := by decide +kernel
theorem d_M_request_92 : decode b_M_request 92 = .ok (.iaload, 1) := by decide +kernel
theorem d_M_request_93 : decode b_M_request 93 = .ok (.goto 23, 3) := by decide +kernel
theorem d_M_request_96 : decode b_M_request 96 = .ok (.iload_n 2, 1) := by decide +kernel
theorem d_M_request_97 : decode b_M_request 97 = .ok (.iconst 4, 1) := by decide +kernel
theorem d_M_request_98 : decode b_M_request 98 = .ok (.if_icmp .ne 12, 3) := by decide +kernel
theorem d_M_request_101 : decode b_M_request 101 = .ok (.aload_n 0, 1) := by decide +kernel
theorem d_M_request_102 : decode b_M_request 102 = .ok (.getfield 55, 3) := by decide +kernel
theorem d_M_request_105 : decode b_M_request 105 = .ok (.iload_n 1, 1) := by decide +kernel
theorem d_M_request_106 : decode b_M_request 106 = .ok (.iaload, 1) := by decide +kernel
theorem d_M_request_107 : decode b_M_request 107 = .ok (.goto 9, 3) := by decide +kernel
theorem d_M_request_110 : decode b_M_request 110 = .ok (.aload_n 0, 1) := by decide +kernel
theorem d_M_request_111 : decode b_M_request 111 = .ok (.getfield 58, 3) := by decide +kernel
theorem d_M_request_114 : decode b_M_request 114 = .ok (.iload_n 1, 1) := by decide +kernel
theorem d_M_request_115 : decode b_M_request 115 = .ok (.iaload, 1) := by decide +kernel
theorem d_M_request_116 : decode b_M_request 116 = .ok (.ireturn, 1) := by decide +kernel
theorem d_M_waits_0 : decode b_M_waits 0 = .ok (.iload_n 2, 1) := by decide +kernel
theorem d_M_waits_1 : decode b_M_waits 1 = .ok (.istore_n 3, 1) := by decide +kernel
theorem d_M_waits_2 : decode b_M_waits 2 = .ok (.iconst 0, 1) := by decide +kernel
theorem d_M_waits_3 : decode b_M_waits 3 = .ok (.istore 4, 2) := by decide +kernel
theorem d_M_waits_5 : decode b_M_waits 5 = .ok (.iload 4, 2) := by decide +kernel
theorem d_M_waits_7 : decode b_M_waits 7 = .ok (.aload_n 0, 1) := by decide +kernel
theorem d_M_waits_8 : decode b_M_waits 8 = .ok (.getfield 97, 3) := by decide +kernel
theorem d_M_waits_11 : decode b_M_waits 11 = .ok (.if_icmp .ge 48, 3) := by decide +kernel
theorem d_M_waits_14 : decode b_M_waits 14 = .ok (.aload_n 0, 1) := by decide +kernel
theorem d_M_waits_15 : decode b_M_waits 15 = .ok (.getfield 46, 3) := by decide +kernel
theorem d_M_waits_18 : decode b_M_waits 18 = .ok (.iload 4, 2) := by decide +kernel
theorem d_M_waits_20 : decode b_M_waits 20 = .ok (.iaload, 1) := by decide +kernel
theorem d_M_waits_21 : decode b_M_waits 21 = .ok (.iload_n 1, 1) := by decide +kernel
theorem d_M_waits_22 : decode b_M_waits 22 = .ok (.if_icmp .ne 31, 3) := by decide +kernel
theorem d_M_waits_25 : decode b_M_waits 25 = .ok (.aload_n 0, 1) := by decide +kernel
theorem d_M_waits_26 : decode b_M_waits 26 = .ok (.getfield 49, 3) := by decide +kernel
theorem d_M_waits_29 : decode b_M_waits 29 = .ok (.iload 4, 2) := by decide +kernel
theorem d_M_waits_31 : decode b_M_waits 31 = .ok (.iaload, 1) := by decide +kernel
theorem d_M_waits_32 : decode b_M_waits 32 = .ok (.ifCond .eq 6, 3) := by decide +kernel
theorem d_M_waits_35 : decode b_M_waits 35 = .ok (.goto 18, 3) := by decide +kernel
theorem d_M_waits_38 : decode b_M_waits 38 = .ok (.iload_n 3, 1) := by decide +kernel
theorem d_M_waits_39 : decode b_M_waits 39 = .ok (.ifCond .ne 11, 3) := by decide +kernel
theorem d_M_waits_42 : decode b_M_waits 42 = .ok (.aload_n 0, 1) := by decide +kernel
theorem d_M_waits_43 : decode b_M_waits 43 = .ok (.iconst 0, 1) := by decide +kernel
theorem d_M_waits_44 : decode b_M_waits 44 = .ok (.putfield 65, 3) := by decide +kernel
theorem d_M_waits_47 : decode b_M_waits 47 = .ok (.iload 4, 2) := by decide +kernel
theorem d_M_waits_49 : decode b_M_waits 49 = .ok (.ireturn, 1) := by decide +kernel
theorem d_M_waits_50 : decode b_M_waits 50 = .ok (.iinc 3 (-1), 3) := by decide +kernel
theorem d_M_waits_53 : decode b_M_waits 53 = .ok (.iinc 4 1, 3) := by decide +kernel
theorem d_M_waits_56 : decode b_M_waits 56 = .ok (.goto (-51), 3) := by decide +kernel
theorem d_M_waits_59 : decode b_M_waits 59 = .ok (.aload_n 0, 1) := by decide +kernel
theorem d_M_waits_60 : decode b_M_waits 60 = .ok (.iconst 1, 1) := by decide +kernel
theorem d_M_waits_61 : decode b_M_waits 61 = .ok (.putfield 65, 3) := by decide +kernel
theorem d_M_waits_64 : decode b_M_waits 64 = .ok (.iconst 0, 1) := by decide +kernel
theorem d_M_waits_65 : decode b_M_waits 65 = .ok (.ireturn, 1) := by decide +kernel
end
section
theorem d_L_cell_0 : decode b_L_cell 0 = .ok (.iload_n 1, 1) := by decide +kernel
theorem d_L_cell_1 : decode b_L_cell 1 = .ok (.aload_n 0, 1) := by decide +kernel
theorem d_L_cell_2 : decode b_L_cell 2 = .ok (.arraylength, 1) := by decide +kernel
theorem d_L_cell_3 : decode b_L_cell 3 = .ok (.if_icmp .ge 9, 3) := by decide +kernel
theorem d_L_cell_6 : decode b_L_cell 6 = .ok (.aload_n 0, 1) := by decide +kernel
theorem d_L_cell_7 : decode b_L_cell 7 = .ok (.iload_n 1, 1) := by decide +kernel
theorem d_L_cell_8 : decode b_L_cell 8 = .ok (.iaload, 1) := by decide +kernel
theorem d_L_cell_9 : decode b_L_cell 9 = .ok (.goto 4, 3) := by decide +kernel
theorem d_L_cell_12 : decode b_L_cell 12 = .ok (.iconst 0, 1) := by decide +kernel
theorem d_L_cell_13 : decode b_L_cell 13 = .ok (.ireturn, 1) := by decide +kernel
theorem d_L_request_0 : decode b_L_request 0 = .ok (.aload_n 3, 1) := by decide +kernel
theorem d_L_request_1 : decode b_L_request 1 = .ok (.iconst 0, 1) := by decide +kernel
theorem d_L_request_2 : decode b_L_request 2 = .ok (.aload_n 0, 1) := by decide +kernel
theorem d_L_request_3 : decode b_L_request 3 = .ok (.iload_n 1, 1) := by decide +kernel
theorem d_L_request_4 : decode b_L_request 4 = .ok (.iload_n 2, 1) := by decide +kernel
theorem d_L_request_5 : decode b_L_request 5 = .ok (.invokevirtual 7, 3) := by decide +kernel
theorem d_L_request_8 : decode b_L_request 8 = .ok (.i2l, 1) := by decide +kernel
theorem d_L_request_9 : decode b_L_request 9 = .ok (.lastore, 1) := by decide +kernel
theorem d_L_request_10 : decode b_L_request 10 = .ok (.goto 7, 3) := by decide +kernel
theorem d_L_request_13 : decode b_L_request 13 = .ok (.astore 4, 2) := by decide +kernel
theorem d_L_request_15 : decode b_L_request 15 = .ok (.iconst 1, 1) := by decide +kernel
theorem d_L_request_16 : decode b_L_request 16 = .ok (.ireturn, 1) := by decide +kernel
theorem d_L_request_17 : decode b_L_request 17 = .ok (.iconst 0, 1) := by decide +kernel
theorem d_L_request_18 : decode b_L_request 18 = .ok (.ireturn, 1) := by decide +kernel
theorem d_L_waits_0 : decode b_L_waits 0 = .ok (.aload_n 3, 1) := by decide +kernel
theorem d_L_waits_1 : decode b_L_waits 1 = .ok (.iconst 0, 1) := by decide +kernel
theorem d_L_waits_2 : decode b_L_waits 2 = .ok (.aload_n 0, 1) := by decide +kernel
theorem d_L_waits_3 : decode b_L_waits 3 = .ok (.iload_n 1, 1) := by decide +kernel
theorem d_L_waits_4 : decode b_L_waits 4 = .ok (.iload_n 2, 1) := by decide +kernel
theorem d_L_waits_5 : decode b_L_waits 5 = .ok (.invokevirtual 15, 3) := by decide +kernel
theorem d_L_waits_8 : decode b_L_waits 8 = .ok (.i2l, 1) := by decide +kernel
theorem d_L_waits_9 : decode b_L_waits 9 = .ok (.lastore, 1) := by decide +kernel
theorem d_L_waits_10 : decode b_L_waits 10 = .ok (.goto 7, 3) := by decide +kernel
theorem d_L_waits_13 : decode b_L_waits 13 = .ok (.astore 4, 2) := by decide +kernel
theorem d_L_waits_15 : decode b_L_waits 15 = .ok (.iconst 1, 1) := by decide +kernel
theorem d_L_waits_16 : decode b_L_waits 16 = .ok (.ireturn, 1) := by decide +kernel
theorem d_L_waits_17 : decode b_L_waits 17 = .ok (.iconst 0, 1) := by decide +kernel
theorem d_L_waits_18 : decode b_L_waits 18 = .ok (.ireturn, 1) := by decide +kernel
theorem d_L_law_0 : decode b_L_law 0 = .ok (.new 8, 3) := by decide +kernel
theorem d_L_law_3 : decode b_L_law 3 = .ok (.dup, 1) := by decide +kernel
theorem d_L_law_4 : decode b_L_law 4 = .ok (.aload_n 0, 1) := by decide +kernel
theorem d_L_law_5 : decode b_L_law 5 = .ok (.iconst 0, 1) := by decide +kernel
theorem d_L_law_6 : decode b_L_law 6 = .ok (.invokestatic 18, 3) := by decide +kernel
theorem d_L_law_9 : decode b_L_law 9 = .ok (.invokespecial 24, 3) := by decide +kernel
theorem d_L_law_12 : decode b_L_law 12 = .ok (.astore_n 1, 1) := by decide +kernel
theorem d_L_law_13 : decode b_L_law 13 = .ok (.new 27, 3) := by decide +kernel
theorem d_L_law_16 : decode b_L_law 16 = .ok (.dup, 1) := by decide +kernel
theorem d_L_law_17 : decode b_L_law 17 = .ok (.aload_n 0, 1) := by decide +kernel
theorem d_L_law_18 : decode b_L_law 18 = .ok (.iconst 0, 1) := by decide +kernel
theorem d_L_law_19 : decode b_L_law 19 = .ok (.invokestatic 18, 3) := by decide +kernel
theorem d_L_law_22 : decode b_L_law 22 = .ok (.invokespecial 29, 3) := by decide +kernel
theorem d_L_law_25 : decode b_L_law 25 = .ok (.astore_n 2, 1) := by decide +kernel
theorem d_L_law_26 : decode b_L_law 26 = .ok (.iconst 1, 1) := by decide +kernel
theorem d_L_law_27 : decode b_L_law 27 = .ok (.newarray .long, 2) := by decide +kernel
theorem d_L_law_29 : decode b_L_law 29 = .ok (.astore_n 3, 1) := by decide +kernel
theorem d_L_law_30 : decode b_L_law 30 = .ok (.iconst 1, 1) := by decide +kernel
theorem d_L_law_31 : decode b_L_law 31 = .ok (.istore 4, 2) := by decide +kernel
theorem d_L_law_33 : decode b_L_law 33 = .ok (.iload 4, 2) := by decide +kernel
theorem d_L_law_35 : decode b_L_law 35 = .ok (.aload_n 0, 1) := by decide +kernel
theorem d_L_law_36 : decode b_L_law 36 = .ok (.arraylength, 1) := by decide +kernel
theorem d_L_law_37 : decode b_L_law 37 = .ok (.iconst 4, 1) := by decide +kernel
theorem d_L_law_38 : decode b_L_law 38 = .ok (.isub, 1) := by decide +kernel
theorem d_L_law_39 : decode b_L_law 39 = .ok (.if_icmp .gt 778, 3) := by decide +kernel
theorem d_L_law_42 : decode b_L_law 42 = .ok (.aload_n 0, 1) := by decide +kernel
theorem d_L_law_43 : decode b_L_law 43 = .ok (.iload 4, 2) := by decide +kernel
theorem d_L_law_45 : decode b_L_law 45 = .ok (.iaload, 1) := by decide +kernel
theorem d_L_law_46 : decode b_L_law 46 = .ok (.bipush 31, 2) := by decide +kernel
theorem d_L_law_48 : decode b_L_law 48 = .ok (.iand, 1) := by decide +kernel
theorem d_L_law_49 : decode b_L_law 49 = .ok (.tableswitch 762 0 16 #[83, 108, 133, 182, 219, 256, 293, 330, 355, 392, 429, 478, 527, 552, 589, 626, 694], 83) := by decide +kernel
theorem d_L_law_132 : decode b_L_law 132 = .ok (.aload_n 1, 1) := by decide +kernel
theorem d_L_law_133 : decode b_L_law 133 = .ok (.aload_n 0, 1) := by decide +kernel
theorem d_L_law_134 : decode b_L_law 134 = .ok (.iload 4, 2) := by decide +kernel
theorem d_L_law_136 : decode b_L_law 136 = .ok (.iconst 1, 1) := by decide +kernel
theorem d_L_law_137 : decode b_L_law 137 = .ok (.iadd, 1) := by decide +kernel
theorem d_L_law_138 : decode b_L_law 138 = .ok (.iaload, 1) := by decide +kernel
theorem d_L_law_139 : decode b_L_law 139 = .ok (.invokevirtual 30, 3) := by decide +kernel
theorem d_L_law_142 : decode b_L_law 142 = .ok (.aload_n 2, 1) := by decide +kernel
theorem d_L_law_143 : decode b_L_law 143 = .ok (.aload_n 0, 1) := by decide +kernel
theorem d_L_law_144 : decode b_L_law 144 = .ok (.iload 4, 2) := by decide +kernel
theorem d_L_law_146 : decode b_L_law 146 = .ok (.iconst 1, 1) := by decide +kernel
theorem d_L_law_147 : decode b_L_law 147 = .ok (.iadd, 1) := by decide +kernel
theorem d_L_law_148 : decode b_L_law 148 = .ok (.iaload, 1) := by decide +kernel
theorem d_L_law_149 : decode b_L_law 149 = .ok (.invokevirtual 34, 3) := by decide +kernel
theorem d_L_law_152 : decode b_L_law 152 = .ok (.if_icmp .eq 659, 3) := by decide +kernel
theorem d_L_law_155 : decode b_L_law 155 = .ok (.iconst 0, 1) := by decide +kernel
theorem d_L_law_156 : decode b_L_law 156 = .ok (.ireturn, 1) := by decide +kernel
theorem d_L_law_157 : decode b_L_law 157 = .ok (.aload_n 1, 1) := by decide +kernel
theorem d_L_law_158 : decode b_L_law 158 = .ok (.aload_n 0, 1) := by decide +kernel
theorem d_L_law_159 : decode b_L_law 159 = .ok (.iload 4, 2) := by decide +kernel
theorem d_L_law_161 : decode b_L_law 161 = .ok (.iconst 1, 1) := by decide +kernel
theorem d_L_law_162 : decode b_L_law 162 = .ok (.iadd, 1) := by decide +kernel
theorem d_L_law_163 : decode b_L_law 163 = .ok (.iaload, 1) := by decide +kernel
theorem d_L_law_164 : decode b_L_law 164 = .ok (.invokevirtual 35, 3) := by decide +kernel
theorem d_L_law_167 : decode b_L_law 167 = .ok (.aload_n 2, 1) := by decide +kernel
theorem d_L_law_168 : decode b_L_law 168 = .ok (.aload_n 0, 1) := by decide +kernel
theorem d_L_law_169 : decode b_L_law 169 = .ok (.iload 4, 2) := by decide +kernel
theorem d_L_law_171 : decode b_L_law 171 = .ok (.iconst 1, 1) := by decide +kernel
theorem d_L_law_172 : decode b_L_law 172 = .ok (.iadd, 1) := by decide +kernel
theorem d_L_law_173 : decode b_L_law 173 = .ok (.iaload, 1) := by decide +kernel
theorem d_L_law_174 : decode b_L_law 174 = .ok (.invokevirtual 38, 3) := by decide +kernel
theorem d_L_law_177 : decode b_L_law 177 = .ok (.if_icmp .eq 634, 3) := by decide +kernel
theorem d_L_law_180 : decode b_L_law 180 = .ok (.iconst 0, 1) := by decide +kernel
theorem d_L_law_181 : decode b_L_law 181 = .ok (.ireturn, 1) := by decide +kernel
theorem d_L_law_182 : decode b_L_law 182 = .ok (.aload_n 1, 1) := by decide +kernel
theorem d_L_law_183 : decode b_L_law 183 = .ok (.aload_n 0, 1) := by decide +kernel
theorem d_L_law_184 : decode b_L_law 184 = .ok (.iload 4, 2) := by decide +kernel
theorem d_L_law_186 : decode b_L_law 186 = .ok (.iconst 1, 1) := by decide +kernel
theorem d_L_law_187 : decode b_L_law 187 = .ok (.iadd, 1) := by decide +kernel
theorem d_L_law_188 : decode b_L_law 188 = .ok (.iaload, 1) := by decide +kernel
theorem d_L_law_189 : decode b_L_law 189 = .ok (.aload_n 0, 1) := by decide +kernel
theorem d_L_law_190 : decode b_L_law 190 = .ok (.iload 4, 2) := by decide +kernel
theorem d_L_law_192 : decode b_L_law 192 = .ok (.iconst 2, 1) := by decide +kernel
theorem d_L_law_193 : decode b_L_law 193 = .ok (.iadd, 1) := by decide +kernel
theorem d_L_law_194 : decode b_L_law 194 = .ok (.iaload, 1) := by decide +kernel
theorem d_L_law_195 : decode b_L_law 195 = .ok (.aload_n 0, 1) := by decide +kernel
theorem d_L_law_196 : decode b_L_law 196 = .ok (.iload 4, 2) := by decide +kernel
theorem d_L_law_198 : decode b_L_law 198 = .ok (.iconst 3, 1) := by decide +kernel
theorem d_L_law_199 : decode b_L_law 199 = .ok (.iadd, 1) := by decide +kernel
theorem d_L_law_200 : decode b_L_law 200 = .ok (.iaload, 1) := by decide +kernel
theorem d_L_law_201 : decode b_L_law 201 = .ok (.invokevirtual 39, 3) := by decide +kernel
theorem d_L_law_204 : decode b_L_law 204 = .ok (.aload_n 2, 1) := by decide +kernel
theorem d_L_law_205 : decode b_L_law 205 = .ok (.aload_n 0, 1) := by decide +kernel
theorem d_L_law_206 : decode b_L_law 206 = .ok (.iload 4, 2) := by decide +kernel
theorem d_L_law_208 : decode b_L_law 208 = .ok (.iconst 1, 1) := by decide +kernel
theorem d_L_law_209 : decode b_L_law 209 = .ok (.iadd, 1) := by decide +kernel
theorem d_L_law_210 : decode b_L_law 210 = .ok (.iaload, 1) := by decide +kernel
theorem d_L_law_211 : decode b_L_law 211 = .ok (.aload_n 0, 1) := by decide +kernel
theorem d_L_law_212 : decode b_L_law 212 = .ok (.iload 4, 2) := by decide +kernel
theorem d_L_law_214 : decode b_L_law 214 = .ok (.iconst 2, 1) := by decide +kernel
theorem d_L_law_215 : decode b_L_law 215 = .ok (.iadd, 1) := by decide +kernel
theorem d_L_law_216 : decode b_L_law 216 = .ok (.iaload, 1) := by decide +kernel
theorem d_L_law_217 : decode b_L_law 217 = .ok (.aload_n 0, 1) := by decide +kernel
theorem d_L_law_218 : decode b_L_law 218 = .ok (.iload 4, 2) := by decide +kernel
theorem d_L_law_220 : decode b_L_law 220 = .ok (.iconst 3, 1) := by decide +kernel
theorem d_L_law_221 : decode b_L_law 221 = .ok (.iadd, 1) := by decide +kernel
theorem d_L_law_222 : decode b_L_law 222 = .ok (.iaload, 1) := by decide +kernel
theorem d_L_law_223 : decode b_L_law 223 = .ok (.invokevirtual 43, 3) := by decide +kernel
theorem d_L_law_226 : decode b_L_law 226 = .ok (.if_icmp .eq 585, 3) := by decide +kernel
theorem d_L_law_229 : decode b_L_law 229 = .ok (.iconst 0, 1) := by decide +kernel
theorem d_L_law_230 : decode b_L_law 230 = .ok (.ireturn, 1) := by decide +kernel
theorem d_L_law_231 : decode b_L_law 231 = .ok (.aload_n 1, 1) := by decide +kernel
theorem d_L_law_232 : decode b_L_law 232 = .ok (.aload_n 0, 1) := by decide +kernel
theorem d_L_law_233 : decode b_L_law 233 = .ok (.iload 4, 2) := by decide +kernel
theorem d_L_law_235 : decode b_L_law 235 = .ok (.iconst 1, 1) := by decide +kernel
theorem d_L_law_236 : decode b_L_law 236 = .ok (.iadd, 1) := by decide +kernel
theorem d_L_law_237 : decode b_L_law 237 = .ok (.iaload, 1) := by decide +kernel
theorem d_L_law_238 : decode b_L_law 238 = .ok (.aload_n 0, 1) := by decide +kernel
theorem d_L_law_239 : decode b_L_law 239 = .ok (.iload 4, 2) := by decide +kernel
theorem d_L_law_241 : decode b_L_law 241 = .ok (.iconst 2, 1) := by decide +kernel
theorem d_L_law_242 : decode b_L_law 242 = .ok (.iadd, 1) := by decide +kernel
theorem d_L_law_243 : decode b_L_law 243 = .ok (.iaload, 1) := by decide +kernel
theorem d_L_law_244 : decode b_L_law 244 = .ok (.invokevirtual 44, 3) := by decide +kernel
theorem d_L_law_247 : decode b_L_law 247 = .ok (.aload_n 2, 1) := by decide +kernel
theorem d_L_law_248 : decode b_L_law 248 = .ok (.aload_n 0, 1) := by decide +kernel
theorem d_L_law_249 : decode b_L_law 249 = .ok (.iload 4, 2) := by decide +kernel
theorem d_L_law_251 : decode b_L_law 251 = .ok (.iconst 1, 1) := by decide +kernel
theorem d_L_law_252 : decode b_L_law 252 = .ok (.iadd, 1) := by decide +kernel
theorem d_L_law_253 : decode b_L_law 253 = .ok (.iaload, 1) := by decide +kernel
theorem d_L_law_254 : decode b_L_law 254 = .ok (.aload_n 0, 1) := by decide +kernel
theorem d_L_law_255 : decode b_L_law 255 = .ok (.iload 4, 2) := by decide +kernel
theorem d_L_law_257 : decode b_L_law 257 = .ok (.iconst 2, 1) := by decide +kernel
theorem d_L_law_258 : decode b_L_law 258 = .ok (.iadd, 1) := by decide +kernel
theorem d_L_law_259 : decode b_L_law 259 = .ok (.iaload, 1) := by decide +kernel
theorem d_L_law_260 : decode b_L_law 260 = .ok (.invokevirtual 47, 3) := by decide +kernel
theorem d_L_law_263 : decode b_L_law 263 = .ok (.if_icmp .eq 548, 3) := by decide +kernel
theorem d_L_law_266 : decode b_L_law 266 = .ok (.iconst 0, 1) := by decide +kernel
theorem d_L_law_267 : decode b_L_law 267 = .ok (.ireturn, 1) := by decide +kernel
theorem d_L_law_268 : decode b_L_law 268 = .ok (.aload_n 1, 1) := by decide +kernel
theorem d_L_law_269 : decode b_L_law 269 = .ok (.aload_n 0, 1) := by decide +kernel
theorem d_L_law_270 : decode b_L_law 270 = .ok (.iload 4, 2) := by decide +kernel
theorem d_L_law_272 : decode b_L_law 272 = .ok (.iconst 1, 1) := by decide +kernel
theorem d_L_law_273 : decode b_L_law 273 = .ok (.iadd, 1) := by decide +kernel
theorem d_L_law_274 : decode b_L_law 274 = .ok (.iaload, 1) := by decide +kernel
theorem d_L_law_275 : decode b_L_law 275 = .ok (.aload_n 0, 1) := by decide +kernel
theorem d_L_law_276 : decode b_L_law 276 = .ok (.iload 4, 2) := by decide +kernel
theorem d_L_law_278 : decode b_L_law 278 = .ok (.iconst 2, 1) := by decide +kernel
theorem d_L_law_279 : decode b_L_law 279 = .ok (.iadd, 1) := by decide +kernel
theorem d_L_law_280 : decode b_L_law 280 = .ok (.iaload, 1) := by decide +kernel
theorem d_L_law_281 : decode b_L_law 281 = .ok (.invokevirtual 48, 3) := by decide +kernel
theorem d_L_law_284 : decode b_L_law 284 = .ok (.aload_n 2, 1) := by decide +kernel
theorem d_L_law_285 : decode b_L_law 285 = .ok (.aload_n 0, 1) := by decide +kernel
theorem d_L_law_286 : decode b_L_law 286 = .ok (.iload 4, 2) := by decide +kernel
theorem d_L_law_288 : decode b_L_law 288 = .ok (.iconst 1, 1) := by decide +kernel
theorem d_L_law_289 : decode b_L_law 289 = .ok (.iadd, 1) := by decide +kernel
theorem d_L_law_290 : decode b_L_law 290 = .ok (.iaload, 1) := by decide +kernel
theorem d_L_law_291 : decode b_L_law 291 = .ok (.aload_n 0, 1) := by decide +kernel
theorem d_L_law_292 : decode b_L_law 292 = .ok (.iload 4, 2) := by decide +kernel
theorem d_L_law_294 : decode b_L_law 294 = .ok (.iconst 2, 1) := by decide +kernel
theorem d_L_law_295 : decode b_L_law 295 = .ok (.iadd, 1) := by decide +kernel
theorem d_L_law_296 : decode b_L_law 296 = .ok (.iaload, 1) := by decide +kernel
theorem d_L_law_297 : decode b_L_law 297 = .ok (.invokevirtual 51, 3) := by decide +kernel
theorem d_L_law_300 : decode b_L_law 300 = .ok (.if_icmp .eq 511, 3) := by decide +kernel
theorem d_L_law_303 : decode b_L_law 303 = .ok (.iconst 0, 1) := by decide +kernel
theorem d_L_law_304 : decode b_L_law 304 = .ok (.ireturn, 1) := by decide +kernel
theorem d_L_law_305 : decode b_L_law 305 = .ok (.aload_n 1, 1) := by decide +kernel
theorem d_L_law_306 : decode b_L_law 306 = .ok (.aload_n 0, 1) := by decide +kernel
theorem d_L_law_307 : decode b_L_law 307 = .ok (.iload 4, 2) := by decide +kernel
theorem d_L_law_309 : decode b_L_law 309 = .ok (.iconst 1, 1) := by decide +kernel
theorem d_L_law_310 : decode b_L_law 310 = .ok (.iadd, 1) := by decide +kernel
theorem d_L_law_311 : decode b_L_law 311 = .ok (.iaload, 1) := by decide +kernel
theorem d_L_law_312 : decode b_L_law 312 = .ok (.aload_n 0, 1) := by decide +kernel
theorem d_L_law_313 : decode b_L_law 313 = .ok (.iload 4, 2) := by decide +kernel
theorem d_L_law_315 : decode b_L_law 315 = .ok (.iconst 2, 1) := by decide +kernel
theorem d_L_law_316 : decode b_L_law 316 = .ok (.iadd, 1) := by decide +kernel
theorem d_L_law_317 : decode b_L_law 317 = .ok (.iaload, 1) := by decide +kernel
theorem d_L_law_318 : decode b_L_law 318 = .ok (.invokevirtual 52, 3) := by decide +kernel
theorem d_L_law_321 : decode b_L_law 321 = .ok (.aload_n 2, 1) := by decide +kernel
theorem d_L_law_322 : decode b_L_law 322 = .ok (.aload_n 0, 1) := by decide +kernel
theorem d_L_law_323 : decode b_L_law 323 = .ok (.iload 4, 2) := by decide +kernel
theorem d_L_law_325 : decode b_L_law 325 = .ok (.iconst 1, 1) := by decide +kernel
theorem d_L_law_326 : decode b_L_law 326 = .ok (.iadd, 1) := by decide +kernel
theorem d_L_law_327 : decode b_L_law 327 = .ok (.iaload, 1) := by decide +kernel
theorem d_L_law_328 : decode b_L_law 328 = .ok (.aload_n 0, 1) := by decide +kernel
theorem d_L_law_329 : decode b_L_law 329 = .ok (.iload 4, 2) := by decide +kernel
theorem d_L_law_331 : decode b_L_law 331 = .ok (.iconst 2, 1) := by decide +kernel
theorem d_L_law_332 : decode b_L_law 332 = .ok (.iadd, 1) := by decide +kernel
theorem d_L_law_333 : decode b_L_law 333 = .ok (.iaload, 1) := by decide +kernel
theorem d_L_law_334 : decode b_L_law 334 = .ok (.invokevirtual 55, 3) := by decide +kernel
theorem d_L_law_337 : decode b_L_law 337 = .ok (.if_icmp .eq 474, 3) := by decide +kernel
theorem d_L_law_340 : decode b_L_law 340 = .ok (.iconst 0, 1) := by decide +kernel
theorem d_L_law_341 : decode b_L_law 341 = .ok (.ireturn, 1) := by decide +kernel
theorem d_L_law_342 : decode b_L_law 342 = .ok (.aload_n 1, 1) := by decide +kernel
theorem d_L_law_343 : decode b_L_law 343 = .ok (.aload_n 0, 1) := by decide +kernel
theorem d_L_law_344 : decode b_L_law 344 = .ok (.iload 4, 2) := by decide +kernel
theorem d_L_law_346 : decode b_L_law 346 = .ok (.iconst 1, 1) := by decide +kernel
theorem d_L_law_347 : decode b_L_law 347 = .ok (.iadd, 1) := by decide +kernel
theorem d_L_law_348 : decode b_L_law 348 = .ok (.iaload, 1) := by decide +kernel
theorem d_L_law_349 : decode b_L_law 349 = .ok (.aload_n 0, 1) := by decide +kernel
theorem d_L_law_350 : decode b_L_law 350 = .ok (.iload 4, 2) := by decide +kernel
theorem d_L_law_352 : decode b_L_law 352 = .ok (.iconst 2, 1) := by decide +kernel
theorem d_L_law_353 : decode b_L_law 353 = .ok (.iadd, 1) := by decide +kernel
theorem d_L_law_354 : decode b_L_law 354 = .ok (.iaload, 1) := by decide +kernel
theorem d_L_law_355 : decode b_L_law 355 = .ok (.invokevirtual 56, 3) := by decide +kernel
theorem d_L_law_358 : decode b_L_law 358 = .ok (.aload_n 2, 1) := by decide +kernel
theorem d_L_law_359 : decode b_L_law 359 = .ok (.aload_n 0, 1) := by decide +kernel
theorem d_L_law_360 : decode b_L_law 360 = .ok (.iload 4, 2) := by decide +kernel
theorem d_L_law_362 : decode b_L_law 362 = .ok (.iconst 1, 1) := by decide +kernel
theorem d_L_law_363 : decode b_L_law 363 = .ok (.iadd, 1) := by decide +kernel
theorem d_L_law_364 : decode b_L_law 364 = .ok (.iaload, 1) := by decide +kernel
theorem d_L_law_365 : decode b_L_law 365 = .ok (.aload_n 0, 1) := by decide +kernel
theorem d_L_law_366 : decode b_L_law 366 = .ok (.iload 4, 2) := by decide +kernel
theorem d_L_law_368 : decode b_L_law 368 = .ok (.iconst 2, 1) := by decide +kernel
theorem d_L_law_369 : decode b_L_law 369 = .ok (.iadd, 1) := by decide +kernel
theorem d_L_law_370 : decode b_L_law 370 = .ok (.iaload, 1) := by decide +kernel
theorem d_L_law_371 : decode b_L_law 371 = .ok (.invokevirtual 59, 3) := by decide +kernel
theorem d_L_law_374 : decode b_L_law 374 = .ok (.if_icmp .eq 437, 3) := by decide +kernel
theorem d_L_law_377 : decode b_L_law 377 = .ok (.iconst 0, 1) := by decide +kernel
theorem d_L_law_378 : decode b_L_law 378 = .ok (.ireturn, 1) := by decide +kernel
theorem d_L_law_379 : decode b_L_law 379 = .ok (.aload_n 1, 1) := by decide +kernel
theorem d_L_law_380 : decode b_L_law 380 = .ok (.aload_n 0, 1) := by decide +kernel
theorem d_L_law_381 : decode b_L_law 381 = .ok (.iload 4, 2) := by decide +kernel
theorem d_L_law_383 : decode b_L_law 383 = .ok (.iconst 1, 1) := by decide +kernel
theorem d_L_law_384 : decode b_L_law 384 = .ok (.iadd, 1) := by decide +kernel
theorem d_L_law_385 : decode b_L_law 385 = .ok (.iaload, 1) := by decide +kernel
theorem d_L_law_386 : decode b_L_law 386 = .ok (.invokevirtual 60, 3) := by decide +kernel
theorem d_L_law_389 : decode b_L_law 389 = .ok (.aload_n 2, 1) := by decide +kernel
theorem d_L_law_390 : decode b_L_law 390 = .ok (.aload_n 0, 1) := by decide +kernel
theorem d_L_law_391 : decode b_L_law 391 = .ok (.iload 4, 2) := by decide +kernel
theorem d_L_law_393 : decode b_L_law 393 = .ok (.iconst 1, 1) := by decide +kernel
theorem d_L_law_394 : decode b_L_law 394 = .ok (.iadd, 1) := by decide +kernel
theorem d_L_law_395 : decode b_L_law 395 = .ok (.iaload, 1) := by decide +kernel
theorem d_L_law_396 : decode b_L_law 396 = .ok (.invokevirtual 63, 3) := by decide +kernel
theorem d_L_law_399 : decode b_L_law 399 = .ok (.if_icmp .eq 412, 3) := by decide +kernel
theorem d_L_law_402 : decode b_L_law 402 = .ok (.iconst 0, 1) := by decide +kernel
theorem d_L_law_403 : decode b_L_law 403 = .ok (.ireturn, 1) := by decide +kernel
theorem d_L_law_404 : decode b_L_law 404 = .ok (.aload_n 1, 1) := by decide +kernel
theorem d_L_law_405 : decode b_L_law 405 = .ok (.aload_n 0, 1) := by decide +kernel
theorem d_L_law_406 : decode b_L_law 406 = .ok (.iload 4, 2) := by decide +kernel
theorem d_L_law_408 : decode b_L_law 408 = .ok (.iconst 1, 1) := by decide +kernel
theorem d_L_law_409 : decode b_L_law 409 = .ok (.iadd, 1) := by decide +kernel
theorem d_L_law_410 : decode b_L_law 410 = .ok (.iaload, 1) := by decide +kernel
theorem d_L_law_411 : decode b_L_law 411 = .ok (.aload_n 0, 1) := by decide +kernel
theorem d_L_law_412 : decode b_L_law 412 = .ok (.iload 4, 2) := by decide +kernel
theorem d_L_law_414 : decode b_L_law 414 = .ok (.iconst 2, 1) := by decide +kernel
theorem d_L_law_415 : decode b_L_law 415 = .ok (.iadd, 1) := by decide +kernel
theorem d_L_law_416 : decode b_L_law 416 = .ok (.iaload, 1) := by decide +kernel
theorem d_L_law_417 : decode b_L_law 417 = .ok (.invokevirtual 64, 3) := by decide +kernel
theorem d_L_law_420 : decode b_L_law 420 = .ok (.aload_n 2, 1) := by decide +kernel
theorem d_L_law_421 : decode b_L_law 421 = .ok (.aload_n 0, 1) := by decide +kernel
theorem d_L_law_422 : decode b_L_law 422 = .ok (.iload 4, 2) := by decide +kernel
theorem d_L_law_424 : decode b_L_law 424 = .ok (.iconst 1, 1) := by decide +kernel
theorem d_L_law_425 : decode b_L_law 425 = .ok (.iadd, 1) := by decide +kernel
theorem d_L_law_426 : decode b_L_law 426 = .ok (.iaload, 1) := by decide +kernel
theorem d_L_law_427 : decode b_L_law 427 = .ok (.aload_n 0, 1) := by decide +kernel
theorem d_L_law_428 : decode b_L_law 428 = .ok (.iload 4, 2) := by decide +kernel
theorem d_L_law_430 : decode b_L_law 430 = .ok (.iconst 2, 1) := by decide +kernel
theorem d_L_law_431 : decode b_L_law 431 = .ok (.iadd, 1) := by decide +kernel
theorem d_L_law_432 : decode b_L_law 432 = .ok (.iaload, 1) := by decide +kernel
theorem d_L_law_433 : decode b_L_law 433 = .ok (.invokevirtual 67, 3) := by decide +kernel
theorem d_L_law_436 : decode b_L_law 436 = .ok (.if_icmp .eq 375, 3) := by decide +kernel
theorem d_L_law_439 : decode b_L_law 439 = .ok (.iconst 0, 1) := by decide +kernel
theorem d_L_law_440 : decode b_L_law 440 = .ok (.ireturn, 1) := by decide +kernel
theorem d_L_law_441 : decode b_L_law 441 = .ok (.aload_n 1, 1) := by decide +kernel
theorem d_L_law_442 : decode b_L_law 442 = .ok (.aload_n 0, 1) := by decide +kernel
theorem d_L_law_443 : decode b_L_law 443 = .ok (.iload 4, 2) := by decide +kernel
theorem d_L_law_445 : decode b_L_law 445 = .ok (.iconst 1, 1) := by decide +kernel
theorem d_L_law_446 : decode b_L_law 446 = .ok (.iadd, 1) := by decide +kernel
theorem d_L_law_447 : decode b_L_law 447 = .ok (.iaload, 1) := by decide +kernel
theorem d_L_law_448 : decode b_L_law 448 = .ok (.aload_n 0, 1) := by decide +kernel
theorem d_L_law_449 : decode b_L_law 449 = .ok (.iload 4, 2) := by decide +kernel
theorem d_L_law_451 : decode b_L_law 451 = .ok (.iconst 2, 1) := by decide +kernel
theorem d_L_law_452 : decode b_L_law 452 = .ok (.iadd, 1) := by decide +kernel
theorem d_L_law_453 : decode b_L_law 453 = .ok (.iaload, 1) := by decide +kernel
theorem d_L_law_454 : decode b_L_law 454 = .ok (.invokevirtual 68, 3) := by decide +kernel
theorem d_L_law_457 : decode b_L_law 457 = .ok (.aload_n 2, 1) := by decide +kernel
theorem d_L_law_458 : decode b_L_law 458 = .ok (.aload_n 0, 1) := by decide +kernel
theorem d_L_law_459 : decode b_L_law 459 = .ok (.iload 4, 2) := by decide +kernel
theorem d_L_law_461 : decode b_L_law 461 = .ok (.iconst 1, 1) := by decide +kernel
theorem d_L_law_462 : decode b_L_law 462 = .ok (.iadd, 1) := by decide +kernel
theorem d_L_law_463 : decode b_L_law 463 = .ok (.iaload, 1) := by decide +kernel
theorem d_L_law_464 : decode b_L_law 464 = .ok (.aload_n 0, 1) := by decide +kernel
theorem d_L_law_465 : decode b_L_law 465 = .ok (.iload 4, 2) := by decide +kernel
theorem d_L_law_467 : decode b_L_law 467 = .ok (.iconst 2, 1) := by decide +kernel
theorem d_L_law_468 : decode b_L_law 468 = .ok (.iadd, 1) := by decide +kernel
theorem d_L_law_469 : decode b_L_law 469 = .ok (.iaload, 1) := by decide +kernel
theorem d_L_law_470 : decode b_L_law 470 = .ok (.invokevirtual 71, 3) := by decide +kernel
theorem d_L_law_473 : decode b_L_law 473 = .ok (.if_icmp .eq 338, 3) := by decide +kernel
theorem d_L_law_476 : decode b_L_law 476 = .ok (.iconst 0, 1) := by decide +kernel
theorem d_L_law_477 : decode b_L_law 477 = .ok (.ireturn, 1) := by decide +kernel
theorem d_L_law_478 : decode b_L_law 478 = .ok (.aload_n 1, 1) := by decide +kernel
theorem d_L_law_479 : decode b_L_law 479 = .ok (.aload_n 0, 1) := by decide +kernel
theorem d_L_law_480 : decode b_L_law 480 = .ok (.iload 4, 2) := by decide +kernel
theorem d_L_law_482 : decode b_L_law 482 = .ok (.iconst 1, 1) := by decide +kernel
theorem d_L_law_483 : decode b_L_law 483 = .ok (.iadd, 1) := by decide +kernel
theorem d_L_law_484 : decode b_L_law 484 = .ok (.iaload, 1) := by decide +kernel
theorem d_L_law_485 : decode b_L_law 485 = .ok (.aload_n 0, 1) := by decide +kernel
theorem d_L_law_486 : decode b_L_law 486 = .ok (.iload 4, 2) := by decide +kernel
theorem d_L_law_488 : decode b_L_law 488 = .ok (.iconst 2, 1) := by decide +kernel
theorem d_L_law_489 : decode b_L_law 489 = .ok (.iadd, 1) := by decide +kernel
theorem d_L_law_490 : decode b_L_law 490 = .ok (.iaload, 1) := by decide +kernel
theorem d_L_law_491 : decode b_L_law 491 = .ok (.aload_n 0, 1) := by decide +kernel
theorem d_L_law_492 : decode b_L_law 492 = .ok (.iload 4, 2) := by decide +kernel
theorem d_L_law_494 : decode b_L_law 494 = .ok (.iconst 3, 1) := by decide +kernel
theorem d_L_law_495 : decode b_L_law 495 = .ok (.iadd, 1) := by decide +kernel
theorem d_L_law_496 : decode b_L_law 496 = .ok (.iaload, 1) := by decide +kernel
theorem d_L_law_497 : decode b_L_law 497 = .ok (.invokevirtual 72, 3) := by decide +kernel
theorem d_L_law_500 : decode b_L_law 500 = .ok (.aload_n 2, 1) := by decide +kernel
theorem d_L_law_501 : decode b_L_law 501 = .ok (.aload_n 0, 1) := by decide +kernel
theorem d_L_law_502 : decode b_L_law 502 = .ok (.iload 4, 2) := by decide +kernel
theorem d_L_law_504 : decode b_L_law 504 = .ok (.iconst 1, 1) := by decide +kernel
theorem d_L_law_505 : decode b_L_law 505 = .ok (.iadd, 1) := by decide +kernel
theorem d_L_law_506 : decode b_L_law 506 = .ok (.iaload, 1) := by decide +kernel
theorem d_L_law_507 : decode b_L_law 507 = .ok (.aload_n 0, 1) := by decide +kernel
theorem d_L_law_508 : decode b_L_law 508 = .ok (.iload 4, 2) := by decide +kernel
theorem d_L_law_510 : decode b_L_law 510 = .ok (.iconst 2, 1) := by decide +kernel
theorem d_L_law_511 : decode b_L_law 511 = .ok (.iadd, 1) := by decide +kernel
theorem d_L_law_512 : decode b_L_law 512 = .ok (.iaload, 1) := by decide +kernel
theorem d_L_law_513 : decode b_L_law 513 = .ok (.aload_n 0, 1) := by decide +kernel
theorem d_L_law_514 : decode b_L_law 514 = .ok (.iload 4, 2) := by decide +kernel
theorem d_L_law_516 : decode b_L_law 516 = .ok (.iconst 3, 1) := by decide +kernel
theorem d_L_law_517 : decode b_L_law 517 = .ok (.iadd, 1) := by decide +kernel
theorem d_L_law_518 : decode b_L_law 518 = .ok (.iaload, 1) := by decide +kernel
theorem d_L_law_519 : decode b_L_law 519 = .ok (.invokevirtual 75, 3) := by decide +kernel
theorem d_L_law_522 : decode b_L_law 522 = .ok (.if_icmp .eq 289, 3) := by decide +kernel
theorem d_L_law_525 : decode b_L_law 525 = .ok (.iconst 0, 1) := by decide +kernel
theorem d_L_law_526 : decode b_L_law 526 = .ok (.ireturn, 1) := by decide +kernel
theorem d_L_law_527 : decode b_L_law 527 = .ok (.aload_n 1, 1) := by decide +kernel
theorem d_L_law_528 : decode b_L_law 528 = .ok (.aload_n 0, 1) := by decide +kernel
theorem d_L_law_529 : decode b_L_law 529 = .ok (.iload 4, 2) := by decide +kernel
theorem d_L_law_531 : decode b_L_law 531 = .ok (.iconst 1, 1) := by decide +kernel
theorem d_L_law_532 : decode b_L_law 532 = .ok (.iadd, 1) := by decide +kernel
theorem d_L_law_533 : decode b_L_law 533 = .ok (.iaload, 1) := by decide +kernel
theorem d_L_law_534 : decode b_L_law 534 = .ok (.aload_n 0, 1) := by decide +kernel
theorem d_L_law_535 : decode b_L_law 535 = .ok (.iload 4, 2) := by decide +kernel
theorem d_L_law_537 : decode b_L_law 537 = .ok (.iconst 2, 1) := by decide +kernel
theorem d_L_law_538 : decode b_L_law 538 = .ok (.iadd, 1) := by decide +kernel
theorem d_L_law_539 : decode b_L_law 539 = .ok (.iaload, 1) := by decide +kernel
theorem d_L_law_540 : decode b_L_law 540 = .ok (.aload_n 0, 1) := by decide +kernel
theorem d_L_law_541 : decode b_L_law 541 = .ok (.iload 4, 2) := by decide +kernel
theorem d_L_law_543 : decode b_L_law 543 = .ok (.iconst 3, 1) := by decide +kernel
theorem d_L_law_544 : decode b_L_law 544 = .ok (.iadd, 1) := by decide +kernel
theorem d_L_law_545 : decode b_L_law 545 = .ok (.iaload, 1) := by decide +kernel
theorem d_L_law_546 : decode b_L_law 546 = .ok (.invokevirtual 76, 3) := by decide +kernel
theorem d_L_law_549 : decode b_L_law 549 = .ok (.aload_n 2, 1) := by decide +kernel
theorem d_L_law_550 : decode b_L_law 550 = .ok (.aload_n 0, 1) := by decide +kernel
theorem d_L_law_551 : decode b_L_law 551 = .ok (.iload 4, 2) := by decide +kernel
theorem d_L_law_553 : decode b_L_law 553 = .ok (.iconst 1, 1) := by decide +kernel
theorem d_L_law_554 : decode b_L_law 554 = .ok (.iadd, 1) := by decide +kernel
theorem d_L_law_555 : decode b_L_law 555 = .ok (.iaload, 1) := by decide +kernel
theorem d_L_law_556 : decode b_L_law 556 = .ok (.aload_n 0, 1) := by decide +kernel
theorem d_L_law_557 : decode b_L_law 557 = .ok (.iload 4, 2) := by decide +kernel
theorem d_L_law_559 : decode b_L_law 559 = .ok (.iconst 2, 1) := by decide +kernel
theorem d_L_law_560 : decode b_L_law 560 = .ok (.iadd, 1) := by decide +kernel
theorem d_L_law_561 : decode b_L_law 561 = .ok (.iaload, 1) := by decide +kernel
theorem d_L_law_562 : decode b_L_law 562 = .ok (.aload_n 0, 1) := by decide +kernel
theorem d_L_law_563 : decode b_L_law 563 = .ok (.iload 4, 2) := by decide +kernel
theorem d_L_law_565 : decode b_L_law 565 = .ok (.iconst 3, 1) := by decide +kernel
theorem d_L_law_566 : decode b_L_law 566 = .ok (.iadd, 1) := by decide +kernel
theorem d_L_law_567 : decode b_L_law 567 = .ok (.iaload, 1) := by decide +kernel
theorem d_L_law_568 : decode b_L_law 568 = .ok (.invokevirtual 79, 3) := by decide +kernel
theorem d_L_law_571 : decode b_L_law 571 = .ok (.if_icmp .eq 240, 3) := by decide +kernel
theorem d_L_law_574 : decode b_L_law 574 = .ok (.iconst 0, 1) := by decide +kernel
theorem d_L_law_575 : decode b_L_law 575 = .ok (.ireturn, 1) := by decide +kernel
theorem d_L_law_576 : decode b_L_law 576 = .ok (.aload_n 1, 1) := by decide +kernel
theorem d_L_law_577 : decode b_L_law 577 = .ok (.aload_n 0, 1) := by decide +kernel
theorem d_L_law_578 : decode b_L_law 578 = .ok (.iload 4, 2) := by decide +kernel
theorem d_L_law_580 : decode b_L_law 580 = .ok (.iconst 1, 1) := by decide +kernel
theorem d_L_law_581 : decode b_L_law 581 = .ok (.iadd, 1) := by decide +kernel
theorem d_L_law_582 : decode b_L_law 582 = .ok (.iaload, 1) := by decide +kernel
theorem d_L_law_583 : decode b_L_law 583 = .ok (.invokevirtual 80, 3) := by decide +kernel
theorem d_L_law_586 : decode b_L_law 586 = .ok (.aload_n 2, 1) := by decide +kernel
theorem d_L_law_587 : decode b_L_law 587 = .ok (.aload_n 0, 1) := by decide +kernel
theorem d_L_law_588 : decode b_L_law 588 = .ok (.iload 4, 2) := by decide +kernel
theorem d_L_law_590 : decode b_L_law 590 = .ok (.iconst 1, 1) := by decide +kernel
theorem d_L_law_591 : decode b_L_law 591 = .ok (.iadd, 1) := by decide +kernel
theorem d_L_law_592 : decode b_L_law 592 = .ok (.iaload, 1) := by decide +kernel
theorem d_L_law_593 : decode b_L_law 593 = .ok (.invokevirtual 83, 3) := by decide +kernel
theorem d_L_law_596 : decode b_L_law 596 = .ok (.if_icmp .eq 215, 3) := by decide +kernel
theorem d_L_law_599 : decode b_L_law 599 = .ok (.iconst 0, 1) := by decide +kernel
theorem d_L_law_600 : decode b_L_law 600 = .ok (.ireturn, 1) := by decide +kernel
theorem d_L_law_601 : decode b_L_law 601 = .ok (.aload_n 1, 1) := by decide +kernel
theorem d_L_law_602 : decode b_L_law 602 = .ok (.aload_n 0, 1) := by decide +kernel
theorem d_L_law_603 : decode b_L_law 603 = .ok (.iload 4, 2) := by decide +kernel
theorem d_L_law_605 : decode b_L_law 605 = .ok (.iconst 1, 1) := by decide +kernel
theorem d_L_law_606 : decode b_L_law 606 = .ok (.iadd, 1) := by decide +kernel
theorem d_L_law_607 : decode b_L_law 607 = .ok (.iaload, 1) := by decide +kernel
theorem d_L_law_608 : decode b_L_law 608 = .ok (.aload_n 0, 1) := by decide +kernel
theorem d_L_law_609 : decode b_L_law 609 = .ok (.iload 4, 2) := by decide +kernel
theorem d_L_law_611 : decode b_L_law 611 = .ok (.iconst 2, 1) := by decide +kernel
theorem d_L_law_612 : decode b_L_law 612 = .ok (.iadd, 1) := by decide +kernel
theorem d_L_law_613 : decode b_L_law 613 = .ok (.iaload, 1) := by decide +kernel
theorem d_L_law_614 : decode b_L_law 614 = .ok (.invokevirtual 84, 3) := by decide +kernel
theorem d_L_law_617 : decode b_L_law 617 = .ok (.aload_n 2, 1) := by decide +kernel
theorem d_L_law_618 : decode b_L_law 618 = .ok (.aload_n 0, 1) := by decide +kernel
theorem d_L_law_619 : decode b_L_law 619 = .ok (.iload 4, 2) := by decide +kernel
theorem d_L_law_621 : decode b_L_law 621 = .ok (.iconst 1, 1) := by decide +kernel
theorem d_L_law_622 : decode b_L_law 622 = .ok (.iadd, 1) := by decide +kernel
theorem d_L_law_623 : decode b_L_law 623 = .ok (.iaload, 1) := by decide +kernel
theorem d_L_law_624 : decode b_L_law 624 = .ok (.aload_n 0, 1) := by decide +kernel
theorem d_L_law_625 : decode b_L_law 625 = .ok (.iload 4, 2) := by decide +kernel
theorem d_L_law_627 : decode b_L_law 627 = .ok (.iconst 2, 1) := by decide +kernel
theorem d_L_law_628 : decode b_L_law 628 = .ok (.iadd, 1) := by decide +kernel
theorem d_L_law_629 : decode b_L_law 629 = .ok (.iaload, 1) := by decide +kernel
theorem d_L_law_630 : decode b_L_law 630 = .ok (.invokevirtual 87, 3) := by decide +kernel
theorem d_L_law_633 : decode b_L_law 633 = .ok (.if_icmp .eq 178, 3) := by decide +kernel
theorem d_L_law_636 : decode b_L_law 636 = .ok (.iconst 0, 1) := by decide +kernel
theorem d_L_law_637 : decode b_L_law 637 = .ok (.ireturn, 1) := by decide +kernel
theorem d_L_law_638 : decode b_L_law 638 = .ok (.aload_n 1, 1) := by decide +kernel
theorem d_L_law_639 : decode b_L_law 639 = .ok (.aload_n 0, 1) := by decide +kernel
theorem d_L_law_640 : decode b_L_law 640 = .ok (.iload 4, 2) := by decide +kernel
theorem d_L_law_642 : decode b_L_law 642 = .ok (.iconst 1, 1) := by decide +kernel
theorem d_L_law_643 : decode b_L_law 643 = .ok (.iadd, 1) := by decide +kernel
theorem d_L_law_644 : decode b_L_law 644 = .ok (.iaload, 1) := by decide +kernel
theorem d_L_law_645 : decode b_L_law 645 = .ok (.aload_n 0, 1) := by decide +kernel
theorem d_L_law_646 : decode b_L_law 646 = .ok (.iload 4, 2) := by decide +kernel
theorem d_L_law_648 : decode b_L_law 648 = .ok (.iconst 2, 1) := by decide +kernel
theorem d_L_law_649 : decode b_L_law 649 = .ok (.iadd, 1) := by decide +kernel
theorem d_L_law_650 : decode b_L_law 650 = .ok (.iaload, 1) := by decide +kernel
theorem d_L_law_651 : decode b_L_law 651 = .ok (.invokevirtual 88, 3) := by decide +kernel
theorem d_L_law_654 : decode b_L_law 654 = .ok (.aload_n 2, 1) := by decide +kernel
theorem d_L_law_655 : decode b_L_law 655 = .ok (.aload_n 0, 1) := by decide +kernel
theorem d_L_law_656 : decode b_L_law 656 = .ok (.iload 4, 2) := by decide +kernel
theorem d_L_law_658 : decode b_L_law 658 = .ok (.iconst 1, 1) := by decide +kernel
theorem d_L_law_659 : decode b_L_law 659 = .ok (.iadd, 1) := by decide +kernel
theorem d_L_law_660 : decode b_L_law 660 = .ok (.iaload, 1) := by decide +kernel
theorem d_L_law_661 : decode b_L_law 661 = .ok (.aload_n 0, 1) := by decide +kernel
theorem d_L_law_662 : decode b_L_law 662 = .ok (.iload 4, 2) := by decide +kernel
theorem d_L_law_664 : decode b_L_law 664 = .ok (.iconst 2, 1) := by decide +kernel
theorem d_L_law_665 : decode b_L_law 665 = .ok (.iadd, 1) := by decide +kernel
theorem d_L_law_666 : decode b_L_law 666 = .ok (.iaload, 1) := by decide +kernel
theorem d_L_law_667 : decode b_L_law 667 = .ok (.invokevirtual 91, 3) := by decide +kernel
theorem d_L_law_670 : decode b_L_law 670 = .ok (.if_icmp .eq 141, 3) := by decide +kernel
theorem d_L_law_673 : decode b_L_law 673 = .ok (.iconst 0, 1) := by decide +kernel
theorem d_L_law_674 : decode b_L_law 674 = .ok (.ireturn, 1) := by decide +kernel
theorem d_L_law_675 : decode b_L_law 675 = .ok (.aload_n 1, 1) := by decide +kernel
theorem d_L_law_676 : decode b_L_law 676 = .ok (.aload_n 0, 1) := by decide +kernel
theorem d_L_law_677 : decode b_L_law 677 = .ok (.iload 4, 2) := by decide +kernel
theorem d_L_law_679 : decode b_L_law 679 = .ok (.iconst 1, 1) := by decide +kernel
theorem d_L_law_680 : decode b_L_law 680 = .ok (.iadd, 1) := by decide +kernel
theorem d_L_law_681 : decode b_L_law 681 = .ok (.iaload, 1) := by decide +kernel
theorem d_L_law_682 : decode b_L_law 682 = .ok (.aload_n 0, 1) := by decide +kernel
theorem d_L_law_683 : decode b_L_law 683 = .ok (.iload 4, 2) := by decide +kernel
theorem d_L_law_685 : decode b_L_law 685 = .ok (.iconst 2, 1) := by decide +kernel
theorem d_L_law_686 : decode b_L_law 686 = .ok (.iadd, 1) := by decide +kernel
theorem d_L_law_687 : decode b_L_law 687 = .ok (.iaload, 1) := by decide +kernel
theorem d_L_law_688 : decode b_L_law 688 = .ok (.aload_n 3, 1) := by decide +kernel
theorem d_L_law_689 : decode b_L_law 689 = .ok (.invokestatic 92, 3) := by decide +kernel
theorem d_L_law_692 : decode b_L_law 692 = .ok (.istore 5, 2) := by decide +kernel
theorem d_L_law_694 : decode b_L_law 694 = .ok (.aload_n 2, 1) := by decide +kernel
theorem d_L_law_695 : decode b_L_law 695 = .ok (.aload_n 0, 1) := by decide +kernel
theorem d_L_law_696 : decode b_L_law 696 = .ok (.iload 4, 2) := by decide +kernel
theorem d_L_law_698 : decode b_L_law 698 = .ok (.iconst 1, 1) := by decide +kernel
theorem d_L_law_699 : decode b_L_law 699 = .ok (.iadd, 1) := by decide +kernel
theorem d_L_law_700 : decode b_L_law 700 = .ok (.iaload, 1) := by decide +kernel
theorem d_L_law_701 : decode b_L_law 701 = .ok (.aload_n 0, 1) := by decide +kernel
theorem d_L_law_702 : decode b_L_law 702 = .ok (.iload 4, 2) := by decide +kernel
theorem d_L_law_704 : decode b_L_law 704 = .ok (.iconst 2, 1) := by decide +kernel
theorem d_L_law_705 : decode b_L_law 705 = .ok (.iadd, 1) := by decide +kernel
theorem d_L_law_706 : decode b_L_law 706 = .ok (.iaload, 1) := by decide +kernel
theorem d_L_law_707 : decode b_L_law 707 = .ok (.invokevirtual 95, 3) := by decide +kernel
theorem d_L_law_710 : decode b_L_law 710 = .ok (.istore 6, 2) := by decide +kernel
theorem d_L_law_712 : decode b_L_law 712 = .ok (.aload_n 2, 1) := by decide +kernel
theorem d_L_law_713 : decode b_L_law 713 = .ok (.invokevirtual 96, 3) := by decide +kernel
theorem d_L_law_716 : decode b_L_law 716 = .ok (.iload 5, 2) := by decide +kernel
theorem d_L_law_718 : decode b_L_law 718 = .ok (.if_icmp .eq 5, 3) := by decide +kernel
theorem d_L_law_721 : decode b_L_law 721 = .ok (.iconst 0, 1) := by decide +kernel
theorem d_L_law_722 : decode b_L_law 722 = .ok (.ireturn, 1) := by decide +kernel
theorem d_L_law_723 : decode b_L_law 723 = .ok (.iload 5, 2) := by decide +kernel
theorem d_L_law_725 : decode b_L_law 725 = .ok (.ifCond .ne 15, 3) := by decide +kernel
theorem d_L_law_728 : decode b_L_law 728 = .ok (.aload_n 3, 1) := by decide +kernel
theorem d_L_law_729 : decode b_L_law 729 = .ok (.iconst 0, 1) := by decide +kernel
theorem d_L_law_730 : decode b_L_law 730 = .ok (.laload, 1) := by decide +kernel
theorem d_L_law_731 : decode b_L_law 731 = .ok (.iload 6, 2) := by decide +kernel
theorem d_L_law_733 : decode b_L_law 733 = .ok (.i2l, 1) := by decide +kernel
theorem d_L_law_734 : decode b_L_law 734 = .ok (.lcmp, 1) := by decide +kernel
theorem d_L_law_735 : decode b_L_law 735 = .ok (.ifCond .eq 5, 3) := by decide +kernel
theorem d_L_law_738 : decode b_L_law 738 = .ok (.iconst 0, 1) := by decide +kernel
theorem d_L_law_739 : decode b_L_law 739 = .ok (.ireturn, 1) := by decide +kernel
theorem d_L_law_740 : decode b_L_law 740 = .ok (.goto 71, 3) := by decide +kernel
theorem d_L_law_743 : decode b_L_law 743 = .ok (.aload_n 1, 1) := by decide +kernel
theorem d_L_law_744 : decode b_L_law 744 = .ok (.aload_n 0, 1) := by decide +kernel
theorem d_L_law_745 : decode b_L_law 745 = .ok (.iload 4, 2) := by decide +kernel
theorem d_L_law_747 : decode b_L_law 747 = .ok (.iconst 1, 1) := by decide +kernel
theorem d_L_law_748 : decode b_L_law 748 = .ok (.iadd, 1) := by decide +kernel
theorem d_L_law_749 : decode b_L_law 749 = .ok (.iaload, 1) := by decide +kernel
theorem d_L_law_750 : decode b_L_law 750 = .ok (.aload_n 0, 1) := by decide +kernel
theorem d_L_law_751 : decode b_L_law 751 = .ok (.iload 4, 2) := by decide +kernel
theorem d_L_law_753 : decode b_L_law 753 = .ok (.iconst 2, 1) := by decide +kernel
theorem d_L_law_754 : decode b_L_law 754 = .ok (.iadd, 1) := by decide +kernel
theorem d_L_law_755 : decode b_L_law 755 = .ok (.iaload, 1) := by decide +kernel
theorem d_L_law_756 : decode b_L_law 756 = .ok (.aload_n 3, 1) := by decide +kernel
theorem d_L_law_757 : decode b_L_law 757 = .ok (.invokestatic 100, 3) := by decide +kernel
theorem d_L_law_760 : decode b_L_law 760 = .ok (.istore 5, 2) := by decide +kernel
theorem d_L_law_762 : decode b_L_law 762 = .ok (.aload_n 2, 1) := by decide +kernel
theorem d_L_law_763 : decode b_L_law 763 = .ok (.aload_n 0, 1) := by decide +kernel
theorem d_L_law_764 : decode b_L_law 764 = .ok (.iload 4, 2) := by decide +kernel
theorem d_L_law_766 : decode b_L_law 766 = .ok (.iconst 1, 1) := by decide +kernel
theorem d_L_law_767 : decode b_L_law 767 = .ok (.iadd, 1) := by decide +kernel
theorem d_L_law_768 : decode b_L_law 768 = .ok (.iaload, 1) := by decide +kernel
theorem d_L_law_769 : decode b_L_law 769 = .ok (.aload_n 0, 1) := by decide +kernel
theorem d_L_law_770 : decode b_L_law 770 = .ok (.iload 4, 2) := by decide +kernel
theorem d_L_law_772 : decode b_L_law 772 = .ok (.iconst 2, 1) := by decide +kernel
theorem d_L_law_773 : decode b_L_law 773 = .ok (.iadd, 1) := by decide +kernel
theorem d_L_law_774 : decode b_L_law 774 = .ok (.iaload, 1) := by decide +kernel
theorem d_L_law_775 : decode b_L_law 775 = .ok (.invokevirtual 102, 3) := by decide +kernel
theorem d_L_law_778 : decode b_L_law 778 = .ok (.istore 6, 2) := by decide +kernel
theorem d_L_law_780 : decode b_L_law 780 = .ok (.aload_n 2, 1) := by decide +kernel
theorem d_L_law_781 : decode b_L_law 781 = .ok (.invokevirtual 96, 3) := by decide +kernel
theorem d_L_law_784 : decode b_L_law 784 = .ok (.iload 5, 2) := by decide +kernel
theorem d_L_law_786 : decode b_L_law 786 = .ok (.if_icmp .eq 5, 3) := by decide +kernel
theorem d_L_law_789 : decode b_L_law 789 = .ok (.iconst 0, 1) := by decide +kernel
theorem d_L_law_790 : decode b_L_law 790 = .ok (.ireturn, 1) := by decide +kernel
theorem d_L_law_791 : decode b_L_law 791 = .ok (.iload 5, 2) := by decide +kernel
theorem d_L_law_793 : decode b_L_law 793 = .ok (.ifCond .ne 15, 3) := by decide +kernel
theorem d_L_law_796 : decode b_L_law 796 = .ok (.aload_n 3, 1) := by decide +kernel
theorem d_L_law_797 : decode b_L_law 797 = .ok (.iconst 0, 1) := by decide +kernel
theorem d_L_law_798 : decode b_L_law 798 = .ok (.laload, 1) := by decide +kernel
theorem d_L_law_799 : decode b_L_law 799 = .ok (.iload 6, 2) := by decide +kernel
theorem d_L_law_801 : decode b_L_law 801 = .ok (.i2l, 1) := by decide +kernel
theorem d_L_law_802 : decode b_L_law 802 = .ok (.lcmp, 1) := by decide +kernel
theorem d_L_law_803 : decode b_L_law 803 = .ok (.ifCond .eq 5, 3) := by decide +kernel
theorem d_L_law_806 : decode b_L_law 806 = .ok (.iconst 0, 1) := by decide +kernel
theorem d_L_law_807 : decode b_L_law 807 = .ok (.ireturn, 1) := by decide +kernel
theorem d_L_law_808 : decode b_L_law 808 = .ok (.goto 3, 3) := by decide +kernel
theorem d_L_law_811 : decode b_L_law 811 = .ok (.iinc 4 4, 3) := by decide +kernel
theorem d_L_law_814 : decode b_L_law 814 = .ok (.goto (-781), 3) := by decide +kernel
theorem d_L_law_817 : decode b_L_law 817 = .ok (.iconst 1, 1) := by decide +kernel
theorem d_L_law_818 : decode b_L_law 818 = .ok (.ireturn, 1) := by decide +kernel
end
section
/-! THE LAYER: every contract stands over ONE list of words (zB); a method that only reads leaves the heap as it is (zR); a method that writes turns the cells w into the cells w' (zW). -/
def zB : List Cond := lw_tbl.filter goodWord
def zIsN : Cond → Bool
  | .methodLinkNest .. => true
  | _ => false
def zNs : List Cond := lw_tbl.filter zIsN
/-- the links to private members of a nest mate -/
def zN (U : State) : Prop := ∀ w ∈ zNs, va_Nw w U
theorem zN.same {u U : State} (h : u.vm = U.vm) (hZ : zN u) : zN U := by
  intro w hw
  have h1 := (List.mem_filter.mp hw).2
  have h2 := hZ w hw
  cases w <;> first | exact va_Nw.same rfl h h2 | (simp [zIsN] at h1; done)
theorem zN.warm {s U : State} (hW : s.WarmedH U.vm) (hZ : zN s) : zN U := by
  intro w hw
  have h1 := (List.mem_filter.mp hw).2
  have h2 := hZ w hw
  cases w <;> first | exact va_Nw.warmM hW h2 | (simp [zIsN] at h1; done)
theorem z_good {y : MethodName} {bytes : ByteArray} {maxL : Nat} {ret : Option FieldType} (h : Cond.code y bytes maxL ret ∈ zB) : GoodIn zB (Cond.code y bytes maxL ret :: zB) := by
  intro w hw
  have h1 : w ∈ zB := by
    rcases List.mem_cons.mp hw with rfl | h2
    · exact h
    · exact h2
  exact ⟨h1, good_of_word (List.mem_filter.mp h1).2⟩
theorem z_fm {α β : Type} {f : α → Option β} : ∀ {is : List α} {w : List β}, is.map f = w.map some → is.filterMap f = w
  | [], [], _ => rfl
  | [], _ :: _, h => by simp at h
  | _ :: _, [], h => by simp at h
  | i :: is, b :: w, h => by
    simp only [List.map_cons, List.cons.injEq] at h
    rw [List.filterMap_cons, h.1]
    simp only
    rw [z_fm h.2]
/-- a contract of a method that only reads -/
def zPr (D : va_G) (tys : List (ClassId × FieldType)) (w : va_W) : State → Prop := fun U => zN U ∧ va_P D vwCl w U.heap ∧ va_K D vwCl tys U
def zR (l : Launch) (D : va_G) (tys : List (ClassId × FieldType)) (y : MethodName) (cc : ByteArray) (n : Nat) (ret : Option FieldType) (fr lo : Nat) (av : List Value) (w : va_W) (r : Int32) : Prop :=
  Met l y (Cond.code y cc n ret :: zB) { frames := fr, cells := 0, slots := 0, locals := lo } (va_Pc av (zPr D tys w)) (QcRead r) 0 0 (fun _ => False)
theorem zPr.blind {D : va_G} {tys : List (ClassId × FieldType)} {w : va_W} {av : List Value} : FrameBlind (va_Pc av (zPr D tys w)) :=
  fun a U g mk q => ⟨q.1, zN.same (u := U) (U := U.calling g mk a) rfl q.2.1, q.2.2.1, va_K.moved (u := U) (U := U.calling g mk a) (Vm.Alike.refl U.vm) q.2.2.2⟩
/-- a contract of a method that writes: the cells w become w' -/
def zP (D : va_G) (tys : List (ClassId × FieldType)) (w : va_W) (sz : Nat) : State → Prop := fun U => U.heap.size = sz ∧ zN U ∧ va_P D vwCl w U.heap ∧ va_K D vwCl tys U ∧ va_D (fun _ => True) w
def zQ (D : va_G) (A : Nat → Prop) (w' : va_W) (r : Option Value) : Array Value → State → Outcome → State → Prop := fun _ st oc t => oc = .returned r ∧ va_P D vwCl w' t.heap ∧ va_D A w' ∧ va_F A st t
def zW (l : Launch) (D : va_G) (tys : List (ClassId × FieldType)) (y : MethodName) (cc : ByteArray) (n : Nat) (ret : Option FieldType) (fr lo : Nat) (av : List Value) (w w' : va_W) (r : Option Value) : Prop :=
  ∀ sz : Nat, Met l y (Cond.code y cc n ret :: zB) { frames := fr, cells := 0, slots := 0, locals := lo } (va_Pc av (zP D tys w sz)) (zQ D (va_A w sz) w' r) 0 0 (va_A w sz)
theorem zP.blind {D : va_G} {tys : List (ClassId × FieldType)} {w : va_W} {av : List Value} {sz : Nat} : FrameBlind (va_Pc av (zP D tys w sz)) :=
  fun a U g mk q => ⟨q.1, q.2.1, zN.same (u := U) (U := U.calling g mk a) rfl q.2.2.1, q.2.2.2.1, va_K.moved (u := U) (U := U.calling g mk a) (Vm.Alike.refl U.vm) q.2.2.2.2.1, q.2.2.2.2.2⟩
/-- the cells of a walk -/
def zG (D : va_G) (A : Nat → Prop) (s : State) (H : Heap) (locs : List Loc) (ws : va_W) : Prop := va_P D vwCl ws H ∧ va_D A ws ∧ va_S A s.heap H locs
/-- a call's words -/
def zC (own : String) (index : Nat) (C : String) (y : MethodName) (bytes : ByteArray) (maxL : Nat) (ret : Option FieldType) (n : Nat) : Prop :=
  Cond.methodLink own index y ∈ zB ∧ Cond.instanceMethod y ∈ zB ∧ Cond.selects C y y ∈ zB ∧ Cond.initialized y.cls ∈ zB ∧ Cond.code y bytes maxL ret ∈ zB ∧ (y.cls ≠ "java/lang/invoke/MethodHandle" ∧ y.cls ≠ "java/lang/invoke/VarHandle") ∧ (parseMethodDescriptor y.desc).map (fun d => d.parameters.length) = some n
def zCs (own : String) (index : Nat) (y : MethodName) (bytes : ByteArray) (maxL : Nat) (ret : Option FieldType) (n : Nat) : Prop :=
  Cond.methodLink own index y ∈ zB ∧ Cond.static y ∈ zB ∧ Cond.initialized y.cls ∈ zB ∧ Cond.code y bytes maxL ret ∈ zB ∧ (y.cls ≠ "java/lang/invoke/MethodHandle" ∧ y.cls ≠ "java/lang/invoke/VarHandle") ∧ (parseMethodDescriptor y.desc).map (fun d => d.parameters.length) = some n
def zCn (own : String) (index : Nat) (host : String) (y : MethodName) (bytes : ByteArray) (maxL : Nat) (ret : Option FieldType) (n : Nat) : Prop :=
  Cond.methodLinkNest own index y host ∈ zNs ∧ Cond.static y ∈ zB ∧ Cond.initialized y.cls ∈ zB ∧ Cond.code y bytes maxL ret ∈ zB ∧ (y.cls ≠ "java/lang/invoke/MethodHandle" ∧ y.cls ≠ "java/lang/invoke/VarHandle") ∧ (parseMethodDescriptor y.desc).map (fun d => d.parameters.length) = some n
theorem z_len {y : MethodName} {n : Nat} (h : (parseMethodDescriptor y.desc).map (fun d => d.parameters.length) = some n) : ∀ sig, parseMethodDescriptor y.desc = some sig → n = sig.parameters.length := by
  intro sig h2
  rw [h2] at h
  exact (Option.some.inj h).symm
section ZL
variable {p : Program} {l : Launch} {e : Env} {R : Room} {s : State} {m : MethodId} {args : Array Value} {below : List Frame} {meth : Method} {c : Code} {H : Heap} {locs : List Loc} {cells slots : Nat} {Q : State → Prop}
variable {cc : ByteArray} {pc nL : Nat} {ls : Array Slot} {rest : List Value} {D : va_G} {A : Nat → Prop} {tys : List (ClassId × FieldType)} {ws : va_W}
theorem zR.of {y : MethodName} {n fr lo : Nat} {ret : Option FieldType} {av : List Value} {w : va_W} {r : Int32} (hy : plainName y.cls = true) (hln : (lg_sl av).length ≤ n)
    (body : ∀ (p : Program) (e : Env) (s : State) (m : MethodId) (below : List Frame) (meth : Method) (c : Code) (ls : Array Slot), CallFix p m c cc n s av.toArray zB y.cls → meth.sig.returnType = ret → meth.locks = false → zN s → va_K D vwCl tys s → va_P D vwCl w s.heap → lv_has ls n (lv_args 0 av) →
      W p l e { frames := fr, cells := 0, slots := 0, locals := lo } s m av.toArray below meth c s.heap [] 0 0 (MQ below (QcRead r) av.toArray s 0 0 (fun _ => False)) (F0 m 0 ls [])) : zR l D tys y cc n ret fr lo av w r := by
  refine Met.ofW (cc := cc) (maxL := n) (ret := ret) hy rfl ?_
  intro p e s m args below meth c s₁ B hml hv
  obtain ⟨rfl, hN, hP, hK⟩ := hv
  have hts := atoms_spec (ws := Cond.code y cc n ret :: zB) B.pre
  have hown : s.vm.findClass y.cls = some m.cls := findClass_of_methodNamed B.named
  have hl := lv_entry av (n := n) hln
  rw [lg_entry_eq]
  exact body p e s m below meth c _ ⟨B.exec, B.bytes, hml, hown, fun w hw => hts w (List.mem_cons_of_mem _ hw)⟩ B.returns B.notSynchronized hN hK hP hl
theorem zW.of {y : MethodName} {n fr lo : Nat} {ret : Option FieldType} {av : List Value} {w w' : va_W} {r : Option Value} (hy : plainName y.cls = true) (hln : (lg_sl av).length ≤ n)
    (body : ∀ (p : Program) (e : Env) (s : State) (m : MethodId) (below : List Frame) (meth : Method) (c : Code) (ls : Array Slot) (A : Nat → Prop), CallFix p m c cc n s av.toArray zB y.cls → meth.sig.returnType = ret → meth.locks = false → zN s → va_K D vwCl tys s → (∀ q, s.heap.size ≤ q → A q) → zG D A s s.heap [] w → lv_has ls n (lv_args 0 av) →
      W p l e { frames := fr, cells := 0, slots := 0, locals := lo } s m av.toArray below meth c s.heap [] 0 0 (MQ below (zQ D A w' r) av.toArray s 0 0 A) (F0 m 0 ls [])) : zW l D tys y cc n ret fr lo av w w' r := by
  intro sz
  refine Met.ofW (cc := cc) (maxL := n) (ret := ret) hy rfl ?_
  intro p e s m args below meth c s₁ B hml hv
  obtain ⟨rfl, hsz, hN, hP, hK, hD0⟩ := hv
  have hts := atoms_spec (ws := Cond.code y cc n ret :: zB) B.pre
  have hown : s.vm.findClass y.cls = some m.cls := findClass_of_methodNamed B.named
  have hl := lv_entry av (n := n) hln
  rw [lg_entry_eq]
  subst hsz
  exact body p e s m below meth c _ (va_A w s.heap.size) ⟨B.exec, B.bytes, hml, hown, fun w hw => hts w (List.mem_cons_of_mem _ hw)⟩ B.returns B.notSynchronized hN hK (fun q h => Or.inr h) ⟨hP, hD0.self, va_S.rf⟩ hl
/-- reads end -/
theorem zR.iret {own : String} {v r : Int32} (E : CallFix p m c cc nL s args zB own) (hr : meth.sig.returnType = some .int) (hlk : meth.locks = false) (hv : v = r) (d : decode cc pc = .ok (.ireturn, 1)) : W p l e R s m args below meth c s.heap [] 0 0 (MQ below (QcRead r) args s 0 0 (fun _ => False)) (F0 m pc ls [.int v]) :=
  W.iret E.1 E.2.1 hr (fun t ht _ => ⟨by rw [hv], ht⟩) (fun _ h => absurd h List.not_mem_nil) d hlk
theorem zR.zret {own : String} {v r : Int32} (E : CallFix p m c cc nL s args zB own) (hr : meth.sig.returnType = some .boolean) (hlk : meth.locks = false) (hn : narrow .boolean (.int v) = .int v) (hv : v = r) (d : decode cc pc = .ok (.ireturn, 1)) : W p l e R s m args below meth c s.heap [] 0 0 (MQ below (QcRead r) args s 0 0 (fun _ => False)) (F0 m pc ls [.int v]) :=
  W.zret E.1 E.2.1 hr hn (fun t ht _ => ⟨by rw [hv], ht⟩) (fun _ h => absurd h List.not_mem_nil) d hlk
theorem zW.iret {own : String} {v : Int32} {r : Option Value} {w' : va_W} (E : CallFix p m c cc nL s args zB own) (hr : meth.sig.returnType = some .int) (hlk : meth.locks = false) (G : zG D A s H locs ws) (hw : ws = w') (hv : some (.int v) = r) (d : decode cc pc = .ok (.ireturn, 1)) : W p l e R s m args below meth c H locs cells slots (MQ below (zQ D A w' r) args s cells slots A) (F0 m pc ls [.int v]) := by
  subst hw
  subst hv
  exact W.iret E.1 E.2.1 hr (fun t ht _ => ⟨rfl, by rw [ht]; exact G.1, G.2.1, G.2.2.F ht⟩) G.2.2.2.2 d hlk
theorem zW.vret {own : String} {r : Option Value} {w' : va_W} (E : CallFix p m c cc nL s args zB own) (hr : meth.sig.returnType = none) (hlk : meth.locks = false) (G : zG D A s H locs ws) (hw : ws = w') (hv : none = r) (d : decode cc pc = .ok (.return_, 1)) : W p l e R s m args below meth c H locs cells slots (MQ below (zQ D A w' r) args s cells slots A) (F0 m pc ls []) := by
  subst hw
  subst hv
  exact W.vret E.1 E.2.1 hr (fun t ht _ => ⟨rfl, by rw [ht]; exact G.1, G.2.1, G.2.2.F ht⟩) G.2.2.2.2 d hlk
/-- a call that only reads: of an object's method -/
theorem z_rv {own : String} {b ci n maxL fr lo index : Nat} {q : vw_C} {fs : List Value} {y : MethodName} {bytes : ByteArray} {ret : Option FieldType} {As st0 : List Value} {wc : va_W} {r : Int32}
    (E : CallFix p m c cc nL s args zB own) (hN : zN s) (hK : va_K D vwCl tys s) (hP : va_P D vwCl ws H) (hl : ls.size = nL)
    (hM : zR l D tys y bytes maxL ret fr lo (.ref b :: As) wc r) (isC : List Nat) (hC : isC.filterMap (fun i => ws[i]?) = wc) (q0 : Nat) (he : wc[q0]? = some (b, .inr (ci, fs))) (hcl : vwCl[ci]? = some q)
    (hz : zC own index q.1 y bytes maxL ret n) (hn : As.length = n) (hroom : fr + 1 ≤ R.frames ∧ 8 + (maxL + 11) + lo ≤ R.locals) (hst : st0 = As.reverse ++ .ref b :: rest) (hcat : (rest.map fun v => v.category).sum ≤ 8) (hcs : cells ≤ R.cells ∧ slots ≤ R.slots) (hdg : decode cc pc = .ok (.invokevirtual index, 3))
    (kk : W p l e R s m args below meth c H locs cells slots Q (F0 m (pc + 3) ls (.int r :: rest))) : W p l e R s m args below meth c H locs cells slots Q (F0 m pc ls st0) := by
  obtain ⟨k1, k2, k3, k4, k5, k6, k7⟩ := hz
  have hts := E.2.2.2.2
  have hPc := hP.sub isC hC
  exact W.callR (va_Run.run (va_runV (As := As) (rest := rest) E hM ⟨⟨rfl, rfl, hroom.1, hroom.2, pay_in hts (z_good k5), List.mem_cons_self, hts _ k5, hts _ k4, k6, z_len k7, hts _ k1⟩, hts _ k2, hts _ k3⟩ ⟨zPr.blind, va_recv hK hPc hcl he, fun U hU hW => ⟨rfl, hN.warm hW, by rw [hU]; exact hPc, va_K.moved hW.alike hK⟩⟩ rfl hn hl hst (lv_room hcat) hdg hcs)) kk
/-- of a static method of the same class -/
theorem z_rs {own : String} {n maxL fr lo index : Nat} {y : MethodName} {bytes : ByteArray} {ret : Option FieldType} {As st0 : List Value} {r : Int32}
    (E : CallFix p m c cc nL s args zB own) (hN : zN s) (hK : va_K D vwCl tys s) (hl : ls.size = nL)
    (hM : zR l D tys y bytes maxL ret fr lo As [] r)
    (hz : zCs own index y bytes maxL ret n) (hn : As.length = n) (hroom : fr + 1 ≤ R.frames ∧ 8 + (maxL + 11) + lo ≤ R.locals) (hst : st0 = As.reverse ++ rest) (hcat : (rest.map fun v => v.category).sum ≤ 8) (hcs : cells ≤ R.cells ∧ slots ≤ R.slots) (hdg : decode cc pc = .ok (.invokestatic index, 3))
    (kk : W p l e R s m args below meth c H locs cells slots Q (F0 m (pc + 3) ls (.int r :: rest))) : W p l e R s m args below meth c H locs cells slots Q (F0 m pc ls st0) := by
  obtain ⟨k1, k2, k4, k5, k6, k7⟩ := hz
  have hts := E.2.2.2.2
  exact W.callR (va_Run.run (va_runS (As := As) (rest := rest) E hM ⟨⟨rfl, rfl, hroom.1, hroom.2, pay_in hts (z_good k5), List.mem_cons_self, hts _ k5, hts _ k4, k6, z_len k7, hts _ k1⟩, hts _ k2⟩ ⟨zPr.blind, fun U hU hW => ⟨rfl, hN.warm hW, fun k q h => by simp at h, va_K.moved hW.alike hK⟩⟩ rfl hn hl hst (lv_room hcat) hdg hcs)) kk
/-- of a private static method of a nest mate -/
theorem z_rn {own host : String} {n maxL fr lo index : Nat} {y : MethodName} {bytes : ByteArray} {ret : Option FieldType} {As st0 : List Value} {r : Int32}
    (E : CallFix p m c cc nL s args zB own) (hN : zN s) (hK : va_K D vwCl tys s) (hl : ls.size = nL)
    (hM : zR l D tys y bytes maxL ret fr lo As [] r)
    (hz : zCn own index host y bytes maxL ret n) (hn : As.length = n) (hroom : fr + 1 ≤ R.frames ∧ 8 + (maxL + 11) + lo ≤ R.locals) (hst : st0 = As.reverse ++ rest) (hcat : (rest.map fun v => v.category).sum ≤ 8) (hcs : cells ≤ R.cells ∧ slots ≤ R.slots) (hdg : decode cc pc = .ok (.invokestatic index, 3))
    (kk : W p l e R s m args below meth c H locs cells slots Q (F0 m (pc + 3) ls (.int r :: rest))) : W p l e R s m args below meth c H locs cells slots Q (F0 m pc ls st0) := by
  obtain ⟨k1, k2, k4, k5, k6, k7⟩ := hz
  have hts := E.2.2.2.2
  exact W.callR (va_Run.run (va_runSN (host := host) (As := As) (rest := rest) E hM ⟨⟨⟨rfl, rfl, hroom.1, hroom.2, pay_in hts (z_good k5), List.mem_cons_self⟩, hts _ k5, hts _ k4, k6, z_len k7, va_Nw.use rfl (hN _ k1)⟩, hts _ k2, trivial⟩ ⟨zPr.blind, fun U hU hW => ⟨rfl, hN.warm hW, fun k q h => by simp at h, va_K.moved hW.alike hK⟩⟩ rfl hn hl hst (lv_room hcat) hdg hcs)) kk
/-- a call that writes, done: the callee's cells, beside the rest, in the order that perm says -/
theorem z_wrun {sz : Nat} {wc wc' wr ws' : va_W} {r : Option Value} {st0 : List Value} {a : Array Value} (hA : ∀ q, s.heap.size ≤ q → A q) (G : zG D A s H locs ws) (hsz : sz = H.size)
    (isC isR perm : List Nat) (hC : isC.map (fun i => ws[i]?) = wc.map some) (hR : isR.map (fun i => ws[i]?) = wr.map some) (hPm : perm.map (fun i => (wr ++ wc')[i]?) = ws'.map some) (hnR : va_nd isR = true) (hnP : va_nd perm = true) (hdis : ∀ i ∈ isR, i ∉ isC)
    (hr : va_Run p l e R s m args below meth c H locs cells slots 0 0 (F0 m pc ls st0) rest (zQ D (va_A wc sz) wc' r a) (va_A wc sz))
    (kk : ∀ (H1 : Heap) (locs1 : List Loc), zG D A s H1 locs1 ws' → W p l e R s m args below meth c H1 locs1 cells slots Q (F0 m (pc + 3) ls (r.toList ++ rest))) : W p l e R s m args below meth c H locs cells slots Q (F0 m pc ls st0) := by
  subst hsz
  obtain ⟨hP, hD, hS⟩ := G
  have hF := va_free hD hS hA isC hC
  intro T hT X
  obtain ⟨v, st₀, t, T', L, h0, X', hL, e1, e2, ⟨hv, hp1, hd1, hz, hk⟩, st⟩ := hr T hT X
  cases hv
  rw [h0] at hz hk
  obtain ⟨hPj, hDj⟩ := va_join hP hD isC isR hC hR hnR hdis hk hF hp1 hd1
  obtain ⟨t2, a1, b1⟩ := kk T'.heap (locs ++ L) ⟨by rw [e1]; exact hPj.sub perm (z_fm hPm), hDj.sub perm hnP hPm, Nat.le_trans hS.1 (by rw [e1]; exact hz), fun q h1 h2 => by rw [e1, hk q (Nat.lt_of_lt_of_le h1 hS.1) (fun z => h2 (hF q z))]; exact hS.2.1 q h1 h2, fun q hq => by
      rcases List.mem_append.mp hq with h | h
      · exact hS.2.2 q h
      · exact hF _ (hL q h)⟩ T' rfl X'
  exact ⟨t2, st t2 a1, b1⟩
theorem z_wv {own : String} {b ci n maxL fr lo index : Nat} {q : vw_C} {fs : List Value} {y : MethodName} {bytes : ByteArray} {ret : Option FieldType} {As st0 : List Value} {wc wc' wr ws' : va_W} {r : Option Value}
    (E : CallFix p m c cc nL s args zB own) (hN : zN s) (hK : va_K D vwCl tys s) (hA : ∀ q, s.heap.size ≤ q → A q) (G : zG D A s H locs ws) (hl : ls.size = nL)
    (hM : zW l D tys y bytes maxL ret fr lo (.ref b :: As) wc wc' r) (isC isR perm : List Nat) (hC : isC.map (fun i => ws[i]?) = wc.map some) (hR : isR.map (fun i => ws[i]?) = wr.map some) (hPm : perm.map (fun i => (wr ++ wc')[i]?) = ws'.map some) (hnC : va_nd isC = true) (hnR : va_nd isR = true) (hnP : va_nd perm = true) (hdis : ∀ i ∈ isR, i ∉ isC)
    (q0 : Nat) (he : wc[q0]? = some (b, .inr (ci, fs))) (hcl : vwCl[ci]? = some q)
    (hz : zC own index q.1 y bytes maxL ret n) (hn : As.length = n) (hroom : fr + 1 ≤ R.frames ∧ 8 + (maxL + 11) + lo ≤ R.locals) (hst : st0 = As.reverse ++ .ref b :: rest) (hcat : (rest.map fun v => v.category).sum ≤ 8) (hcs : cells ≤ R.cells ∧ slots ≤ R.slots) (hdg : decode cc pc = .ok (.invokevirtual index, 3))
    (kk : ∀ (H1 : Heap) (locs1 : List Loc), zG D A s H1 locs1 ws' → W p l e R s m args below meth c H1 locs1 cells slots Q (F0 m (pc + 3) ls (r.toList ++ rest))) : W p l e R s m args below meth c H locs cells slots Q (F0 m pc ls st0) := by
  obtain ⟨k1, k2, k3, k4, k5, k6, k7⟩ := hz
  have hts := E.2.2.2.2
  have hPc := G.1.sub isC (z_fm hC)
  have hDc := G.2.1.sub isC hnC hC
  exact z_wrun hA G rfl isC isR perm hC hR hPm hnR hnP hdis (va_runV (As := As) (rest := rest) E (hM H.size) ⟨⟨rfl, rfl, hroom.1, hroom.2, pay_in hts (z_good k5), List.mem_cons_self, hts _ k5, hts _ k4, k6, z_len k7, hts _ k1⟩, hts _ k2, hts _ k3⟩ ⟨zP.blind, va_recv hK hPc hcl he, fun U hU hW => ⟨rfl, by rw [hU], hN.warm hW, by rw [hU]; exact hPc, va_K.moved hW.alike hK, hDc.weaken (fun _ _ _ _ => trivial)⟩⟩ rfl hn hl hst (lv_room hcat) hdg hcs) kk
/-- of a static method of another class (not private), e.g. of the JDK -/
theorem z_ws {own : String} {n maxL fr lo index : Nat} {y : MethodName} {bytes : ByteArray} {ret : Option FieldType} {As st0 : List Value} {wc wc' wr ws' : va_W} {r : Option Value}
    (E : CallFix p m c cc nL s args zB own) (hN : zN s) (hK : va_K D vwCl tys s) (hA : ∀ q, s.heap.size ≤ q → A q) (G : zG D A s H locs ws) (hl : ls.size = nL)
    (hM : zW l D tys y bytes maxL ret fr lo As wc wc' r) (isC isR perm : List Nat) (hC : isC.map (fun i => ws[i]?) = wc.map some) (hR : isR.map (fun i => ws[i]?) = wr.map some) (hPm : perm.map (fun i => (wr ++ wc')[i]?) = ws'.map some) (hnC : va_nd isC = true) (hnR : va_nd isR = true) (hnP : va_nd perm = true) (hdis : ∀ i ∈ isR, i ∉ isC)
    (hz : zCs own index y bytes maxL ret n) (hn : As.length = n) (hroom : fr + 1 ≤ R.frames ∧ 8 + (maxL + 11) + lo ≤ R.locals) (hst : st0 = As.reverse ++ rest) (hcat : (rest.map fun v => v.category).sum ≤ 8) (hcs : cells ≤ R.cells ∧ slots ≤ R.slots) (hdg : decode cc pc = .ok (.invokestatic index, 3))
    (kk : ∀ (H1 : Heap) (locs1 : List Loc), zG D A s H1 locs1 ws' → W p l e R s m args below meth c H1 locs1 cells slots Q (F0 m (pc + 3) ls (r.toList ++ rest))) : W p l e R s m args below meth c H locs cells slots Q (F0 m pc ls st0) := by
  obtain ⟨k1, k2, k4, k5, k6, k7⟩ := hz
  have hts := E.2.2.2.2
  have hPc := G.1.sub isC (z_fm hC)
  have hDc := G.2.1.sub isC hnC hC
  exact z_wrun hA G rfl isC isR perm hC hR hPm hnR hnP hdis (va_runS (As := As) (rest := rest) E (hM H.size) ⟨⟨rfl, rfl, hroom.1, hroom.2, pay_in hts (z_good k5), List.mem_cons_self, hts _ k5, hts _ k4, k6, z_len k7, hts _ k1⟩, hts _ k2⟩ ⟨zP.blind, fun U hU hW => ⟨rfl, by rw [hU], hN.warm hW, by rw [hU]; exact hPc, va_K.moved hW.alike hK, hDc.weaken (fun _ _ _ _ => trivial)⟩⟩ rfl hn hl hst (lv_room hcat) hdg hcs) kk
/-- getfield, putfield, arrays, over the layer's words -/
theorem z_get {own C : String} {T : u_T} {N ci index a : Nat} {fs : List Value} {v : Value} (E : CallFix p m c cc nL s args zB own) (hK : va_K D vwCl tys s) (hP : va_P D vwCl ws H) (hin : ∀ w ∈ u_ws C T N, w ∈ zB) (q0 k : Nat) (he : ws[q0]? = some (a, .inr (ci, fs))) (hc : vwCl[ci]? = some (C, T, N)) (hk : k < N) (hlink : Cond.fieldLink own index (T k).1 (T k).2.1 (T k).2.2.1 ∈ zB) (hv : fs[k]? = some v) (hdg : decode cc pc = .ok (.getfield index, 3))
    (kk : W p l e R s m args below meth c H locs cells slots Q (F0 m (pc + 3) ls (v :: rest))) : W p l e R s m args below meth c H locs cells slots Q (F0 m pc ls (.ref a :: rest)) :=
  va_get E.1 E.2.1 E.2.2.2.2 hin E.2.2.2.1 hK hP q0 he hc k hk (E.2.2.2.2 _ hlink) (fun _ h9 => h9) hv hdg kk
theorem z_put {own C : String} {T : u_T} {N ci index a : Nat} {fs : List Value} {v : Value} {ty : FieldType} {ws' : va_W} (E : CallFix p m c cc nL s args zB own) (hK : va_K D vwCl tys s) (G : zG D A s H locs ws) (hin : ∀ w ∈ u_ws C T N, w ∈ zB) (ty0 : Nat → FieldType) (hty : ∀ k, k < N → parseFieldDescriptor (T k).2.2.1 = some (ty0 k)) (hnm : ∀ a, a < N → ∀ b, b < N → a ≠ b → (T a).2.1 ≠ (T b).2.1) (q0 k : Nat) (he : ws[q0]? = some (a, .inr (ci, fs))) (hc : vwCl[ci]? = some (C, T, N)) (hk : k < N) (hlink : Cond.fieldLink own index (T k).1 (T k).2.1 (T k).2.2.1 ∈ zB) (hfin : (T k).2.2.2 = false) (hd : ty0 k = ty) (hn : narrow ty v = v) (hfit : fits ty v = true) (hl : k < fs.length) (hws : ws.set q0 (a, .inr (ci, fs.set k v)) = ws') (hdg : decode cc pc = .ok (.putfield index, 3))
    (kk : ∀ (H1 : Heap) (locs1 : List Loc), zG D A s H1 locs1 ws' → W p l e R s m args below meth c H1 locs1 cells slots Q (F0 m (pc + 3) ls rest)) : W p l e R s m args below meth c H locs cells slots Q (F0 m pc ls (v :: .ref a :: rest)) := by
  subst hws
  exact va_put E.1 E.2.1 E.2.2.2.2 hin ty0 hty hnm E.2.2.2.1 hK G.1 G.2.1 G.2.2 q0 he hc k hk (E.2.2.2.2 _ hlink) (fun _ h9 => h9) hfin (ty := ty) (by rw [hty k hk, hd]) hn hfit hl hdg (fun H1 l1 a1 a2 a3 => kk H1 l1 ⟨a1, a2, a3⟩)
theorem z_ald {own : String} {a n : Nat} {cA : ClassId} {f : Nat → Int32} {i : Int32} (E : CallFix p m c cc nL s args zB own) (hK : va_K D vwCl tys s) (hP : va_P D vwCl ws H) (q0 t0 : Nat) (ha : ws[q0]? = some (a, .inl (cA, n, .inl f))) (ht : tys[t0]? = some (cA, .int)) (hin : vp_in i n) (hdg : decode cc pc = .ok (.iaload, 1))
    (kk : W p l e R s m args below meth c H locs cells slots Q (F0 m (pc + 1) ls (.int (f i.toNatClampNeg) :: rest))) : W p l e R s m args below meth c H locs cells slots Q (F0 m pc ls (.int i :: .ref a :: rest)) :=
  va_iald E.1 E.2.1 hK hP q0 t0 ha ht hin hdg kk
theorem z_ast {own : String} {a n : Nat} {cA : ClassId} {f : Nat → Int32} {i x : Int32} {ws' : va_W} (E : CallFix p m c cc nL s args zB own) (hK : va_K D vwCl tys s) (G : zG D A s H locs ws) (q0 t0 : Nat) (ha : ws[q0]? = some (a, .inl (cA, n, .inl f))) (ht : tys[t0]? = some (cA, .int)) (hin : vp_in i n) (hws : ws.set q0 (a, .inl (cA, n, .inl (upd f i.toNatClampNeg x))) = ws') (hdg : decode cc pc = .ok (.iastore, 1))
    (kk : ∀ (H1 : Heap) (locs1 : List Loc), zG D A s H1 locs1 ws' → W p l e R s m args below meth c H1 locs1 cells slots Q (F0 m (pc + 1) ls rest)) : W p l e R s m args below meth c H locs cells slots Q (F0 m pc ls (.int x :: .int i :: .ref a :: rest)) := by
  subst hws
  exact va_iast E.1 E.2.1 hK G.1 G.2.1 G.2.2 q0 t0 ha ht hin hdg (fun H1 l1 a1 a2 a3 => kk H1 l1 ⟨a1, a2, a3⟩)
end ZL
theorem z_in {w : Cond} (i : Nat) (h : tables_1[i]? = some w) (hg : goodWord w = true) : w ∈ zB := List.mem_filter.mpr ⟨List.mem_append_right _ (List.mem_of_getElem? h), hg⟩
theorem z_inS {w : Cond} (i : Nat) (h : (k2_sels lw_privs)[i]? = some w) (hg : goodWord w = true) : w ∈ zB := List.mem_filter.mpr ⟨List.mem_append_left _ (List.mem_of_getElem? h), hg⟩
theorem z_inN {w : Cond} (i : Nat) (h : tables_1[i]? = some w) (hg : zIsN w = true) : w ∈ zNs := List.mem_filter.mpr ⟨List.mem_append_right _ (List.mem_of_getElem? h), hg⟩
end
section
/-! small helpers of the walks -/
def up2 (Z : Nat → Nat → Int32) (j i : Nat) (v : Int32) : Nat → Nat → Int32 := fun b => match Nat.beq b j with
  | true => upd (Z b) i v
  | false => Z b
def fillF (f : Nat → Int32) (n : Nat) (v : Int32) : Nat → Int32 := fun j => if j < n then v else f j
def fill2 (Z : Nat → Nat → Int32) (j n : Nat) (v : Int32) : Nat → Nat → Int32 := fun b => match Nat.beq b j with
  | true => fillF (Z b) n v
  | false => Z b
theorem fillF_0 (f : Nat → Int32) (v : Int32) : fillF f 0 v = f := by
  funext j
  simp [fillF]
theorem fillF_s (f : Nat → Int32) (i : Nat) (v : Int32) : upd (fillF f i v) i v = fillF f (i + 1) v := by
  funext j
  simp only [upd, fillF]
  split
  · rw [if_pos (by omega)]
  · split
    · rw [if_pos (by omega)]
    · rw [if_neg (by omega)]
theorem nar01 {v : Int32} (h : v = 0 ∨ v = 1) : narrow .boolean (.int v) = .int v := by rcases h with rfl | rfl <;> rfl
theorem sw_out3 {x : Int32} (h0 : ¬ x = 0) (h1 : ¬ x = 1) (h2 : ¬ x = 2) : x.toInt < 0 ∨ 2 < x.toInt := by
  have a0 := lv_neT (a := 0) h0 (by decide)
  have a1 := lv_neT (a := 1) h1 (by decide)
  have a2 := lv_neT (a := 2) h2 (by decide)
  omega
theorem sw_out5 {x : Int32} (h0 : ¬ x = 0) (h1 : ¬ x = 1) (h2 : ¬ x = 2) (h3 : ¬ x = 3) (h4 : ¬ x = 4) : x.toInt < 0 ∨ 4 < x.toInt := by
  have a0 := lv_neT (a := 0) h0 (by decide)
  have a1 := lv_neT (a := 1) h1 (by decide)
  have a2 := lv_neT (a := 2) h2 (by decide)
  have a3 := lv_neT (a := 3) h3 (by decide)
  have a4 := lv_neT (a := 4) h4 (by decide)
  omega
theorem sw_out6 {x : Int32} (h0 : ¬ x = 0) (h1 : ¬ x = 1) (h2 : ¬ x = 2) (h3 : ¬ x = 3) (h4 : ¬ x = 4) (h5 : ¬ x = 5) : x.toInt < 0 ∨ 5 < x.toInt := by
  have a0 := lv_neT (a := 0) h0 (by decide)
  have a1 := lv_neT (a := 1) h1 (by decide)
  have a2 := lv_neT (a := 2) h2 (by decide)
  have a3 := lv_neT (a := 3) h3 (by decide)
  have a4 := lv_neT (a := 4) h4 (by decide)
  have a5 := lv_neT (a := 5) h5 (by decide)
  omega
section ZN
variable {p : Program} {l : Launch} {e : Env} {R : Room} {s : State} {m : MethodId} {args : Array Value} {below : List Frame} {meth : Method} {c : Code} {H : Heap} {locs : List Loc} {cells slots : Nat} {Q : State → Prop}
variable {cc : ByteArray} {pc nL : Nat} {ls : Array Slot} {rest : List Value} {D : va_G} {A : Nat → Prop} {tys : List (ClassId × FieldType)} {ws : va_W}
theorem z_aldN {own : String} {a n j : Nat} {cA : ClassId} {f : Nat → Int32} {i : Int32} (E : CallFix p m c cc nL s args zB own) (hK : va_K D vwCl tys s) (hP : va_P D vwCl ws H) (q0 t0 : Nat) (ha : ws[q0]? = some (a, .inl (cA, n, .inl f))) (ht : tys[t0]? = some (cA, .int)) (hi : i = nI j) (hj : j < n) (hn : n < 2 ^ 31) (hdg : decode cc pc = .ok (.iaload, 1))
    (kk : W p l e R s m args below meth c H locs cells slots Q (F0 m (pc + 1) ls (.int (f j) :: rest))) : W p l e R s m args below meth c H locs cells slots Q (F0 m pc ls (.int i :: .ref a :: rest)) := by
  subst hi
  exact z_ald E hK hP q0 t0 ha ht (vp_in_nI hj hn) hdg (by rw [nI_clamp (by omega)]; exact kk)
theorem z_astN {own : String} {a n j : Nat} {cA : ClassId} {f : Nat → Int32} {i x : Int32} {ws' : va_W} (E : CallFix p m c cc nL s args zB own) (hK : va_K D vwCl tys s) (G : zG D A s H locs ws) (q0 t0 : Nat) (ha : ws[q0]? = some (a, .inl (cA, n, .inl f))) (ht : tys[t0]? = some (cA, .int)) (hi : i = nI j) (hj : j < n) (hn : n < 2 ^ 31) (hws : ws.set q0 (a, .inl (cA, n, .inl (upd f j x))) = ws') (hdg : decode cc pc = .ok (.iastore, 1))
    (kk : ∀ (H1 : Heap) (locs1 : List Loc), zG D A s H1 locs1 ws' → W p l e R s m args below meth c H1 locs1 cells slots Q (F0 m (pc + 1) ls rest)) : W p l e R s m args below meth c H locs cells slots Q (F0 m pc ls (.int x :: .int i :: .ref a :: rest)) := by
  subst hi
  exact z_ast E hK G q0 t0 ha ht (vp_in_nI hj hn) (by rw [nI_clamp (by omega)]; exact hws) hdg kk
end ZN
/-! constructors: the cell of the new object, and the cells that it makes -/
def zQK (D : va_G) (A : Nat → Prop) (B : va_W → Prop) : Array Value → State → Outcome → State → Prop := fun _ st oc t => oc = .returned none ∧ (∃ w', B w' ∧ va_P D vwCl w' t.heap ∧ va_D A w') ∧ va_F A st t
def zK (l : Launch) (D : va_G) (tys : List (ClassId × FieldType)) (y : MethodName) (cc : ByteArray) (n fr lo mc ms : Nat) (av : List Value) (w : va_W) (B : va_W → Prop) : Prop :=
  ∀ sz : Nat, Met l y (Cond.code y cc n none :: zB) { frames := fr, cells := mc, slots := ms, locals := lo } (va_Pc av (zP D tys w sz)) (zQK D (va_A w sz) B) mc ms (va_A w sz)
def zCi (own : String) (index : Nat) (y : MethodName) (bytes : ByteArray) (maxL : Nat) (n : Nat) : Prop :=
  Cond.methodLink own index y ∈ zB ∧ Cond.instanceMethod y ∈ zB ∧ Cond.initialized y.cls ∈ zB ∧ Cond.code y bytes maxL none ∈ zB ∧ (y.cls ≠ "java/lang/invoke/MethodHandle" ∧ y.cls ≠ "java/lang/invoke/VarHandle") ∧ (parseMethodDescriptor y.desc).map (fun d => d.parameters.length) = some n
section ZK
variable {p : Program} {l : Launch} {e : Env} {R : Room} {s : State} {m : MethodId} {args : Array Value} {below : List Frame} {meth : Method} {c : Code} {H : Heap} {locs : List Loc} {cells slots : Nat} {Q : State → Prop}
variable {cc : ByteArray} {pc nL : Nat} {ls : Array Slot} {rest : List Value} {D : va_G} {A : Nat → Prop} {tys : List (ClassId × FieldType)} {ws : va_W}
theorem zK.of {y : MethodName} {n fr lo mc ms : Nat} {av : List Value} {w : va_W} {B : va_W → Prop} (hy : plainName y.cls = true) (hln : (lg_sl av).length ≤ n) (hini : y.name = "<init>")
    (body : ∀ (p : Program) (e : Env) (s : State) (m : MethodId) (below : List Frame) (meth : Method) (c : Code) (ls : Array Slot) (A : Nat → Prop), CallFix p m c cc n s av.toArray zB y.cls → meth.sig.returnType = none → meth.locks = false → meth.name = "<init>" → zN s → va_K D vwCl tys s → (∀ q, s.heap.size ≤ q → A q) → zG D A s s.heap [] w → lv_has ls n (lv_args 0 av) →
      W p l e { frames := fr, cells := mc, slots := ms, locals := lo } s m av.toArray below meth c s.heap [] 0 0 (MQ below (zQK D A B) av.toArray s mc ms A) (F0 m 0 ls [])) : zK l D tys y cc n fr lo mc ms av w B := by
  intro sz
  refine Met.ofW (cc := cc) (maxL := n) (ret := none) hy rfl ?_
  intro p e s m args below meth c s₁ B hml hv
  obtain ⟨rfl, hsz, hN, hP, hK, hD0⟩ := hv
  have hts := atoms_spec (ws := Cond.code y cc n none :: zB) B.pre
  have hown : s.vm.findClass y.cls = some m.cls := findClass_of_methodNamed B.named
  have hin : meth.name = y.name := (name_of_methodNamed B.named B.method).1
  have hl := lv_entry av (n := n) hln
  rw [lg_entry_eq]
  subst hsz
  exact body p e s m below meth c _ (va_A w s.heap.size) ⟨B.exec, B.bytes, hml, hown, fun w hw => hts w (List.mem_cons_of_mem _ hw)⟩ B.returns B.notSynchronized (hin.trans hini) hN hK (fun q h => Or.inr h) ⟨hP, hD0.self, va_S.rf⟩ hl
theorem zK.vret {own : String} {B : va_W → Prop} {mc ms : Nat} (E : CallFix p m c cc nL s args zB own) (hr : meth.sig.returnType = none) (hlk : meth.locks = false) (G : zG D A s H locs ws) (hB : B ws) (h1 : cells ≤ mc) (h2 : slots ≤ ms) (d : decode cc pc = .ok (.return_, 1)) : W p l e R s m args below meth c H locs cells slots (MQ below (zQK D A B) args s mc ms A) (F0 m pc ls []) := by
  refine W.widen h1 h2 ?_
  exact W.vret E.1 E.2.1 hr (fun t ht _ => ⟨rfl, ⟨ws, hB, by rw [ht]; exact G.1, G.2.1⟩, G.2.2.F ht⟩) G.2.2.2.2 d hlk
theorem z_obj {own : String} {idx a : Nat} (E : CallFix p m c cc nL s args zB own) (hl : ls.size = nL) (k1 : Cond.methodLink own idx Lib.objectInit ∈ zB) (k2 : Cond.instanceMethod Lib.objectInit ∈ zB) (k3 : Cond.code Lib.objectInit ⟨#[0xb1]⟩ 1 none ∈ zB) (hd : decode cc pc = .ok (.invokespecial idx, 3)) (hfr : 1 ≤ R.frames) (hlo : 8 + 12 ≤ R.locals) (hcat : (rest.map fun v => v.category).sum ≤ 8)
    (kk : W p l e R s m args below meth c H locs cells slots Q (F0 m (pc + 3) ls rest)) : W p l e R s m args below meth c H locs cells slots Q (F0 m pc ls (.ref a :: rest)) :=
  W.objInit E.1 E.2.1 E.2.2.2.1 (E.2.2.2.2 _ k1) (E.2.2.2.2 _ k2) (E.2.2.2.2 _ k3) rfl (hl.trans E.2.2.1.symm) rfl hd hfr (by have h := lv_room (m := m) (pc := pc) (ls := ls) (rest := (.ref a :: rest)) hcat; omega) kk
theorem z_newi {own : String} {cI : ClassId} {n : Int32} {N t0 : Nat} (E : CallFix p m c cc nL s args zB own) (hK : va_K D vwCl tys s) (hA : ∀ q, s.heap.size ≤ q → A q) (G : zG D A s H locs ws) (harr : Cond.arrayClass .int ∈ zB) (ht : tys[t0]? = some (cI, .int)) (hn : ¬ n < 0) (hN : n.toNatClampNeg = N) (hbytes : N * componentBytes .int ≤ 536870912) (hcells : cells + 1 ≤ R.cells) (hslots : slots + N ≤ R.slots) (hdg : decode cc pc = .ok (.newarray .int, 2))
    (kk : ∀ (q : Nat) (H1 : Heap), zG D A s H1 locs (ws ++ [(q, .inl (cI, N, .inl (fun _ => 0)))]) → W p l e R s m args below meth c H1 locs (cells + 1) (slots + N) Q (F0 m (pc + 2) ls (.ref q :: rest))) : W p l e R s m args below meth c H locs cells slots Q (F0 m pc ls (.int n :: rest)) := by
  refine va_newa (atype := .int) (ty := .int) (a0 := (N, .inl (fun _ => 0))) E.1 E.2.1 (E.2.2.2.2 _ harr) rfl hK G.1 G.2.1 G.2.2 hA (fun cA => rfl) hn hN hbytes hcells hslots hdg (fun q cA H1 hK1 hP1 hD1 hS1 => ?_)
  have h1 := (hK1.2 tys.length (cA, .int) (by simp [newarray.typeOf])).2
  have h2 := (hK.2 t0 _ ht).2
  have h3 : cA = cI := Option.some.inj (h1.symm.trans h2)
  subst h3
  exact kk q H1 ⟨hP1, hD1, hS1⟩
theorem z_putF {own C : String} {T : u_T} {N ci index a : Nat} {fs : List Value} {v : Value} {ty : FieldType} {ws' : va_W} (E : CallFix p m c cc nL s args zB own) (hK : va_K D vwCl tys s) (G : zG D A s H locs ws) (hin : ∀ w ∈ u_ws C T N, w ∈ zB) (ty0 : Nat → FieldType) (hty : ∀ k, k < N → parseFieldDescriptor (T k).2.2.1 = some (ty0 k)) (hnm : ∀ a, a < N → ∀ b, b < N → a ≠ b → (T a).2.1 ≠ (T b).2.1) (hmn : meth.name = "<init>") (q0 k : Nat) (he : ws[q0]? = some (a, .inr (ci, fs))) (hc : vwCl[ci]? = some (C, T, N)) (hk : k < N) (hlink : Cond.fieldLink own index (T k).1 (T k).2.1 (T k).2.2.1 ∈ zB) (hfin : (T k).2.2.2 = true) (hdecl : (T k).1 = own) (hd : ty0 k = ty) (hn : narrow ty v = v) (hfit : fits ty v = true) (hl : k < fs.length) (hws : ws.set q0 (a, .inr (ci, fs.set k v)) = ws') (hdg : decode cc pc = .ok (.putfield index, 3))
    (kk : ∀ (H1 : Heap) (locs1 : List Loc), zG D A s H1 locs1 ws' → W p l e R s m args below meth c H1 locs1 cells slots Q (F0 m (pc + 3) ls rest)) : W p l e R s m args below meth c H locs cells slots Q (F0 m pc ls (v :: .ref a :: rest)) := by
  subst hws
  exact va_putF E.1 E.2.1 E.2.2.2.2 hin ty0 hty hnm E.2.2.2.1 hK G.1 G.2.1 G.2.2 q0 he hc k hk (E.2.2.2.2 _ hlink) (fun _ h9 => h9) hfin hmn hdecl (ty := ty) (by rw [hty k hk, hd]) hn hfit hl hdg (fun H1 l1 a1 a2 a3 => kk H1 l1 ⟨a1, a2, a3⟩)
theorem z_new {own C : String} {T : u_T} {N ci index : Nat} {fs : List Value} (E : CallFix p m c cc nL s args zB own) (hK : va_K D vwCl tys s) (hA : ∀ q, s.heap.size ≤ q → A q) (G : zG D A s H locs ws) (hin : ∀ w ∈ u_ws C T N, w ∈ zB) (ty0 : Nat → FieldType) (hty : ∀ k, k < N → parseFieldDescriptor (T k).2.2.1 = some (ty0 k)) (k1 : Cond.classLink own index C ∈ zB) (k2 : Cond.instantiable C N ∈ zB) (k3 : Cond.initialized C ∈ zB) (hc : vwCl[ci]? = some (C, T, N)) (hfs : ∀ j, j < N → defaultValue (ty0 j) = vp_V fs j) (hcells : cells + 1 ≤ R.cells) (hslots : slots + N ≤ R.slots) (hdg : decode cc pc = .ok (.new index, 3))
    (kk : ∀ (q : Nat) (H1 : Heap), zG D A s H1 locs (ws ++ [(q, .inr (ci, fs))]) → W p l e R s m args below meth c H1 locs (cells + 1) (slots + N) Q (F0 m (pc + 3) ls (.ref q :: rest))) : W p l e R s m args below meth c H locs cells slots Q (F0 m pc ls rest) :=
  va_new E.1 E.2.1 E.2.2.2.2 hin ty0 hty E.2.2.2.1 (E.2.2.2.2 _ k1) (E.2.2.2.2 _ k2) (E.2.2.2.2 _ k3) hK G.1 G.2.1 G.2.2 hA hc hfs hcells hslots hdg (fun q H1 a1 a2 a3 => kk q H1 ⟨a1, a2, a3⟩)
theorem z_ki {own : String} {b n maxL fr lo index mc ms : Nat} {y : MethodName} {bytes : ByteArray} {As st0 : List Value} {wc wr : va_W} {B : va_W → Prop}
    (E : CallFix p m c cc nL s args zB own) (hN : zN s) (hK : va_K D vwCl tys s) (hA : ∀ q, s.heap.size ≤ q → A q) (G : zG D A s H locs ws) (hl : ls.size = nL)
    (hM : zK l D tys y bytes maxL fr lo mc ms (.ref b :: As) wc B) (isC isR : List Nat) (hC : isC.map (fun i => ws[i]?) = wc.map some) (hR : isR.map (fun i => ws[i]?) = wr.map some) (hnC : va_nd isC = true) (hnR : va_nd isR = true) (hdis : ∀ i ∈ isR, i ∉ isC)
    (hz : zCi own index y bytes maxL n) (hini : y.name = "<init>") (hn : As.length = n) (hroom : fr + 1 ≤ R.frames ∧ 8 + (maxL + 11) + lo ≤ R.locals) (hst : st0 = As.reverse ++ .ref b :: rest) (hcat : (rest.map fun v => v.category).sum ≤ 8) (hcs : cells + mc ≤ R.cells ∧ slots + ms ≤ R.slots) (hdg : decode cc pc = .ok (.invokespecial index, 3))
    (kk : ∀ (H1 : Heap) (locs1 : List Loc) (w' : va_W), B w' → zG D A s H1 locs1 (wr ++ w') → W p l e R s m args below meth c H1 locs1 (cells + mc) (slots + ms) Q (F0 m (pc + 3) ls rest)) : W p l e R s m args below meth c H locs cells slots Q (F0 m pc ls st0) := by
  obtain ⟨k1, k2, k4, k5, k6, k7⟩ := hz
  have hts := E.2.2.2.2
  obtain ⟨hP, hD, hS⟩ := id G
  have hPc := hP.sub isC (z_fm hC)
  have hDc := hD.sub isC hnC hC
  have hF := va_free hD hS hA isC hC
  have hr := va_runI (As := As) (rest := rest) (g := F0 m pc ls st0) (H := H) (locs := locs) (cells := cells) (slots := slots) (below := below) (meth := meth) (e := e) E (hM H.size) ⟨⟨rfl, rfl, hroom.1, hroom.2, pay_in hts (z_good k5), List.mem_cons_self, hts _ k5, hts _ k4, k6, z_len k7, hts _ k1⟩, hini, hts _ k2⟩ ⟨zP.blind, fun U hU hW => ⟨rfl, by rw [hU], hN.warm hW, by rw [hU]; exact hPc, va_K.moved hW.alike hK, hDc.weaken (fun _ _ _ _ => trivial)⟩⟩ rfl hn hl hst (lv_room hcat) hdg hcs
  intro T hT X
  obtain ⟨v, st₀, t, T', L, h0, X', hL, e1, e2, ⟨hv, ⟨w', hB, hp1, hd1⟩, hz, hk⟩, st⟩ := hr T hT X
  cases hv
  rw [h0] at hz hk
  obtain ⟨hPj, hDj⟩ := va_join hP hD isC isR hC hR hnR hdis hk hF hp1 hd1
  obtain ⟨t2, a1, b1⟩ := kk T'.heap (locs ++ L) w' hB ⟨by rw [e1]; exact hPj, hDj, Nat.le_trans hS.1 (by rw [e1]; exact hz), fun q h1 h2 => by rw [e1, hk q (Nat.lt_of_lt_of_le h1 hS.1) (fun z => h2 (hF q z))]; exact hS.2.1 q h1 h2, fun q hq => by
      rcases List.mem_append.mp hq with h | h
      · exact hS.2.2 q h
      · exact hF _ (hL q h)⟩ T' rfl X'
  exact ⟨t2, st t2 a1, b1⟩
end ZK
def zCin (own : String) (index : Nat) (host : String) (y : MethodName) (bytes : ByteArray) (maxL : Nat) (n : Nat) : Prop :=
  Cond.methodLinkNest own index y host ∈ zNs ∧ Cond.instanceMethod y ∈ zB ∧ Cond.initialized y.cls ∈ zB ∧ Cond.code y bytes maxL none ∈ zB ∧ (y.cls ≠ "java/lang/invoke/MethodHandle" ∧ y.cls ≠ "java/lang/invoke/VarHandle") ∧ (parseMethodDescriptor y.desc).map (fun d => d.parameters.length) = some n
end
section
theorem i_H : ∀ w ∈ u_ws R_H F_H 4, w ∈ zB := by decide +kernel
theorem i_R : ∀ w ∈ u_ws R_R F_R 5, w ∈ zB := by decide +kernel
theorem i_Q : ∀ w ∈ u_ws R_Q F_Q 7, w ∈ zB := by decide +kernel
theorem i_S : ∀ w ∈ u_ws R_S F_S 4, w ∈ zB := by decide +kernel
theorem i_X : ∀ w ∈ u_ws R_X F_X 5, w ∈ zB := by decide +kernel
theorem i_M : ∀ w ∈ u_ws R_M F_M 22, w ∈ zB := by decide +kernel
theorem kz_X_120 : zCs R_X 120 y_X_isWithin b_X_isWithin 3 (some .boolean) 3 := ⟨(z_in 144 (by decide +kernel) (by decide +kernel)), (z_in 145 (by decide +kernel) (by decide +kernel)), (z_in 1 (by decide +kernel) (by decide +kernel)), (z_in 146 (by decide +kernel) (by decide +kernel)), ⟨by decide, by decide⟩, by decide +kernel⟩
theorem kf_S_27 : Cond.fieldLink R_S 27 (F_S 0).1 (F_S 0).2.1 (F_S 0).2.2.1 ∈ zB := (z_in 36 (by decide +kernel) (by decide +kernel))
theorem kf_S_9 : Cond.fieldLink R_S 9 (F_S 1).1 (F_S 1).2.1 (F_S 1).2.2.1 ∈ zB := (z_in 37 (by decide +kernel) (by decide +kernel))
theorem kf_S_54 : Cond.fieldLink R_S 54 (F_S 3).1 (F_S 3).2.1 (F_S 3).2.2.1 ∈ zB := (z_in 39 (by decide +kernel) (by decide +kernel))
theorem kf_S_15 : Cond.fieldLink R_S 15 (F_S 2).1 (F_S 2).2.1 (F_S 2).2.2.1 ∈ zB := (z_in 38 (by decide +kernel) (by decide +kernel))
theorem kz_S_48 : zCn R_S 48 R_X y_X_isPerson b_X_isPerson 1 (some .boolean) 1 := ⟨(z_inN 159 (by decide +kernel) (by decide +kernel)), (z_in 142 (by decide +kernel) (by decide +kernel)), (z_in 1 (by decide +kernel) (by decide +kernel)), (z_in 143 (by decide +kernel) (by decide +kernel)), ⟨by decide, by decide⟩, by decide +kernel⟩
theorem kz_S_51 : zC R_S 51 R_S y_S_firstSeatWith b_S_firstSeatWith 3 (some .int) 1 := ⟨(z_in 160 (by decide +kernel) (by decide +kernel)), (z_in 162 (by decide +kernel) (by decide +kernel)), (z_inS 0 (by decide +kernel) (by decide +kernel)), (z_in 2 (by decide +kernel) (by decide +kernel)), (z_in 163 (by decide +kernel) (by decide +kernel)), ⟨by decide, by decide⟩, by decide +kernel⟩
theorem kz_S_37 : zC R_S 37 R_S y_S_seatOf b_S_seatOf 2 (some .int) 1 := ⟨(z_in 155 (by decide +kernel) (by decide +kernel)), (z_in 156 (by decide +kernel) (by decide +kernel)), (z_in 157 (by decide +kernel) (by decide +kernel)), (z_in 2 (by decide +kernel) (by decide +kernel)), (z_in 158 (by decide +kernel) (by decide +kernel)), ⟨by decide, by decide⟩, by decide +kernel⟩
theorem kz_S_41 : zC R_S 41 R_S y_S_isSeated b_S_isSeated 2 (some .boolean) 1 := ⟨(z_in 151 (by decide +kernel) (by decide +kernel)), (z_in 152 (by decide +kernel) (by decide +kernel)), (z_in 153 (by decide +kernel) (by decide +kernel)), (z_in 2 (by decide +kernel) (by decide +kernel)), (z_in 154 (by decide +kernel) (by decide +kernel)), ⟨by decide, by decide⟩, by decide +kernel⟩
theorem kz_S_45 : zC R_S 45 R_S y_S_placeInRow b_S_placeInRow 3 (some .int) 1 := ⟨(z_in 164 (by decide +kernel) (by decide +kernel)), (z_in 165 (by decide +kernel) (by decide +kernel)), (z_in 166 (by decide +kernel) (by decide +kernel)), (z_in 2 (by decide +kernel) (by decide +kernel)), (z_in 167 (by decide +kernel) (by decide +kernel)), ⟨by decide, by decide⟩, by decide +kernel⟩
theorem kz_S_61 : zCn R_S 61 R_X y_X_isWithin b_X_isWithin 3 (some .boolean) 3 := ⟨(z_inN 188 (by decide +kernel) (by decide +kernel)), (z_in 145 (by decide +kernel) (by decide +kernel)), (z_in 1 (by decide +kernel) (by decide +kernel)), (z_in 146 (by decide +kernel) (by decide +kernel)), ⟨by decide, by decide⟩, by decide +kernel⟩
theorem kz_S_57 : zC R_S 57 R_S y_S_dropFromRow b_S_dropFromRow 3 none 1 := ⟨(z_in 184 (by decide +kernel) (by decide +kernel)), (z_in 186 (by decide +kernel) (by decide +kernel)), (z_inS 1 (by decide +kernel) (by decide +kernel)), (z_in 2 (by decide +kernel) (by decide +kernel)), (z_in 187 (by decide +kernel) (by decide +kernel)), ⟨by decide, by decide⟩, by decide +kernel⟩
theorem kz_S_31 : zCs R_S 31 y_JA_fill b_JA_fill 4 none 2 := ⟨(z_in 33 (by decide +kernel) (by decide +kernel)), (z_in 34 (by decide +kernel) (by decide +kernel)), (z_in 4 (by decide +kernel) (by decide +kernel)), (z_in 35 (by decide +kernel) (by decide +kernel)), ⟨by decide, by decide⟩, by decide +kernel⟩
theorem kz_R_33 : zCn R_R 33 R_X y_X_isPerson b_X_isPerson 1 (some .boolean) 1 := ⟨(z_inN 223 (by decide +kernel) (by decide +kernel)), (z_in 142 (by decide +kernel) (by decide +kernel)), (z_in 1 (by decide +kernel) (by decide +kernel)), (z_in 143 (by decide +kernel) (by decide +kernel)), ⟨by decide, by decide⟩, by decide +kernel⟩
theorem kf_R_21 : Cond.fieldLink R_R 21 (F_R 3).1 (F_R 3).2.1 (F_R 3).2.2.1 ∈ zB := (z_in 60 (by decide +kernel) (by decide +kernel))
theorem kf_R_24 : Cond.fieldLink R_R 24 (F_R 4).1 (F_R 4).2.1 (F_R 4).2.2.1 ∈ zB := (z_in 61 (by decide +kernel) (by decide +kernel))
theorem kf_R_9 : Cond.fieldLink R_R 9 (F_R 0).1 (F_R 0).2.1 (F_R 0).2.2.1 ∈ zB := (z_in 57 (by decide +kernel) (by decide +kernel))
theorem kf_R_15 : Cond.fieldLink R_R 15 (F_R 1).1 (F_R 1).2.1 (F_R 1).2.2.1 ∈ zB := (z_in 58 (by decide +kernel) (by decide +kernel))
theorem kf_R_18 : Cond.fieldLink R_R 18 (F_R 2).1 (F_R 2).2.1 (F_R 2).2.2.1 ∈ zB := (z_in 59 (by decide +kernel) (by decide +kernel))
theorem kz_R_37 : zC R_R 37 R_R y_R_copiedOn b_R_copiedOn 3 (some .int) 2 := ⟨(z_in 352 (by decide +kernel) (by decide +kernel)), (z_in 354 (by decide +kernel) (by decide +kernel)), (z_inS 7 (by decide +kernel) (by decide +kernel)), (z_in 5 (by decide +kernel) (by decide +kernel)), (z_in 355 (by decide +kernel) (by decide +kernel)), ⟨by decide, by decide⟩, by decide +kernel⟩
theorem kz_H_30 : zCn R_H 30 R_X y_X_isUnit b_X_isUnit 1 (some .boolean) 1 := ⟨(z_inN 228 (by decide +kernel) (by decide +kernel)), (z_in 194 (by decide +kernel) (by decide +kernel)), (z_in 1 (by decide +kernel) (by decide +kernel)), (z_in 195 (by decide +kernel) (by decide +kernel)), ⟨by decide, by decide⟩, by decide +kernel⟩
theorem kf_H_9 : Cond.fieldLink R_H 9 (F_H 0).1 (F_H 0).2.1 (F_H 0).2.2.1 ∈ zB := (z_in 80 (by decide +kernel) (by decide +kernel))
theorem kf_H_15 : Cond.fieldLink R_H 15 (F_H 1).1 (F_H 1).2.1 (F_H 1).2.2.1 ∈ zB := (z_in 81 (by decide +kernel) (by decide +kernel))
theorem kf_H_18 : Cond.fieldLink R_H 18 (F_H 2).1 (F_H 2).2.1 (F_H 2).2.2.1 ∈ zB := (z_in 82 (by decide +kernel) (by decide +kernel))
theorem kf_H_21 : Cond.fieldLink R_H 21 (F_H 3).1 (F_H 3).2.1 (F_H 3).2.2.1 ∈ zB := (z_in 83 (by decide +kernel) (by decide +kernel))
theorem kz_H_34 : zC R_H 34 R_H y_H_put b_H_put 4 none 3 := ⟨(z_in 386 (by decide +kernel) (by decide +kernel)), (z_in 271 (by decide +kernel) (by decide +kernel)), (z_in 272 (by decide +kernel) (by decide +kernel)), (z_in 6 (by decide +kernel) (by decide +kernel)), (z_in 273 (by decide +kernel) (by decide +kernel)), ⟨by decide, by decide⟩, by decide +kernel⟩
theorem kf_Q_30 : Cond.fieldLink R_Q 30 (F_Q 6).1 (F_Q 6).2.1 (F_Q 6).2.2.1 ∈ zB := (z_in 105 (by decide +kernel) (by decide +kernel))
theorem kz_Q_34 : zCn R_Q 34 R_X y_X_isWithin b_X_isWithin 3 (some .boolean) 3 := ⟨(z_inN 214 (by decide +kernel) (by decide +kernel)), (z_in 145 (by decide +kernel) (by decide +kernel)), (z_in 1 (by decide +kernel) (by decide +kernel)), (z_in 146 (by decide +kernel) (by decide +kernel)), ⟨by decide, by decide⟩, by decide +kernel⟩
theorem kz_Q_38 : zC R_Q 38 R_Q y_Q_has b_Q_has 2 (some .boolean) 1 := ⟨(z_in 210 (by decide +kernel) (by decide +kernel)), (z_in 211 (by decide +kernel) (by decide +kernel)), (z_in 212 (by decide +kernel) (by decide +kernel)), (z_in 7 (by decide +kernel) (by decide +kernel)), (z_in 213 (by decide +kernel) (by decide +kernel)), ⟨by decide, by decide⟩, by decide +kernel⟩
theorem kf_Q_9 : Cond.fieldLink R_Q 9 (F_Q 0).1 (F_Q 0).2.1 (F_Q 0).2.2.1 ∈ zB := (z_in 99 (by decide +kernel) (by decide +kernel))
theorem kf_Q_15 : Cond.fieldLink R_Q 15 (F_Q 1).1 (F_Q 1).2.1 (F_Q 1).2.2.1 ∈ zB := (z_in 100 (by decide +kernel) (by decide +kernel))
theorem kf_Q_18 : Cond.fieldLink R_Q 18 (F_Q 2).1 (F_Q 2).2.1 (F_Q 2).2.2.1 ∈ zB := (z_in 101 (by decide +kernel) (by decide +kernel))
theorem kf_Q_21 : Cond.fieldLink R_Q 21 (F_Q 3).1 (F_Q 3).2.1 (F_Q 3).2.2.1 ∈ zB := (z_in 102 (by decide +kernel) (by decide +kernel))
theorem kf_Q_24 : Cond.fieldLink R_Q 24 (F_Q 4).1 (F_Q 4).2.1 (F_Q 4).2.2.1 ∈ zB := (z_in 103 (by decide +kernel) (by decide +kernel))
theorem kf_Q_27 : Cond.fieldLink R_Q 27 (F_Q 5).1 (F_Q 5).2.1 (F_Q 5).2.2.1 ∈ zB := (z_in 104 (by decide +kernel) (by decide +kernel))
theorem kz_Q_42 : zC R_Q 42 R_Q y_Q_isRunningBy b_Q_isRunningBy 3 (some .boolean) 2 := ⟨(z_in 206 (by decide +kernel) (by decide +kernel)), (z_in 208 (by decide +kernel) (by decide +kernel)), (z_inS 3 (by decide +kernel) (by decide +kernel)), (z_in 7 (by decide +kernel) (by decide +kernel)), (z_in 209 (by decide +kernel) (by decide +kernel)), ⟨by decide, by decide⟩, by decide +kernel⟩
theorem kz_Q_46 : zC R_Q 46 R_Q y_Q_isOpenFor b_Q_isOpenFor 3 (some .boolean) 2 := ⟨(z_in 254 (by decide +kernel) (by decide +kernel)), (z_in 255 (by decide +kernel) (by decide +kernel)), (z_in 256 (by decide +kernel) (by decide +kernel)), (z_in 7 (by decide +kernel) (by decide +kernel)), (z_in 257 (by decide +kernel) (by decide +kernel)), ⟨by decide, by decide⟩, by decide +kernel⟩
theorem kz_Q_49 : zC R_Q 49 R_Q y_Q_isFull b_Q_isFull 1 (some .boolean) 0 := ⟨(z_in 245 (by decide +kernel) (by decide +kernel)), (z_in 238 (by decide +kernel) (by decide +kernel)), (z_in 239 (by decide +kernel) (by decide +kernel)), (z_in 7 (by decide +kernel) (by decide +kernel)), (z_in 240 (by decide +kernel) (by decide +kernel)), ⟨by decide, by decide⟩, by decide +kernel⟩
theorem kz_Q_57 : zC R_Q 57 R_Q y_Q_stateOf b_Q_stateOf 2 (some .int) 1 := ⟨(z_in 372 (by decide +kernel) (by decide +kernel)), (z_in 373 (by decide +kernel) (by decide +kernel)), (z_in 374 (by decide +kernel) (by decide +kernel)), (z_in 7 (by decide +kernel) (by decide +kernel)), (z_in 375 (by decide +kernel) (by decide +kernel)), ⟨by decide, by decide⟩, by decide +kernel⟩
theorem kz_Q_61 : zC R_Q 61 R_Q y_Q_setState b_Q_setState 3 none 2 := ⟨(z_in 376 (by decide +kernel) (by decide +kernel)), (z_in 275 (by decide +kernel) (by decide +kernel)), (z_in 276 (by decide +kernel) (by decide +kernel)), (z_in 7 (by decide +kernel) (by decide +kernel)), (z_in 277 (by decide +kernel) (by decide +kernel)), ⟨by decide, by decide⟩, by decide +kernel⟩
theorem kz_Q_64 : zC R_Q 64 R_Q y_Q_markBack b_Q_markBack 3 none 2 := ⟨(z_in 377 (by decide +kernel) (by decide +kernel)), (z_in 299 (by decide +kernel) (by decide +kernel)), (z_in 300 (by decide +kernel) (by decide +kernel)), (z_in 7 (by decide +kernel) (by decide +kernel)), (z_in 301 (by decide +kernel) (by decide +kernel)), ⟨by decide, by decide⟩, by decide +kernel⟩
theorem kz_Q_53 : zC R_Q 53 R_Q y_Q_endAtClosing b_Q_endAtClosing 3 none 2 := ⟨(z_in 368 (by decide +kernel) (by decide +kernel)), (z_in 370 (by decide +kernel) (by decide +kernel)), (z_inS 8 (by decide +kernel) (by decide +kernel)), (z_in 7 (by decide +kernel) (by decide +kernel)), (z_in 371 (by decide +kernel) (by decide +kernel)), ⟨by decide, by decide⟩, by decide +kernel⟩
theorem kf_X_39 : Cond.fieldLink R_X 39 (F_X 4).1 (F_X 4).2.1 (F_X 4).2.2.1 ∈ zB := (z_in 125 (by decide +kernel) (by decide +kernel))
theorem kc_X_200 : Cond.constant R_X 200 1000000000 ∈ zB := (z_in 200 (by decide +kernel) (by decide +kernel))
theorem kf_X_21 : Cond.fieldLink R_X 21 (F_X 1).1 (F_X 1).2.1 (F_X 1).2.2.1 ∈ zB := (z_in 122 (by decide +kernel) (by decide +kernel))
theorem kz_X_201 : zC R_X 201 R_R y_R_rightOf b_R_rightOf 2 (some .int) 1 := ⟨(z_in 219 (by decide +kernel) (by decide +kernel)), (z_in 220 (by decide +kernel) (by decide +kernel)), (z_in 221 (by decide +kernel) (by decide +kernel)), (z_in 5 (by decide +kernel) (by decide +kernel)), (z_in 222 (by decide +kernel) (by decide +kernel)), ⟨by decide, by decide⟩, by decide +kernel⟩
theorem kf_X_28 : Cond.fieldLink R_X 28 (F_X 2).1 (F_X 2).2.1 (F_X 2).2.2.1 ∈ zB := (z_in 123 (by decide +kernel) (by decide +kernel))
theorem kz_X_156 : zC R_X 156 R_H y_H_restrictionOf b_H_restrictionOf 2 (some .int) 1 := ⟨(z_in 224 (by decide +kernel) (by decide +kernel)), (z_in 225 (by decide +kernel) (by decide +kernel)), (z_in 226 (by decide +kernel) (by decide +kernel)), (z_in 6 (by decide +kernel) (by decide +kernel)), (z_in 227 (by decide +kernel) (by decide +kernel)), ⟨by decide, by decide⟩, by decide +kernel⟩
theorem kz_X_110 : zC R_X 110 R_H y_H_put b_H_put 4 none 3 := ⟨(z_in 270 (by decide +kernel) (by decide +kernel)), (z_in 271 (by decide +kernel) (by decide +kernel)), (z_in 272 (by decide +kernel) (by decide +kernel)), (z_in 6 (by decide +kernel) (by decide +kernel)), (z_in 273 (by decide +kernel) (by decide +kernel)), ⟨by decide, by decide⟩, by decide +kernel⟩
theorem kf_X_35 : Cond.fieldLink R_X 35 (F_X 3).1 (F_X 3).2.1 (F_X 3).2.2.1 ∈ zB := (z_in 124 (by decide +kernel) (by decide +kernel))
theorem kz_X_204 : zC R_X 204 R_Q y_Q_setState b_Q_setState 3 none 2 := ⟨(z_in 274 (by decide +kernel) (by decide +kernel)), (z_in 275 (by decide +kernel) (by decide +kernel)), (z_in 276 (by decide +kernel) (by decide +kernel)), (z_in 7 (by decide +kernel) (by decide +kernel)), (z_in 277 (by decide +kernel) (by decide +kernel)), ⟨by decide, by decide⟩, by decide +kernel⟩
theorem kz_X_207 : zC R_X 207 R_Q y_Q_isOpenFor b_Q_isOpenFor 3 (some .boolean) 2 := ⟨(z_in 326 (by decide +kernel) (by decide +kernel)), (z_in 255 (by decide +kernel) (by decide +kernel)), (z_in 256 (by decide +kernel) (by decide +kernel)), (z_in 7 (by decide +kernel) (by decide +kernel)), (z_in 257 (by decide +kernel) (by decide +kernel)), ⟨by decide, by decide⟩, by decide +kernel⟩
theorem kz_X_107 : zC R_X 107 R_Q y_Q_personOf b_Q_personOf 2 (some .int) 1 := ⟨(z_in 286 (by decide +kernel) (by decide +kernel)), (z_in 287 (by decide +kernel) (by decide +kernel)), (z_in 288 (by decide +kernel) (by decide +kernel)), (z_in 7 (by decide +kernel) (by decide +kernel)), (z_in 289 (by decide +kernel) (by decide +kernel)), ⟨by decide, by decide⟩, by decide +kernel⟩
theorem kz_X_73 : zC R_X 73 R_X y_X_isRightTooLow b_X_isRightTooLow 3 (some .boolean) 2 := ⟨(z_in 215 (by decide +kernel) (by decide +kernel)), (z_in 217 (by decide +kernel) (by decide +kernel)), (z_inS 4 (by decide +kernel) (by decide +kernel)), (z_in 1 (by decide +kernel) (by decide +kernel)), (z_in 218 (by decide +kernel) (by decide +kernel)), ⟨by decide, by decide⟩, by decide +kernel⟩
theorem kz_X_43 : zCs R_X 43 y_X_isPerson b_X_isPerson 1 (some .boolean) 1 := ⟨(z_in 141 (by decide +kernel) (by decide +kernel)), (z_in 142 (by decide +kernel) (by decide +kernel)), (z_in 1 (by decide +kernel) (by decide +kernel)), (z_in 143 (by decide +kernel) (by decide +kernel)), ⟨by decide, by decide⟩, by decide +kernel⟩
theorem kf_X_12 : Cond.fieldLink R_X 12 (F_X 0).1 (F_X 0).2.1 (F_X 0).2.2.1 ∈ zB := (z_in 121 (by decide +kernel) (by decide +kernel))
theorem kz_X_47 : zC R_X 47 R_S y_S_isPresent b_S_isPresent 2 (some .boolean) 1 := ⟨(z_in 147 (by decide +kernel) (by decide +kernel)), (z_in 148 (by decide +kernel) (by decide +kernel)), (z_in 149 (by decide +kernel) (by decide +kernel)), (z_in 2 (by decide +kernel) (by decide +kernel)), (z_in 150 (by decide +kernel) (by decide +kernel)), ⟨by decide, by decide⟩, by decide +kernel⟩
theorem kz_X_50 : zC R_X 50 R_S y_S_admit b_S_admit 4 (some .int) 1 := ⟨(z_in 168 (by decide +kernel) (by decide +kernel)), (z_in 169 (by decide +kernel) (by decide +kernel)), (z_in 170 (by decide +kernel) (by decide +kernel)), (z_in 2 (by decide +kernel) (by decide +kernel)), (z_in 171 (by decide +kernel) (by decide +kernel)), ⟨by decide, by decide⟩, by decide +kernel⟩
theorem kz_X_54 : zC R_X 54 R_Q y_Q_countHandedOut b_Q_countHandedOut 4 (some .int) 1 := ⟨(z_in 176 (by decide +kernel) (by decide +kernel)), (z_in 177 (by decide +kernel) (by decide +kernel)), (z_in 178 (by decide +kernel) (by decide +kernel)), (z_in 7 (by decide +kernel) (by decide +kernel)), (z_in 179 (by decide +kernel) (by decide +kernel)), ⟨by decide, by decide⟩, by decide +kernel⟩
theorem kz_X_57 : zC R_X 57 R_S y_S_release b_S_release 3 (some .int) 1 := ⟨(z_in 180 (by decide +kernel) (by decide +kernel)), (z_in 181 (by decide +kernel) (by decide +kernel)), (z_in 182 (by decide +kernel) (by decide +kernel)), (z_in 2 (by decide +kernel) (by decide +kernel)), (z_in 183 (by decide +kernel) (by decide +kernel)), ⟨by decide, by decide⟩, by decide +kernel⟩
theorem kz_X_60 : zCs R_X 60 y_X_isUnit b_X_isUnit 1 (some .boolean) 1 := ⟨(z_in 193 (by decide +kernel) (by decide +kernel)), (z_in 194 (by decide +kernel) (by decide +kernel)), (z_in 1 (by decide +kernel) (by decide +kernel)), (z_in 195 (by decide +kernel) (by decide +kernel)), ⟨by decide, by decide⟩, by decide +kernel⟩
theorem kz_X_63 : zC R_X 63 R_X y_X_isTime b_X_isTime 2 (some .boolean) 1 := ⟨(z_in 196 (by decide +kernel) (by decide +kernel)), (z_in 198 (by decide +kernel) (by decide +kernel)), (z_inS 2 (by decide +kernel) (by decide +kernel)), (z_in 1 (by decide +kernel) (by decide +kernel)), (z_in 199 (by decide +kernel) (by decide +kernel)), ⟨by decide, by decide⟩, by decide +kernel⟩
theorem kz_X_66 : zC R_X 66 R_S y_S_isSeated b_S_isSeated 2 (some .boolean) 1 := ⟨(z_in 201 (by decide +kernel) (by decide +kernel)), (z_in 152 (by decide +kernel) (by decide +kernel)), (z_in 153 (by decide +kernel) (by decide +kernel)), (z_in 2 (by decide +kernel) (by decide +kernel)), (z_in 154 (by decide +kernel) (by decide +kernel)), ⟨by decide, by decide⟩, by decide +kernel⟩
theorem kz_X_69 : zC R_X 69 R_Q y_Q_isRunning b_Q_isRunning 4 (some .boolean) 2 := ⟨(z_in 202 (by decide +kernel) (by decide +kernel)), (z_in 203 (by decide +kernel) (by decide +kernel)), (z_in 204 (by decide +kernel) (by decide +kernel)), (z_in 7 (by decide +kernel) (by decide +kernel)), (z_in 205 (by decide +kernel) (by decide +kernel)), ⟨by decide, by decide⟩, by decide +kernel⟩
theorem kz_X_76 : zC R_X 76 R_Q y_Q_countRunning b_Q_countRunning 4 (some .int) 1 := ⟨(z_in 229 (by decide +kernel) (by decide +kernel)), (z_in 230 (by decide +kernel) (by decide +kernel)), (z_in 231 (by decide +kernel) (by decide +kernel)), (z_in 7 (by decide +kernel) (by decide +kernel)), (z_in 232 (by decide +kernel) (by decide +kernel)), ⟨by decide, by decide⟩, by decide +kernel⟩
theorem kz_X_79 : zC R_X 79 R_R y_R_requestLimitOf b_R_requestLimitOf 2 (some .int) 1 := ⟨(z_in 233 (by decide +kernel) (by decide +kernel)), (z_in 234 (by decide +kernel) (by decide +kernel)), (z_in 235 (by decide +kernel) (by decide +kernel)), (z_in 5 (by decide +kernel) (by decide +kernel)), (z_in 236 (by decide +kernel) (by decide +kernel)), ⟨by decide, by decide⟩, by decide +kernel⟩
theorem kz_X_82 : zC R_X 82 R_Q y_Q_isFull b_Q_isFull 1 (some .boolean) 0 := ⟨(z_in 237 (by decide +kernel) (by decide +kernel)), (z_in 238 (by decide +kernel) (by decide +kernel)), (z_in 239 (by decide +kernel) (by decide +kernel)), (z_in 7 (by decide +kernel) (by decide +kernel)), (z_in 240 (by decide +kernel) (by decide +kernel)), ⟨by decide, by decide⟩, by decide +kernel⟩
theorem kz_X_86 : zC R_X 86 R_Q y_Q_add b_Q_add 5 (some .int) 3 := ⟨(z_in 241 (by decide +kernel) (by decide +kernel)), (z_in 242 (by decide +kernel) (by decide +kernel)), (z_in 243 (by decide +kernel) (by decide +kernel)), (z_in 7 (by decide +kernel) (by decide +kernel)), (z_in 244 (by decide +kernel) (by decide +kernel)), ⟨by decide, by decide⟩, by decide +kernel⟩
theorem kz_X_90 : zC R_X 90 R_Q y_Q_openOf b_Q_openOf 5 (some .int) 2 := ⟨(z_in 250 (by decide +kernel) (by decide +kernel)), (z_in 251 (by decide +kernel) (by decide +kernel)), (z_in 252 (by decide +kernel) (by decide +kernel)), (z_in 7 (by decide +kernel) (by decide +kernel)), (z_in 253 (by decide +kernel) (by decide +kernel)), ⟨by decide, by decide⟩, by decide +kernel⟩
theorem kz_X_94 : zC R_X 94 R_H y_H_placeOf b_H_placeOf 2 (some .int) 1 := ⟨(z_in 258 (by decide +kernel) (by decide +kernel)), (z_in 259 (by decide +kernel) (by decide +kernel)), (z_in 260 (by decide +kernel) (by decide +kernel)), (z_in 6 (by decide +kernel) (by decide +kernel)), (z_in 261 (by decide +kernel) (by decide +kernel)), ⟨by decide, by decide⟩, by decide +kernel⟩
theorem kz_X_97 : zC R_X 97 R_H y_H_conditionOf b_H_conditionOf 2 (some .int) 1 := ⟨(z_in 262 (by decide +kernel) (by decide +kernel)), (z_in 263 (by decide +kernel) (by decide +kernel)), (z_in 264 (by decide +kernel) (by decide +kernel)), (z_in 6 (by decide +kernel) (by decide +kernel)), (z_in 265 (by decide +kernel) (by decide +kernel)), ⟨by decide, by decide⟩, by decide +kernel⟩
theorem kz_X_100 : zC R_X 100 R_X y_X_sendFor b_X_sendFor 3 none 2 := ⟨(z_in 266 (by decide +kernel) (by decide +kernel)), (z_in 268 (by decide +kernel) (by decide +kernel)), (z_inS 5 (by decide +kernel) (by decide +kernel)), (z_in 1 (by decide +kernel) (by decide +kernel)), (z_in 269 (by decide +kernel) (by decide +kernel)), ⟨by decide, by decide⟩, by decide +kernel⟩
theorem kz_X_104 : zC R_X 104 R_H y_H_requestOf b_H_requestOf 2 (some .int) 1 := ⟨(z_in 282 (by decide +kernel) (by decide +kernel)), (z_in 283 (by decide +kernel) (by decide +kernel)), (z_in 284 (by decide +kernel) (by decide +kernel)), (z_in 6 (by decide +kernel) (by decide +kernel)), (z_in 285 (by decide +kernel) (by decide +kernel)), ⟨by decide, by decide⟩, by decide +kernel⟩
theorem kz_X_114 : zC R_X 114 R_Q y_Q_markHandedOut b_Q_markHandedOut 3 none 2 := ⟨(z_in 290 (by decide +kernel) (by decide +kernel)), (z_in 291 (by decide +kernel) (by decide +kernel)), (z_in 292 (by decide +kernel) (by decide +kernel)), (z_in 7 (by decide +kernel) (by decide +kernel)), (z_in 293 (by decide +kernel) (by decide +kernel)), ⟨by decide, by decide⟩, by decide +kernel⟩
theorem kz_X_117 : zC R_X 117 R_Q y_Q_markBack b_Q_markBack 3 none 2 := ⟨(z_in 298 (by decide +kernel) (by decide +kernel)), (z_in 299 (by decide +kernel) (by decide +kernel)), (z_in 300 (by decide +kernel) (by decide +kernel)), (z_in 7 (by decide +kernel) (by decide +kernel)), (z_in 301 (by decide +kernel) (by decide +kernel)), ⟨by decide, by decide⟩, by decide +kernel⟩
theorem kz_X_124 : zC R_X 124 R_H y_H_setCondition b_H_setCondition 3 none 2 := ⟨(z_in 306 (by decide +kernel) (by decide +kernel)), (z_in 307 (by decide +kernel) (by decide +kernel)), (z_in 308 (by decide +kernel) (by decide +kernel)), (z_in 6 (by decide +kernel) (by decide +kernel)), (z_in 309 (by decide +kernel) (by decide +kernel)), ⟨by decide, by decide⟩, by decide +kernel⟩
theorem kz_X_127 : zC R_X 127 R_H y_H_setRestriction b_H_setRestriction 3 none 2 := ⟨(z_in 318 (by decide +kernel) (by decide +kernel)), (z_in 319 (by decide +kernel) (by decide +kernel)), (z_in 320 (by decide +kernel) (by decide +kernel)), (z_in 6 (by decide +kernel) (by decide +kernel)), (z_in 321 (by decide +kernel) (by decide +kernel)), ⟨by decide, by decide⟩, by decide +kernel⟩
theorem kz_X_130 : zC R_X 130 R_X y_X_withdrawFromLowRights b_X_withdrawFromLowRights 4 (some .int) 1 := ⟨(z_in 322 (by decide +kernel) (by decide +kernel)), (z_in 324 (by decide +kernel) (by decide +kernel)), (z_inS 6 (by decide +kernel) (by decide +kernel)), (z_in 1 (by decide +kernel) (by decide +kernel)), (z_in 325 (by decide +kernel) (by decide +kernel)), ⟨by decide, by decide⟩, by decide +kernel⟩
theorem kz_X_133 : zC R_X 133 R_R y_R_setRight b_R_setRight 3 none 2 := ⟨(z_in 331 (by decide +kernel) (by decide +kernel)), (z_in 332 (by decide +kernel) (by decide +kernel)), (z_in 333 (by decide +kernel) (by decide +kernel)), (z_in 5 (by decide +kernel) (by decide +kernel)), (z_in 334 (by decide +kernel) (by decide +kernel)), ⟨by decide, by decide⟩, by decide +kernel⟩
theorem kz_X_136 : zC R_X 136 R_R y_R_setLimits b_R_setLimits 4 none 3 := ⟨(z_in 339 (by decide +kernel) (by decide +kernel)), (z_in 340 (by decide +kernel) (by decide +kernel)), (z_in 341 (by decide +kernel) (by decide +kernel)), (z_in 5 (by decide +kernel) (by decide +kernel)), (z_in 342 (by decide +kernel) (by decide +kernel)), ⟨by decide, by decide⟩, by decide +kernel⟩
theorem kc_X_139 : Cond.constant R_X 139 86400 ∈ zB := (z_in 347 (by decide +kernel) (by decide +kernel))
theorem kz_X_140 : zC R_X 140 R_R y_R_pagesLeft b_R_pagesLeft 3 (some .int) 2 := ⟨(z_in 348 (by decide +kernel) (by decide +kernel)), (z_in 349 (by decide +kernel) (by decide +kernel)), (z_in 350 (by decide +kernel) (by decide +kernel)), (z_in 5 (by decide +kernel) (by decide +kernel)), (z_in 351 (by decide +kernel) (by decide +kernel)), ⟨by decide, by decide⟩, by decide +kernel⟩
theorem kz_X_143 : zC R_X 143 R_R y_R_addCopied b_R_addCopied 4 none 3 := ⟨(z_in 356 (by decide +kernel) (by decide +kernel)), (z_in 357 (by decide +kernel) (by decide +kernel)), (z_in 358 (by decide +kernel) (by decide +kernel)), (z_in 5 (by decide +kernel) (by decide +kernel)), (z_in 359 (by decide +kernel) (by decide +kernel)), ⟨by decide, by decide⟩, by decide +kernel⟩
theorem kz_X_146 : zC R_X 146 R_Q y_Q_endAll b_Q_endAll 3 none 1 := ⟨(z_in 364 (by decide +kernel) (by decide +kernel)), (z_in 365 (by decide +kernel) (by decide +kernel)), (z_in 366 (by decide +kernel) (by decide +kernel)), (z_in 7 (by decide +kernel) (by decide +kernel)), (z_in 367 (by decide +kernel) (by decide +kernel)), ⟨by decide, by decide⟩, by decide +kernel⟩
theorem kz_X_149 : zC R_X 149 R_S y_S_clear b_S_clear 1 none 0 := ⟨(z_in 378 (by decide +kernel) (by decide +kernel)), (z_in 379 (by decide +kernel) (by decide +kernel)), (z_in 380 (by decide +kernel) (by decide +kernel)), (z_in 2 (by decide +kernel) (by decide +kernel)), (z_in 381 (by decide +kernel) (by decide +kernel)), ⟨by decide, by decide⟩, by decide +kernel⟩
theorem kz_X_152 : zC R_X 152 R_H y_H_storeAll b_H_storeAll 3 (some .int) 0 := ⟨(z_in 382 (by decide +kernel) (by decide +kernel)), (z_in 383 (by decide +kernel) (by decide +kernel)), (z_in 384 (by decide +kernel) (by decide +kernel)), (z_in 6 (by decide +kernel) (by decide +kernel)), (z_in 385 (by decide +kernel) (by decide +kernel)), ⟨by decide, by decide⟩, by decide +kernel⟩
theorem kz_X_159 : zC R_X 159 R_Q y_Q_countOpen b_Q_countOpen 4 (some .int) 1 := ⟨(z_in 391 (by decide +kernel) (by decide +kernel)), (z_in 392 (by decide +kernel) (by decide +kernel)), (z_in 393 (by decide +kernel) (by decide +kernel)), (z_in 7 (by decide +kernel) (by decide +kernel)), (z_in 394 (by decide +kernel) (by decide +kernel)), ⟨by decide, by decide⟩, by decide +kernel⟩
theorem kz_X_162 : zC R_X 162 R_S y_S_seatOf b_S_seatOf 2 (some .int) 1 := ⟨(z_in 399 (by decide +kernel) (by decide +kernel)), (z_in 156 (by decide +kernel) (by decide +kernel)), (z_in 157 (by decide +kernel) (by decide +kernel)), (z_in 2 (by decide +kernel) (by decide +kernel)), (z_in 158 (by decide +kernel) (by decide +kernel)), ⟨by decide, by decide⟩, by decide +kernel⟩
theorem kz_X_165 : zC R_X 165 R_S y_S_placeInRow b_S_placeInRow 3 (some .int) 1 := ⟨(z_in 400 (by decide +kernel) (by decide +kernel)), (z_in 165 (by decide +kernel) (by decide +kernel)), (z_in 166 (by decide +kernel) (by decide +kernel)), (z_in 2 (by decide +kernel) (by decide +kernel)), (z_in 167 (by decide +kernel) (by decide +kernel)), ⟨by decide, by decide⟩, by decide +kernel⟩
theorem kz_X_168 : zC R_X 168 R_R y_R_copiedLatelyBy b_R_copiedLatelyBy 2 (some .int) 1 := ⟨(z_in 401 (by decide +kernel) (by decide +kernel)), (z_in 402 (by decide +kernel) (by decide +kernel)), (z_in 403 (by decide +kernel) (by decide +kernel)), (z_in 5 (by decide +kernel) (by decide +kernel)), (z_in 404 (by decide +kernel) (by decide +kernel)), ⟨by decide, by decide⟩, by decide +kernel⟩
theorem kz_M_68 : zCs R_M 68 y_M_in b_M_in 3 (some .boolean) 3 := ⟨(z_in 593 (by decide +kernel) (by decide +kernel)), (z_in 594 (by decide +kernel) (by decide +kernel)), (z_in 8 (by decide +kernel) (by decide +kernel)), (z_in 595 (by decide +kernel) (by decide +kernel)), ⟨by decide, by decide⟩, by decide +kernel⟩
theorem kf_M_65 : Cond.fieldLink R_M 65 (F_M 0).1 (F_M 0).2.1 (F_M 0).2.2.1 ∈ zB := (z_in 515 (by decide +kernel) (by decide +kernel))
theorem kf_M_72 : Cond.fieldLink R_M 72 (F_M 1).1 (F_M 1).2.1 (F_M 1).2.2.1 ∈ zB := (z_in 516 (by decide +kernel) (by decide +kernel))
theorem kc_M_75 : Cond.constant R_M 75 1000000000 ∈ zB := (z_in 635 (by decide +kernel) (by decide +kernel))
theorem kf_M_61 : Cond.fieldLink R_M 61 (F_M 2).1 (F_M 2).2.1 (F_M 2).2.2.1 ∈ zB := (z_in 517 (by decide +kernel) (by decide +kernel))
theorem kf_M_7 : Cond.fieldLink R_M 7 (F_M 3).1 (F_M 3).2.1 (F_M 3).2.2.1 ∈ zB := (z_in 518 (by decide +kernel) (by decide +kernel))
theorem kf_M_76 : Cond.fieldLink R_M 76 (F_M 4).1 (F_M 4).2.1 (F_M 4).2.2.1 ∈ zB := (z_in 519 (by decide +kernel) (by decide +kernel))
theorem kf_M_13 : Cond.fieldLink R_M 13 (F_M 5).1 (F_M 5).2.1 (F_M 5).2.2.1 ∈ zB := (z_in 520 (by decide +kernel) (by decide +kernel))
theorem kf_M_31 : Cond.fieldLink R_M 31 (F_M 11).1 (F_M 11).2.1 (F_M 11).2.2.1 ∈ zB := (z_in 526 (by decide +kernel) (by decide +kernel))
theorem kf_M_43 : Cond.fieldLink R_M 43 (F_M 16).1 (F_M 16).2.1 (F_M 16).2.2.1 ∈ zB := (z_in 531 (by decide +kernel) (by decide +kernel))
theorem kf_M_40 : Cond.fieldLink R_M 40 (F_M 14).1 (F_M 14).2.1 (F_M 14).2.2.1 ∈ zB := (z_in 529 (by decide +kernel) (by decide +kernel))
theorem kz_M_79 : zCs R_M 79 y_M_isPerson b_M_isPerson 1 (some .boolean) 1 := ⟨(z_in 590 (by decide +kernel) (by decide +kernel)), (z_in 591 (by decide +kernel) (by decide +kernel)), (z_in 8 (by decide +kernel) (by decide +kernel)), (z_in 592 (by decide +kernel) (by decide +kernel)), ⟨by decide, by decide⟩, by decide +kernel⟩
theorem kz_M_83 : zC R_M 83 R_M y_M_seatOf b_M_seatOf 3 (some .int) 1 := ⟨(z_in 596 (by decide +kernel) (by decide +kernel)), (z_in 598 (by decide +kernel) (by decide +kernel)), (z_inS 10 (by decide +kernel) (by decide +kernel)), (z_in 8 (by decide +kernel) (by decide +kernel)), (z_in 599 (by decide +kernel) (by decide +kernel)), ⟨by decide, by decide⟩, by decide +kernel⟩
theorem kz_M_87 : zC R_M 87 R_M y_M_waitOf b_M_waitOf 3 (some .int) 1 := ⟨(z_in 600 (by decide +kernel) (by decide +kernel)), (z_in 602 (by decide +kernel) (by decide +kernel)), (z_inS 11 (by decide +kernel) (by decide +kernel)), (z_in 8 (by decide +kernel) (by decide +kernel)), (z_in 603 (by decide +kernel) (by decide +kernel)), ⟨by decide, by decide⟩, by decide +kernel⟩
theorem kz_M_90 : zC R_M 90 R_M y_M_has b_M_has 4 (some .int) 1 := ⟨(z_in 608 (by decide +kernel) (by decide +kernel)), (z_in 610 (by decide +kernel) (by decide +kernel)), (z_inS 12 (by decide +kernel) (by decide +kernel)), (z_in 8 (by decide +kernel) (by decide +kernel)), (z_in 611 (by decide +kernel) (by decide +kernel)), ⟨by decide, by decide⟩, by decide +kernel⟩
theorem kz_M_93 : zC R_M 93 R_M y_M_leaveRow b_M_leaveRow 3 none 1 := ⟨(z_in 612 (by decide +kernel) (by decide +kernel)), (z_in 614 (by decide +kernel) (by decide +kernel)), (z_inS 13 (by decide +kernel) (by decide +kernel)), (z_in 8 (by decide +kernel) (by decide +kernel)), (z_in 615 (by decide +kernel) (by decide +kernel)), ⟨by decide, by decide⟩, by decide +kernel⟩
theorem kf_M_16 : Cond.fieldLink R_M 16 (F_M 6).1 (F_M 6).2.1 (F_M 6).2.2.1 ∈ zB := (z_in 521 (by decide +kernel) (by decide +kernel))
theorem kf_M_19 : Cond.fieldLink R_M 19 (F_M 7).1 (F_M 7).2.1 (F_M 7).2.2.1 ∈ zB := (z_in 522 (by decide +kernel) (by decide +kernel))
theorem kf_M_22 : Cond.fieldLink R_M 22 (F_M 8).1 (F_M 8).2.1 (F_M 8).2.2.1 ∈ zB := (z_in 523 (by decide +kernel) (by decide +kernel))
theorem kf_M_49 : Cond.fieldLink R_M 49 (F_M 18).1 (F_M 18).2.1 (F_M 18).2.2.1 ∈ zB := (z_in 533 (by decide +kernel) (by decide +kernel))
theorem kf_M_97 : Cond.fieldLink R_M 97 (F_M 15).1 (F_M 15).2.1 (F_M 15).2.2.1 ∈ zB := (z_in 530 (by decide +kernel) (by decide +kernel))
theorem kz_M_100 : zC R_M 100 R_M y_M_lives b_M_lives 2 (some .boolean) 1 := ⟨(z_in 636 (by decide +kernel) (by decide +kernel)), (z_in 638 (by decide +kernel) (by decide +kernel)), (z_inS 15 (by decide +kernel) (by decide +kernel)), (z_in 8 (by decide +kernel) (by decide +kernel)), (z_in 639 (by decide +kernel) (by decide +kernel)), ⟨by decide, by decide⟩, by decide +kernel⟩
theorem kf_M_46 : Cond.fieldLink R_M 46 (F_M 17).1 (F_M 17).2.1 (F_M 17).2.2.1 ∈ zB := (z_in 532 (by decide +kernel) (by decide +kernel))
theorem kf_M_37 : Cond.fieldLink R_M 37 (F_M 13).1 (F_M 13).2.1 (F_M 13).2.2.1 ∈ zB := (z_in 528 (by decide +kernel) (by decide +kernel))
theorem kz_M_109 : zC R_M 109 R_M y_M_living b_M_living 4 (some .int) 1 := ⟨(z_in 640 (by decide +kernel) (by decide +kernel)), (z_in 642 (by decide +kernel) (by decide +kernel)), (z_inS 16 (by decide +kernel) (by decide +kernel)), (z_in 8 (by decide +kernel) (by decide +kernel)), (z_in 643 (by decide +kernel) (by decide +kernel)), ⟨by decide, by decide⟩, by decide +kernel⟩
theorem kf_M_52 : Cond.fieldLink R_M 52 (F_M 19).1 (F_M 19).2.1 (F_M 19).2.2.1 ∈ zB := (z_in 534 (by decide +kernel) (by decide +kernel))
theorem kf_M_55 : Cond.fieldLink R_M 55 (F_M 20).1 (F_M 20).2.1 (F_M 20).2.2.1 ∈ zB := (z_in 535 (by decide +kernel) (by decide +kernel))
theorem kf_M_58 : Cond.fieldLink R_M 58 (F_M 21).1 (F_M 21).2.1 (F_M 21).2.2.1 ∈ zB := (z_in 536 (by decide +kernel) (by decide +kernel))
theorem kz_M_103 : zCs R_M 103 y_M_isUnit b_M_isUnit 1 (some .boolean) 1 := ⟨(z_in 628 (by decide +kernel) (by decide +kernel)), (z_in 629 (by decide +kernel) (by decide +kernel)), (z_in 8 (by decide +kernel) (by decide +kernel)), (z_in 630 (by decide +kernel) (by decide +kernel)), ⟨by decide, by decide⟩, by decide +kernel⟩
theorem kz_M_106 : zC R_M 106 R_M y_M_isNow b_M_isNow 2 (some .boolean) 1 := ⟨(z_in 631 (by decide +kernel) (by decide +kernel)), (z_in 633 (by decide +kernel) (by decide +kernel)), (z_inS 14 (by decide +kernel) (by decide +kernel)), (z_in 8 (by decide +kernel) (by decide +kernel)), (z_in 634 (by decide +kernel) (by decide +kernel)), ⟨by decide, by decide⟩, by decide +kernel⟩
theorem kz_M_112 : zC R_M 112 R_M y_M_ahead b_M_ahead 3 (some .int) 1 := ⟨(z_in 648 (by decide +kernel) (by decide +kernel)), (z_in 650 (by decide +kernel) (by decide +kernel)), (z_inS 17 (by decide +kernel) (by decide +kernel)), (z_in 8 (by decide +kernel) (by decide +kernel)), (z_in 651 (by decide +kernel) (by decide +kernel)), ⟨by decide, by decide⟩, by decide +kernel⟩
theorem kf_M_34 : Cond.fieldLink R_M 34 (F_M 12).1 (F_M 12).2.1 (F_M 12).2.2.1 ∈ zB := (z_in 527 (by decide +kernel) (by decide +kernel))
theorem kz_M_115 : zC R_M 115 R_M y_M_fetchFor b_M_fetchFor 3 (some .int) 2 := ⟨(z_in 652 (by decide +kernel) (by decide +kernel)), (z_in 654 (by decide +kernel) (by decide +kernel)), (z_inS 18 (by decide +kernel) (by decide +kernel)), (z_in 8 (by decide +kernel) (by decide +kernel)), (z_in 655 (by decide +kernel) (by decide +kernel)), ⟨by decide, by decide⟩, by decide +kernel⟩
theorem kf_M_28 : Cond.fieldLink R_M 28 (F_M 10).1 (F_M 10).2.1 (F_M 10).2.2.1 ∈ zB := (z_in 525 (by decide +kernel) (by decide +kernel))
theorem kc_M_119 : Cond.constant R_M 119 86400 ∈ zB := (z_in 680 (by decide +kernel) (by decide +kernel))
theorem kf_M_25 : Cond.fieldLink R_M 25 (F_M 9).1 (F_M 9).2.1 (F_M 9).2.2.1 ∈ zB := (z_in 524 (by decide +kernel) (by decide +kernel))
end
section
def wS (a : Nat → Nat) (cI : ClassId) (k : Int32) (n : Int32) (Z : Nat → Nat → Int32) : va_W := [(a 0, .inr (3, [.int k, .ref (a 1), .ref (a 2), .int n])), (a 1, .inl (cI, 20, .inl (Z 0))), (a 2, .inl (cI, 60, .inl (Z 1)))]
def wR (a : Nat → Nat) (cI : ClassId) (P : Nat → Nat → Int32) : va_W := [(a 0, .inr (1, [.ref (a 1), .ref (a 2), .ref (a 3), .ref (a 4), .ref (a 5)])), (a 1, .inl (cI, 60, .inl (P 0))), (a 2, .inl (cI, 60, .inl (P 1))), (a 3, .inl (cI, 60, .inl (P 2))), (a 4, .inl (cI, 60, .inl (P 3))), (a 5, .inl (cI, 60, .inl (P 4)))]
def wH (a : Nat → Nat) (cI : ClassId) (U : Nat → Nat → Int32) : va_W := [(a 0, .inr (0, [.ref (a 1), .ref (a 2), .ref (a 3), .ref (a 4)])), (a 1, .inl (cI, 80, .inl (U 0))), (a 2, .inl (cI, 80, .inl (U 1))), (a 3, .inl (cI, 80, .inl (U 2))), (a 4, .inl (cI, 80, .inl (U 3)))]
def wQ (a : Nat → Nat) (cI : ClassId) (c : Int32) (V : Nat → Nat → Int32) : va_W := [(a 0, .inr (2, [.ref (a 1), .ref (a 2), .ref (a 3), .ref (a 4), .ref (a 5), .ref (a 6), .int c])), (a 1, .inl (cI, 300, .inl (V 0))), (a 2, .inl (cI, 300, .inl (V 1))), (a 3, .inl (cI, 300, .inl (V 2))), (a 4, .inl (cI, 300, .inl (V 3))), (a 5, .inl (cI, 300, .inl (V 4))), (a 6, .inl (cI, 300, .inl (V 5)))]
def wX (a : Nat → Nat) (cI : ClassId) (nw : Int32) (k : Int32) (n : Int32) (c : Int32) (Z : Nat → Nat → Int32) (P : Nat → Nat → Int32) (U : Nat → Nat → Int32) (V : Nat → Nat → Int32) : va_W := [(a 0, .inr (4, [.ref (a 1), .ref (a 4), .ref (a 10), .ref (a 15), .int nw])), (a 1, .inr (3, [.int k, .ref (a 2), .ref (a 3), .int n])), (a 2, .inl (cI, 20, .inl (Z 0))), (a 3, .inl (cI, 60, .inl (Z 1))), (a 4, .inr (1, [.ref (a 5), .ref (a 6), .ref (a 7), .ref (a 8), .ref (a 9)])), (a 5, .inl (cI, 60, .inl (P 0))), (a 6, .inl (cI, 60, .inl (P 1))), (a 7, .inl (cI, 60, .inl (P 2))), (a 8, .inl (cI, 60, .inl (P 3))), (a 9, .inl (cI, 60, .inl (P 4))), (a 10, .inr (0, [.ref (a 11), .ref (a 12), .ref (a 13), .ref (a 14)])), (a 11, .inl (cI, 80, .inl (U 0))), (a 12, .inl (cI, 80, .inl (U 1))), (a 13, .inl (cI, 80, .inl (U 2))), (a 14, .inl (cI, 80, .inl (U 3))), (a 15, .inr (2, [.ref (a 16), .ref (a 17), .ref (a 18), .ref (a 19), .ref (a 20), .ref (a 21), .int c])), (a 16, .inl (cI, 300, .inl (V 0))), (a 17, .inl (cI, 300, .inl (V 1))), (a 18, .inl (cI, 300, .inl (V 2))), (a 19, .inl (cI, 300, .inl (V 3))), (a 20, .inl (cI, 300, .inl (V 4))), (a 21, .inl (cI, 300, .inl (V 5)))]
def wM (a : Nat → Nat) (cI : ClassId) (th : Int32) (nw : Int32) (k : Int32) (n : Int32) (c : Int32) (Z : Nat → Nat → Int32) (P : Nat → Nat → Int32) (U : Nat → Nat → Int32) (V : Nat → Nat → Int32) : va_W := [(a 0, .inr (5, [.int th, .int nw, .int k, .ref (a 1), .int n, .ref (a 2), .ref (a 3), .ref (a 4), .ref (a 5), .ref (a 6), .ref (a 7), .ref (a 8), .ref (a 9), .ref (a 10), .ref (a 11), .int c, .ref (a 12), .ref (a 13), .ref (a 14), .ref (a 15), .ref (a 16), .ref (a 17)])), (a 1, .inl (cI, 20, .inl (Z 0))), (a 2, .inl (cI, 60, .inl (Z 1))), (a 3, .inl (cI, 60, .inl (P 0))), (a 4, .inl (cI, 60, .inl (P 1))), (a 5, .inl (cI, 60, .inl (P 2))), (a 6, .inl (cI, 60, .inl (P 4))), (a 7, .inl (cI, 60, .inl (P 3))), (a 8, .inl (cI, 80, .inl (U 0))), (a 9, .inl (cI, 80, .inl (U 1))), (a 10, .inl (cI, 80, .inl (U 2))), (a 11, .inl (cI, 80, .inl (U 3))), (a 12, .inl (cI, 300, .inl (V 0))), (a 13, .inl (cI, 300, .inl (V 1))), (a 14, .inl (cI, 300, .inl (V 2))), (a 15, .inl (cI, 300, .inl (V 3))), (a 16, .inl (cI, 300, .inl (V 4))), (a 17, .inl (cI, 300, .inl (V 5)))]
set_option maxHeartbeats 4000000 in
set_option maxRecDepth 100000 in
/-- Arrays.fill(int[], int) -/
theorem c_fill (l : Launch) (D : va_G) (cI : ClassId) (h n : Nat) (f : Nat → Int32) (v : Int32) (hn : n < 2 ^ 31) : zW l D [(cI, .int)] y_JA_fill b_JA_fill 4 none 0 0 [.ref h, .int v] [(h, .inl (cI, n, .inl f))] [(h, .inl (cI, n, .inl (fillF f n v)))] none := by
  refine zW.of (by decide) (Nat.le_of_ble_eq_true rfl) ?_
  intro p e s m below meth c0 ls A E hrt hlk hN hK hA G hl
  have hx := E.1
  have hb := E.2.1
  have hl : lv_has ls 4 [(0, .ref h), (1, .int v)] := hl
  have lp : ∀ (d i : Nat), i + d = n → ∀ (H : Heap) (locs : List Loc), zG D A s H locs [(h, .inl (cI, n, .inl (fillF f i v)))] → ∀ ls : Array Slot, lv_has ls 4 [(2, .int (nI i)), (3, .int (nI n)), (0, .ref h), (1, .int v)] → W p l e { frames := 0, cells := 0, slots := 0, locals := 0 } s m ([.ref h, .int v] : List Value).toArray below meth c0 H locs 0 0 (MQ below (zQ D A [(h, .inl (cI, n, .inl (fillF f n v)))] none) ([.ref h, .int v] : List Value).toArray s 0 0 A) (F0 m 5 ls []) := by
    intro d
    induction d with
    | zero =>
      intro i hi H locs G ls hl
      refine lv_iload_n hx hb d_JA_fill_5 rfl (lv_at hl 0 rfl) ?_
      refine lv_iload_n hx hb d_JA_fill_6 rfl (lv_at hl 1 rfl) ?_
      refine lv_icmp_ge (tgt := 20) hx hb d_JA_fill_7 (by decide) (fun c_1 => ?_) (fun c_1 => absurd (nI_le (by omega) (by omega)) c_1)
      have hi : i = n := by omega
      subst hi
      exact zW.vret E hrt hlk G rfl rfl d_JA_fill_20
    | succ d ih =>
      intro i hi H locs G ls hl
      refine lv_iload_n hx hb d_JA_fill_5 rfl (lv_at hl 0 rfl) ?_
      refine lv_iload_n hx hb d_JA_fill_6 rfl (lv_at hl 1 rfl) ?_
      refine lv_icmp_ge (tgt := 20) hx hb d_JA_fill_7 (by decide) (fun c_1 => absurd c_1 (nI_ge (by omega) (by omega))) (fun c_1 => ?_)
      refine lv_aload_n hx hb d_JA_fill_10 rfl (lv_at hl 2 rfl) ?_
      refine lv_iload_n hx hb d_JA_fill_11 rfl (lv_at hl 0 rfl) ?_
      refine lv_iload_n hx hb d_JA_fill_12 rfl (lv_at hl 3 rfl) ?_
      refine z_astN (f := fillF f i v) (j := i) (ws' := [(h, .inl (cI, n, .inl (fillF f (i + 1) v)))]) E hK G 0 0 rfl rfl rfl (by omega) hn (by rw [← fillF_s]; rfl) d_JA_fill_13 (fun H locs G => ?_)
      refine lv_iinc (v := nI (i + 1)) (lv' := [(2, .int (nI (i + 1))), (3, .int (nI n)), (0, .ref h), (1, .int v)]) hx hb d_JA_fill_14 hl (k := 0) rfl (nI_1 _) (by decide) rfl (fun ls hl => ?_)
      refine lv_goto (tgt := 5) hx hb d_JA_fill_17 (by decide) ?_
      exact ih (i + 1) (by omega) H locs G ls hl
  refine lv_iconst (v := nI 0) hx hb d_JA_fill_0 (by decide) ?_
  refine lv_istore_n (lv' := [(2, .int (nI 0)), (0, .ref h), (1, .int v)]) hx hb d_JA_fill_1 rfl hl (by decide) rfl (fun ls hl => ?_)
  refine lv_aload_n hx hb d_JA_fill_2 rfl (lv_at hl 1 rfl) ?_
  refine va_alen (v := nI n) hx hb hK G.1 0 0 rfl rfl rfl d_JA_fill_3 ?_
  refine lv_istore_n (lv' := [(3, .int (nI n)), (2, .int (nI 0)), (0, .ref h), (1, .int v)]) hx hb d_JA_fill_4 rfl hl (by decide) rfl (fun ls hl => ?_)
  exact lp n 0 (by omega) _ _ (by rw [fillF_0]; exact G) ls (lv_sub hl [1, 0, 2, 3] rfl)
def f_isWithin  (number : Int32) (least : Int32) (most : Int32) : Int32 := (if number < least then 0 else (if most < number then 0 else 1))
set_option maxHeartbeats 4000000 in
set_option maxRecDepth 100000 in
theorem c_isWithin (l : Launch) (D : va_G) (tys : List (ClassId × FieldType))  (number : Int32) (least : Int32) (most : Int32)  : zR l D tys y_X_isWithin b_X_isWithin 3 (some .boolean) 0 0 [.int number, .int least, .int most] ([]) (f_isWithin number least most) := by
  refine zR.of (by decide) (Nat.le_of_ble_eq_true rfl) ?_
  intro p e s m below meth c0 ls E hrt hlk hN hK hP hl
  have hx := E.1
  have hb := E.2.1
  have hl : lv_has ls 3 [(0, .int number), (1, .int least), (2, .int most)] := hl
  refine lv_iload_n hx hb d_X_isWithin_0 rfl (lv_at hl 0 rfl) ?_
  refine lv_iload_n hx hb d_X_isWithin_1 rfl (lv_at hl 1 rfl) ?_
  refine lv_icmp_lt (tgt := 14) hx hb d_X_isWithin_2 (by decide) (fun c_1 => ?_) (fun c_1 => ?_)
  · refine lv_iconst (v := 0) hx hb d_X_isWithin_14 (by decide) ?_
    exact zR.zret E hrt hlk rfl (by unfold f_isWithin; rw [if_pos c_1]) d_X_isWithin_15
  · refine lv_iload_n hx hb d_X_isWithin_5 rfl (lv_at hl 0 rfl) ?_
    refine lv_iload_n hx hb d_X_isWithin_6 rfl (lv_at hl 2 rfl) ?_
    refine lv_icmp_gt (tgt := 14) hx hb d_X_isWithin_7 (by decide) (fun c_2 => ?_) (fun c_2 => ?_)
    · refine lv_iconst (v := 0) hx hb d_X_isWithin_14 (by decide) ?_
      exact zR.zret E hrt hlk rfl (by unfold f_isWithin; rw [if_neg c_1, if_pos c_2]) d_X_isWithin_15
    · refine lv_iconst (v := 1) hx hb d_X_isWithin_10 (by decide) ?_
      refine lv_goto (tgt := 15) hx hb d_X_isWithin_11 (by decide) ?_
      exact zR.zret E hrt hlk rfl (by unfold f_isWithin; rw [if_neg c_1, if_neg c_2]) d_X_isWithin_15
theorem nI_m1 {n : Nat} (h : 1 ≤ n) : nI n - 1 = nI (n - 1) := by
  obtain ⟨j, rfl⟩ : ∃ j, n = j + 1 := ⟨n - 1, by omega⟩
  exact nI_pred j
theorem nI_nle_lt {n b : Nat} {x : Int32} (hn : n < 2 ^ 31) (hx : x = nI b) (h : ¬ x ≤ nI n) : n < b := by
  subst hx
  exact Nat.lt_of_not_le (fun q => h (nI_le q hn))
theorem i32_ti {x y : Int32} : x ≤ y ↔ x.toInt ≤ y.toInt := Int32.le_iff_toInt_le
theorem vp_in_le {x y : Int32} {n : Nat} (h0 : 0 ≤ x) (h1 : x ≤ y) (hy : y.toInt < n) : vp_in x n := by
  rw [i32_ti] at h0 h1
  have h2 : (0 : Int32).toInt = 0 := by decide
  exact vp_in_iff.mpr ⟨by omega, by omega⟩
theorem b01_isWithin (x lo hi : Int32) : f_isWithin x lo hi = 0 ∨ f_isWithin x lo hi = 1 := by
  unfold f_isWithin
  split
  · exact Or.inl rfl
  · split
    · exact Or.inl rfl
    · exact Or.inr rfl
theorem isWithin_nz {x lo hi : Int32} (h : ¬ f_isWithin x lo hi = 0) : lo ≤ x ∧ x ≤ hi := by
  unfold f_isWithin at h
  split at h
  · exact absurd rfl h
  · rename_i h1
    split at h
    · exact absurd rfl h
    · rename_i h2
      exact ⟨Int32.not_lt.mp h1, Int32.not_lt.mp h2⟩
def f_isPerson  (person : Int32) : Int32 := (f_isWithin person 0 59)
set_option maxHeartbeats 4000000 in
set_option maxRecDepth 100000 in
theorem c_isPerson (l : Launch) (D : va_G) (tys : List (ClassId × FieldType))  (person : Int32)  : zR l D tys y_X_isPerson b_X_isPerson 1 (some .boolean) 1 22 [.int person] ([]) (f_isPerson person) := by
  refine zR.of (by decide) (Nat.le_of_ble_eq_true rfl) ?_
  intro p e s m below meth c0 ls E hrt hlk hN hK hP hl
  have hx := E.1
  have hb := E.2.1
  have hl : lv_has ls 1 [(0, .int person)] := hl
  refine lv_iload_n hx hb d_X_isPerson_0 rfl (lv_at hl 0 rfl) ?_
  refine lv_iconst (v := 0) hx hb d_X_isPerson_1 (by decide) ?_
  refine lv_bipush (v := 59) hx hb d_X_isPerson_2 (by decide) ?_
  refine z_rs (As := [.int person, .int 0, .int 59]) (rest := []) E hN hK hl.1 (c_isWithin l D tys person 0 59) kz_X_120 rfl ⟨Nat.le_of_ble_eq_true rfl, Nat.le_of_ble_eq_true rfl⟩ rfl (Nat.le_of_ble_eq_true rfl) ⟨Nat.zero_le _, Nat.zero_le _⟩ d_X_isPerson_4 ?_
  exact zR.zret E hrt hlk (nar01 (b01_isWithin _ _ _)) (by rfl) d_X_isPerson_7
def f_isUnit  (unit : Int32) : Int32 := (f_isWithin unit 0 79)
set_option maxHeartbeats 4000000 in
set_option maxRecDepth 100000 in
theorem c_isUnit (l : Launch) (D : va_G) (tys : List (ClassId × FieldType))  (unit : Int32)  : zR l D tys y_X_isUnit b_X_isUnit 1 (some .boolean) 1 22 [.int unit] ([]) (f_isUnit unit) := by
  refine zR.of (by decide) (Nat.le_of_ble_eq_true rfl) ?_
  intro p e s m below meth c0 ls E hrt hlk hN hK hP hl
  have hx := E.1
  have hb := E.2.1
  have hl : lv_has ls 1 [(0, .int unit)] := hl
  refine lv_iload_n hx hb d_X_isUnit_0 rfl (lv_at hl 0 rfl) ?_
  refine lv_iconst (v := 0) hx hb d_X_isUnit_1 (by decide) ?_
  refine lv_bipush (v := 79) hx hb d_X_isUnit_2 (by decide) ?_
  refine z_rs (As := [.int unit, .int 0, .int 79]) (rest := []) E hN hK hl.1 (c_isWithin l D tys unit 0 79) kz_X_120 rfl ⟨Nat.le_of_ble_eq_true rfl, Nat.le_of_ble_eq_true rfl⟩ rfl (Nat.le_of_ble_eq_true rfl) ⟨Nat.zero_le _, Nat.zero_le _⟩ d_X_isUnit_4 ?_
  exact zR.zret E hrt hlk (nar01 (b01_isWithin _ _ _)) (by rfl) d_X_isUnit_7
theorem in_person {x : Int32} (h : ¬ f_isPerson x = 0) : vp_in x 60 := by
  have h1 := isWithin_nz h
  exact vp_in_le h1.1 h1.2 (by decide)
theorem in_unit {x : Int32} (h : ¬ f_isUnit x = 0) : vp_in x 80 := by
  have h1 := isWithin_nz h
  exact vp_in_le h1.1 h1.2 (by decide)
theorem pre1_in {n : Nat} {x : Int32} (hn : n < 2 ^ 30) (h : ¬ f_isWithin x 0 (nI n - 1) = 0) : ∃ j, j < n ∧ x = nI j := by
  have h1 := isWithin_nz h
  obtain ⟨j, hj, rfl⟩ := nI_of (x := x) (fun q => Int32.not_lt.mpr h1.1 q)
  refine ⟨j, ?_, rfl⟩
  have h2 := i32_ti.mp h1.2
  rw [nI_toInt hj] at h2
  rcases Nat.eq_zero_or_pos n with h0 | h0
  · subst h0
    have : (nI 0 - 1).toInt = -1 := by decide
    omega
  · rw [nI_m1 h0, nI_toInt (by omega)] at h2
    omega
theorem drop_in {n : Nat} {x : Int32} (hn : n ≤ 60) (h : ¬ f_isWithin x 0 (nI n - 1) = 0) : x.toNatClampNeg < n ∧ x + 1 = nI (x.toNatClampNeg + 1) := by
  obtain ⟨j, hj, rfl⟩ := pre1_in (by omega) h
  rw [nI_clamp (by omega)]
  exact ⟨hj, nI_1 j⟩
end
section
def f_S_firstSeatWith_L (Z : Nat → Nat → Int32) (sitter : Int32) : Nat → Nat → Int32
  | 0, k0 => (-1)
  | d + 1, k0 => (if (Z 0 k0) = sitter then (nI k0) else (f_S_firstSeatWith_L Z sitter d (k0 + 1)))
theorem f_S_firstSeatWith_L_0 (Z : Nat → Nat → Int32) (sitter : Int32) (k0 : Nat)  : f_S_firstSeatWith_L Z sitter 0 k0  = (-1) := rfl
theorem f_S_firstSeatWith_L_s (Z : Nat → Nat → Int32) (sitter : Int32) (d k0 : Nat)  : f_S_firstSeatWith_L Z sitter (d + 1) k0  = (if (Z 0 k0) = sitter then (nI k0) else (f_S_firstSeatWith_L Z sitter d (k0 + 1))) := rfl
def f_S_firstSeatWith (k : Nat) (Z : Nat → Nat → Int32) (sitter : Int32) : Int32 := (f_S_firstSeatWith_L Z sitter k 0)
set_option maxHeartbeats 4000000 in
set_option maxRecDepth 100000 in
theorem lp_S_firstSeatWith (l : Launch) (D : va_G) (cI : ClassId) (a : Nat → Nat) (k : Nat) (n : Nat) (Z : Nat → Nat → Int32) (sitter : Int32) (hk : k ≤ 20) (hn : n ≤ 60) {p : Program} {e : Env} {s : State} {m : MethodId} {below : List Frame} {meth : Method} {c0 : Code} (E : CallFix p m c0 b_S_firstSeatWith 3 s ([.ref (a 0), .int sitter] : List Value).toArray zB y_S_firstSeatWith.cls) (hrt : meth.sig.returnType = (some .int)) (hlk : meth.locks = false) (hN : zN s) (hK : va_K D vwCl [(cI, .int)] s) (hP : va_P D vwCl (wS a cI (nI k) (nI n) Z) s.heap) :
    ∀ (d k0 : Nat) , k0 + d = k → ∀ r : Int32, f_S_firstSeatWith_L Z sitter d k0  = r → ∀ ls : Array Slot, lv_has ls 3 [(2, .int (nI k0)), (0, .ref (a 0)), (1, .int sitter)] → W p l e { frames := 0, cells := 0, slots := 0, locals := 0 } s m ([.ref (a 0), .int sitter] : List Value).toArray below meth c0 s.heap [] 0 0 (MQ below (QcRead r) ([.ref (a 0), .int sitter] : List Value).toArray s 0 0 (fun _ => False)) (F0 m 2 ls []) := by
  have hx := E.1
  have hb := E.2.1
  intro d
  induction d with
  | zero =>
    intro k0  hkd r hr ls hl
    refine lv_iload_n hx hb d_S_firstSeatWith_2 rfl (lv_at hl 0 rfl) ?_
    refine lv_aload_n hx hb d_S_firstSeatWith_3 rfl (lv_at hl 1 rfl) ?_
    refine z_get (v := .int (nI k)) E hK hP i_S 0 0 rfl rfl (by decide) kf_S_27 rfl d_S_firstSeatWith_4 ?_
    refine lv_icmp_ge (tgt := 28) hx hb d_S_firstSeatWith_7 (by decide) (fun c_1 => ?_) (fun c_1 => absurd (nI_le (by omega) (by omega)) c_1)
    refine lv_iconst (v := (-1)) hx hb d_S_firstSeatWith_28 (by decide) ?_
    exact zR.iret E hrt hlk (by rw [← hr, f_S_firstSeatWith_L_0]) d_S_firstSeatWith_29
  | succ d ih =>
    intro k0  hkd r hr ls hl
    refine lv_iload_n hx hb d_S_firstSeatWith_2 rfl (lv_at hl 0 rfl) ?_
    refine lv_aload_n hx hb d_S_firstSeatWith_3 rfl (lv_at hl 1 rfl) ?_
    refine z_get (v := .int (nI k)) E hK hP i_S 0 0 rfl rfl (by decide) kf_S_27 rfl d_S_firstSeatWith_4 ?_
    refine lv_icmp_ge (tgt := 28) hx hb d_S_firstSeatWith_7 (by decide) (fun c_2 => absurd c_2 (nI_ge (by omega) (by omega))) (fun c_2 => ?_)
    refine lv_aload_n hx hb d_S_firstSeatWith_10 rfl (lv_at hl 1 rfl) ?_
    refine z_get (v := .ref (a 1)) E hK hP i_S 0 1 rfl rfl (by decide) kf_S_9 rfl d_S_firstSeatWith_11 ?_
    refine lv_iload_n hx hb d_S_firstSeatWith_14 rfl (lv_at hl 0 rfl) ?_
    refine z_aldN (f := Z 0) (j := k0) E hK hP 1 0 rfl rfl rfl (by omega) (by decide) d_S_firstSeatWith_15 ?_
    refine lv_iload_n hx hb d_S_firstSeatWith_16 rfl (lv_at hl 2 rfl) ?_
    refine lv_icmp_ne (tgt := 22) hx hb d_S_firstSeatWith_17 (by decide) (fun c_3 => ?_) (fun c_3 => ?_)
    · refine lv_iinc (v := nI (k0 + 1)) (lv' := [(2, .int (nI (k0 + 1))), (0, .ref (a 0)), (1, .int sitter)]) hx hb d_S_firstSeatWith_22 hl (k := 0) rfl (nI_1 _) (by decide) rfl (fun ls hl => ?_)
      refine lv_goto (tgt := 2) hx hb d_S_firstSeatWith_25 (by decide) ?_
      exact ih (k0 + 1)  (by omega) r (by rw [← hr, f_S_firstSeatWith_L_s, if_neg c_3]) ls (lv_sub hl [0, 1, 2] rfl)
    · refine lv_iload_n hx hb d_S_firstSeatWith_20 rfl (lv_at hl 0 rfl) ?_
      exact zR.iret E hrt hlk (by rw [← hr, f_S_firstSeatWith_L_s, if_pos c_3]) d_S_firstSeatWith_21
set_option maxHeartbeats 4000000 in
set_option maxRecDepth 100000 in
theorem c_S_firstSeatWith (l : Launch) (D : va_G) (cI : ClassId) (a : Nat → Nat) (k : Nat) (n : Nat) (Z : Nat → Nat → Int32) (sitter : Int32) (hk : k ≤ 20) (hn : n ≤ 60) : zR l D [(cI, .int)] y_S_firstSeatWith b_S_firstSeatWith 3 (some .int) 0 0 [.ref (a 0), .int sitter] (wS a cI (nI k) (nI n) Z) (f_S_firstSeatWith k Z sitter) := by
  refine zR.of (by decide) (Nat.le_of_ble_eq_true rfl) ?_
  intro p e s m below meth c0 ls E hrt hlk hN hK hP hl
  have hx := E.1
  have hb := E.2.1
  have hl : lv_has ls 3 [(0, .ref (a 0)), (1, .int sitter)] := hl
  refine lv_iconst (v := 0) hx hb d_S_firstSeatWith_0 (by decide) ?_
  refine lv_istore_n (lv' := [(2, .int 0), (0, .ref (a 0)), (1, .int sitter)]) hx hb d_S_firstSeatWith_1 rfl hl (by decide) rfl (fun ls hl => ?_)
  exact lp_S_firstSeatWith l D cI a k n Z sitter hk hn E hrt hlk hN hK hP k 0  (by omega) _ (by rfl) ls (by rw [nI_0]; exact lv_sub hl [0, 1, 2] rfl)
def f_S_placeInRow_L (Z : Nat → Nat → Int32) (person : Int32) : Nat → Nat → Int32
  | 0, k0 => (-1)
  | d + 1, k0 => (if (Z 1 k0) = person then (nI k0) else (f_S_placeInRow_L Z person d (k0 + 1)))
theorem f_S_placeInRow_L_0 (Z : Nat → Nat → Int32) (person : Int32) (k0 : Nat)  : f_S_placeInRow_L Z person 0 k0  = (-1) := rfl
theorem f_S_placeInRow_L_s (Z : Nat → Nat → Int32) (person : Int32) (d k0 : Nat)  : f_S_placeInRow_L Z person (d + 1) k0  = (if (Z 1 k0) = person then (nI k0) else (f_S_placeInRow_L Z person d (k0 + 1))) := rfl
def f_S_placeInRow (n : Nat) (Z : Nat → Nat → Int32) (person : Int32) : Int32 := (f_S_placeInRow_L Z person n 0)
set_option maxHeartbeats 4000000 in
set_option maxRecDepth 100000 in
theorem lp_S_placeInRow (l : Launch) (D : va_G) (cI : ClassId) (a : Nat → Nat) (k : Nat) (n : Nat) (Z : Nat → Nat → Int32) (person : Int32) (hk : k ≤ 20) (hn : n ≤ 60) {p : Program} {e : Env} {s : State} {m : MethodId} {below : List Frame} {meth : Method} {c0 : Code} (E : CallFix p m c0 b_S_placeInRow 3 s ([.ref (a 0), .int person] : List Value).toArray zB y_S_placeInRow.cls) (hrt : meth.sig.returnType = (some .int)) (hlk : meth.locks = false) (hN : zN s) (hK : va_K D vwCl [(cI, .int)] s) (hP : va_P D vwCl (wS a cI (nI k) (nI n) Z) s.heap) :
    ∀ (d k0 : Nat) , k0 + d = n → ∀ r : Int32, f_S_placeInRow_L Z person d k0  = r → ∀ ls : Array Slot, lv_has ls 3 [(2, .int (nI k0)), (0, .ref (a 0)), (1, .int person)] → W p l e { frames := 0, cells := 0, slots := 0, locals := 0 } s m ([.ref (a 0), .int person] : List Value).toArray below meth c0 s.heap [] 0 0 (MQ below (QcRead r) ([.ref (a 0), .int person] : List Value).toArray s 0 0 (fun _ => False)) (F0 m 2 ls []) := by
  have hx := E.1
  have hb := E.2.1
  intro d
  induction d with
  | zero =>
    intro k0  hkd r hr ls hl
    refine lv_iload_n hx hb d_S_placeInRow_2 rfl (lv_at hl 0 rfl) ?_
    refine lv_aload_n hx hb d_S_placeInRow_3 rfl (lv_at hl 1 rfl) ?_
    refine z_get (v := .int (nI n)) E hK hP i_S 0 3 rfl rfl (by decide) kf_S_54 rfl d_S_placeInRow_4 ?_
    refine lv_icmp_ge (tgt := 28) hx hb d_S_placeInRow_7 (by decide) (fun c_1 => ?_) (fun c_1 => absurd (nI_le (by omega) (by omega)) c_1)
    refine lv_iconst (v := (-1)) hx hb d_S_placeInRow_28 (by decide) ?_
    exact zR.iret E hrt hlk (by rw [← hr, f_S_placeInRow_L_0]) d_S_placeInRow_29
  | succ d ih =>
    intro k0  hkd r hr ls hl
    refine lv_iload_n hx hb d_S_placeInRow_2 rfl (lv_at hl 0 rfl) ?_
    refine lv_aload_n hx hb d_S_placeInRow_3 rfl (lv_at hl 1 rfl) ?_
    refine z_get (v := .int (nI n)) E hK hP i_S 0 3 rfl rfl (by decide) kf_S_54 rfl d_S_placeInRow_4 ?_
    refine lv_icmp_ge (tgt := 28) hx hb d_S_placeInRow_7 (by decide) (fun c_2 => absurd c_2 (nI_ge (by omega) (by omega))) (fun c_2 => ?_)
    refine lv_aload_n hx hb d_S_placeInRow_10 rfl (lv_at hl 1 rfl) ?_
    refine z_get (v := .ref (a 2)) E hK hP i_S 0 2 rfl rfl (by decide) kf_S_15 rfl d_S_placeInRow_11 ?_
    refine lv_iload_n hx hb d_S_placeInRow_14 rfl (lv_at hl 0 rfl) ?_
    refine z_aldN (f := Z 1) (j := k0) E hK hP 2 0 rfl rfl rfl (by omega) (by decide) d_S_placeInRow_15 ?_
    refine lv_iload_n hx hb d_S_placeInRow_16 rfl (lv_at hl 2 rfl) ?_
    refine lv_icmp_ne (tgt := 22) hx hb d_S_placeInRow_17 (by decide) (fun c_3 => ?_) (fun c_3 => ?_)
    · refine lv_iinc (v := nI (k0 + 1)) (lv' := [(2, .int (nI (k0 + 1))), (0, .ref (a 0)), (1, .int person)]) hx hb d_S_placeInRow_22 hl (k := 0) rfl (nI_1 _) (by decide) rfl (fun ls hl => ?_)
      refine lv_goto (tgt := 2) hx hb d_S_placeInRow_25 (by decide) ?_
      exact ih (k0 + 1)  (by omega) r (by rw [← hr, f_S_placeInRow_L_s, if_neg c_3]) ls (lv_sub hl [0, 1, 2] rfl)
    · refine lv_iload_n hx hb d_S_placeInRow_20 rfl (lv_at hl 0 rfl) ?_
      exact zR.iret E hrt hlk (by rw [← hr, f_S_placeInRow_L_s, if_pos c_3]) d_S_placeInRow_21
set_option maxHeartbeats 4000000 in
set_option maxRecDepth 100000 in
theorem c_S_placeInRow (l : Launch) (D : va_G) (cI : ClassId) (a : Nat → Nat) (k : Nat) (n : Nat) (Z : Nat → Nat → Int32) (person : Int32) (hk : k ≤ 20) (hn : n ≤ 60) : zR l D [(cI, .int)] y_S_placeInRow b_S_placeInRow 3 (some .int) 0 0 [.ref (a 0), .int person] (wS a cI (nI k) (nI n) Z) (f_S_placeInRow n Z person) := by
  refine zR.of (by decide) (Nat.le_of_ble_eq_true rfl) ?_
  intro p e s m below meth c0 ls E hrt hlk hN hK hP hl
  have hx := E.1
  have hb := E.2.1
  have hl : lv_has ls 3 [(0, .ref (a 0)), (1, .int person)] := hl
  refine lv_iconst (v := 0) hx hb d_S_placeInRow_0 (by decide) ?_
  refine lv_istore_n (lv' := [(2, .int 0), (0, .ref (a 0)), (1, .int person)]) hx hb d_S_placeInRow_1 rfl hl (by decide) rfl (fun ls hl => ?_)
  exact lp_S_placeInRow l D cI a k n Z person hk hn E hrt hlk hN hK hP n 0  (by omega) _ (by rfl) ls (by rw [nI_0]; exact lv_sub hl [0, 1, 2] rfl)
theorem fs_L {Z : Nat → Nat → Int32} {x : Int32} : ∀ (d k0 : Nat), f_S_firstSeatWith_L Z x d k0 = -1 ∨ ∃ j, j < k0 + d ∧ f_S_firstSeatWith_L Z x d k0 = nI j := by
  intro d
  induction d with
  | zero => intro k0; exact Or.inl rfl
  | succ d ih =>
    intro k0
    rw [f_S_firstSeatWith_L_s]
    split
    · exact Or.inr ⟨k0, by omega, rfl⟩
    · rcases ih (k0 + 1) with h | ⟨j, h1, h2⟩
      · exact Or.inl h
      · exact Or.inr ⟨j, by omega, h2⟩
theorem fs_in {k : Nat} {Z : Nat → Nat → Int32} {x : Int32} (hk : k ≤ 20) (h : ¬ f_S_firstSeatWith k Z x = -1) : vp_in (f_S_firstSeatWith k Z x) 20 := by
  rcases fs_L (Z := Z) (x := x) k 0 with h1 | ⟨j, h1, h2⟩
  · exact absurd h1 h
  · rw [show f_S_firstSeatWith k Z x = nI j from h2]
    exact vp_in_nI (by omega) (by decide)
def f_S_seatOf (k : Nat) (Z : Nat → Nat → Int32) (person : Int32) : Int32 := (if (f_isPerson person) = 0 then (-1) else (f_S_firstSeatWith k Z person))
set_option maxHeartbeats 4000000 in
set_option maxRecDepth 100000 in
theorem c_S_seatOf (l : Launch) (D : va_G) (cI : ClassId) (a : Nat → Nat) (k : Nat) (n : Nat) (Z : Nat → Nat → Int32) (person : Int32) (hk : k ≤ 20) (hn : n ≤ 60) : zR l D [(cI, .int)] y_S_seatOf b_S_seatOf 2 (some .int) 2 42 [.ref (a 0), .int person] (wS a cI (nI k) (nI n) Z) (f_S_seatOf k Z person) := by
  refine zR.of (by decide) (Nat.le_of_ble_eq_true rfl) ?_
  intro p e s m below meth c0 ls E hrt hlk hN hK hP hl
  have hx := E.1
  have hb := E.2.1
  have hl : lv_has ls 2 [(0, .ref (a 0)), (1, .int person)] := hl
  refine lv_iload_n hx hb d_S_seatOf_0 rfl (lv_at hl 1 rfl) ?_
  refine z_rn (As := [.int person]) (rest := []) E hN hK hl.1 (c_isPerson l D [(cI, .int)] person) kz_S_48 rfl ⟨Nat.le_of_ble_eq_true rfl, Nat.le_of_ble_eq_true rfl⟩ rfl (Nat.le_of_ble_eq_true rfl) ⟨Nat.zero_le _, Nat.zero_le _⟩ d_S_seatOf_1 ?_
  refine lv_if_eq (tgt := 15) hx hb d_S_seatOf_4 (by decide) (fun c_1 => ?_) (fun c_1 => ?_)
  · refine lv_iconst (v := (-1)) hx hb d_S_seatOf_15 (by decide) ?_
    exact zR.iret E hrt hlk (by unfold f_S_seatOf; rw [if_pos c_1]) d_S_seatOf_16
  · refine lv_aload_n hx hb d_S_seatOf_7 rfl (lv_at hl 0 rfl) ?_
    refine lv_iload_n hx hb d_S_seatOf_8 rfl (lv_at hl 1 rfl) ?_
    refine z_rv (As := [.int person]) (rest := []) E hN hK hP hl.1 (c_S_firstSeatWith l D cI a k n Z person hk hn) [0, 1, 2] rfl 0 rfl rfl kz_S_51 rfl ⟨Nat.le_of_ble_eq_true rfl, Nat.le_of_ble_eq_true rfl⟩ rfl (Nat.le_of_ble_eq_true rfl) ⟨Nat.zero_le _, Nat.zero_le _⟩ d_S_seatOf_9 ?_
    refine lv_goto (tgt := 16) hx hb d_S_seatOf_12 (by decide) ?_
    exact zR.iret E hrt hlk (by unfold f_S_seatOf; rw [if_neg c_1]) d_S_seatOf_16
theorem so_in {k : Nat} {Z : Nat → Nat → Int32} {x : Int32} (hk : k ≤ 20) (h : ¬ f_S_seatOf k Z x = -1) : vp_in (f_S_seatOf k Z x) 20 := by
  unfold f_S_seatOf at h ⊢
  split at h
  · exact absurd rfl h
  · rename_i h1
    rw [if_neg h1]
    exact fs_in hk h
def f_S_isSeated (k : Nat) (Z : Nat → Nat → Int32) (person : Int32) : Int32 := (if (f_S_seatOf k Z person) = (-1) then 0 else 1)
set_option maxHeartbeats 4000000 in
set_option maxRecDepth 100000 in
theorem c_S_isSeated (l : Launch) (D : va_G) (cI : ClassId) (a : Nat → Nat) (k : Nat) (n : Nat) (Z : Nat → Nat → Int32) (person : Int32) (hk : k ≤ 20) (hn : n ≤ 60) : zR l D [(cI, .int)] y_S_isSeated b_S_isSeated 2 (some .boolean) 3 63 [.ref (a 0), .int person] (wS a cI (nI k) (nI n) Z) (f_S_isSeated k Z person) := by
  refine zR.of (by decide) (Nat.le_of_ble_eq_true rfl) ?_
  intro p e s m below meth c0 ls E hrt hlk hN hK hP hl
  have hx := E.1
  have hb := E.2.1
  have hl : lv_has ls 2 [(0, .ref (a 0)), (1, .int person)] := hl
  refine lv_aload_n hx hb d_S_isSeated_0 rfl (lv_at hl 0 rfl) ?_
  refine lv_iload_n hx hb d_S_isSeated_1 rfl (lv_at hl 1 rfl) ?_
  refine z_rv (As := [.int person]) (rest := []) E hN hK hP hl.1 (c_S_seatOf l D cI a k n Z person hk hn) [0, 1, 2] rfl 0 rfl rfl kz_S_37 rfl ⟨Nat.le_of_ble_eq_true rfl, Nat.le_of_ble_eq_true rfl⟩ rfl (Nat.le_of_ble_eq_true rfl) ⟨Nat.zero_le _, Nat.zero_le _⟩ d_S_isSeated_2 ?_
  refine lv_iconst (v := (-1)) hx hb d_S_isSeated_5 (by decide) ?_
  refine lv_icmp_eq (tgt := 13) hx hb d_S_isSeated_6 (by decide) (fun c_1 => ?_) (fun c_1 => ?_)
  · refine lv_iconst (v := 0) hx hb d_S_isSeated_13 (by decide) ?_
    exact zR.zret E hrt hlk rfl (by unfold f_S_isSeated; rw [if_pos c_1]) d_S_isSeated_14
  · refine lv_iconst (v := 1) hx hb d_S_isSeated_9 (by decide) ?_
    refine lv_goto (tgt := 14) hx hb d_S_isSeated_10 (by decide) ?_
    exact zR.zret E hrt hlk rfl (by unfold f_S_isSeated; rw [if_neg c_1]) d_S_isSeated_14
def f_S_isPresent (k : Nat) (n : Nat) (Z : Nat → Nat → Int32) (person : Int32) : Int32 := (if (f_S_isSeated k Z person) = 0 then (if (f_S_placeInRow n Z person) = (-1) then 0 else 1) else 1)
set_option maxHeartbeats 4000000 in
set_option maxRecDepth 100000 in
theorem c_S_isPresent (l : Launch) (D : va_G) (cI : ClassId) (a : Nat → Nat) (k : Nat) (n : Nat) (Z : Nat → Nat → Int32) (person : Int32) (hk : k ≤ 20) (hn : n ≤ 60) : zR l D [(cI, .int)] y_S_isPresent b_S_isPresent 2 (some .boolean) 4 84 [.ref (a 0), .int person] (wS a cI (nI k) (nI n) Z) (f_S_isPresent k n Z person) := by
  refine zR.of (by decide) (Nat.le_of_ble_eq_true rfl) ?_
  intro p e s m below meth c0 ls E hrt hlk hN hK hP hl
  have hx := E.1
  have hb := E.2.1
  have hl : lv_has ls 2 [(0, .ref (a 0)), (1, .int person)] := hl
  refine lv_aload_n hx hb d_S_isPresent_0 rfl (lv_at hl 0 rfl) ?_
  refine lv_iload_n hx hb d_S_isPresent_1 rfl (lv_at hl 1 rfl) ?_
  refine z_rv (As := [.int person]) (rest := []) E hN hK hP hl.1 (c_S_isSeated l D cI a k n Z person hk hn) [0, 1, 2] rfl 0 rfl rfl kz_S_41 rfl ⟨Nat.le_of_ble_eq_true rfl, Nat.le_of_ble_eq_true rfl⟩ rfl (Nat.le_of_ble_eq_true rfl) ⟨Nat.zero_le _, Nat.zero_le _⟩ d_S_isPresent_2 ?_
  refine lv_if_ne (tgt := 17) hx hb d_S_isPresent_5 (by decide) (fun c_1 => ?_) (fun c_1 => ?_)
  · refine lv_iconst (v := 1) hx hb d_S_isPresent_17 (by decide) ?_
    refine lv_goto (tgt := 22) hx hb d_S_isPresent_18 (by decide) ?_
    exact zR.zret E hrt hlk rfl (by unfold f_S_isPresent; rw [if_neg c_1]) d_S_isPresent_22
  · refine lv_aload_n hx hb d_S_isPresent_8 rfl (lv_at hl 0 rfl) ?_
    refine lv_iload_n hx hb d_S_isPresent_9 rfl (lv_at hl 1 rfl) ?_
    refine z_rv (As := [.int person]) (rest := []) E hN hK hP hl.1 (c_S_placeInRow l D cI a k n Z person hk hn) [0, 1, 2] rfl 0 rfl rfl kz_S_45 rfl ⟨Nat.le_of_ble_eq_true rfl, Nat.le_of_ble_eq_true rfl⟩ rfl (Nat.le_of_ble_eq_true rfl) ⟨Nat.zero_le _, Nat.zero_le _⟩ d_S_isPresent_10 ?_
    refine lv_iconst (v := (-1)) hx hb d_S_isPresent_13 (by decide) ?_
    refine lv_icmp_eq (tgt := 21) hx hb d_S_isPresent_14 (by decide) (fun c_2 => ?_) (fun c_2 => ?_)
    · refine lv_iconst (v := 0) hx hb d_S_isPresent_21 (by decide) ?_
      exact zR.zret E hrt hlk rfl (by unfold f_S_isPresent; rw [if_pos c_1, if_pos c_2]) d_S_isPresent_22
    · refine lv_iconst (v := 1) hx hb d_S_isPresent_17 (by decide) ?_
      refine lv_goto (tgt := 22) hx hb d_S_isPresent_18 (by decide) ?_
      exact zR.zret E hrt hlk rfl (by unfold f_S_isPresent; rw [if_pos c_1, if_neg c_2]) d_S_isPresent_22
def f_S_dropFromRow_L (n : Nat) (place : Int32) : Nat → Nat → (Nat → Nat → Int32) → Int32 × (Nat → Nat → Int32)
  | 0, k0, Z => ((nI n) - 1, Z)
  | d + 1, k0, Z => (f_S_dropFromRow_L n place d (k0 + 1) (up2 Z 1 (k0 - 1) (Z 1 k0)))
theorem f_S_dropFromRow_L_0 (n : Nat) (place : Int32) (k0 : Nat) (Z : Nat → Nat → Int32) : f_S_dropFromRow_L n place 0 k0 Z = ((nI n) - 1, Z) := rfl
theorem f_S_dropFromRow_L_s (n : Nat) (place : Int32) (d k0 : Nat) (Z : Nat → Nat → Int32) : f_S_dropFromRow_L n place (d + 1) k0 Z = (f_S_dropFromRow_L n place d (k0 + 1) (up2 Z 1 (k0 - 1) (Z 1 k0))) := rfl
def f_S_dropFromRow (n : Nat) (Z : Nat → Nat → Int32) (place : Int32) : Int32 × (Nat → Nat → Int32) := (if (f_isWithin place 0 ((nI n) - 1)) = 0 then (nI n, Z) else (f_S_dropFromRow_L n place (n - (place.toNatClampNeg + 1)) (place.toNatClampNeg + 1) Z))
set_option maxHeartbeats 4000000 in
set_option maxRecDepth 100000 in
theorem lp_S_dropFromRow (l : Launch) (D : va_G) (cI : ClassId) (a : Nat → Nat) (k : Nat) (n : Nat) (place : Int32) (hk : k ≤ 20) (hn : n ≤ 60) {p : Program} {e : Env} {s : State} {m : MethodId} {below : List Frame} {meth : Method} {c0 : Code} {A : Nat → Prop} (E : CallFix p m c0 b_S_dropFromRow 3 s ([.ref (a 0), .int place] : List Value).toArray zB y_S_dropFromRow.cls) (hrt : meth.sig.returnType = none) (hlk : meth.locks = false) (hN : zN s) (hK : va_K D vwCl [(cI, .int)] s) (hA : ∀ q, s.heap.size ≤ q → A q) :
    ∀ (d k0 : Nat) (Z : Nat → Nat → Int32), k0 + d = n → 1 ≤ k0 → ∀ X : Int32 × (Nat → Nat → Int32), f_S_dropFromRow_L n place d k0 Z = X → ∀ (H : Heap) (locs : List Loc), zG D A s H locs (wS a cI (nI k) (nI n) Z) → ∀ ls : Array Slot, lv_has ls 3 [(2, .int (nI k0)), (0, .ref (a 0)), (1, .int place)] → W p l e { frames := 1, cells := 0, slots := 0, locals := 22 } s m ([.ref (a 0), .int place] : List Value).toArray below meth c0 H locs 0 0 (MQ below (zQ D A (wS a cI (nI k) X.1 X.2) none) ([.ref (a 0), .int place] : List Value).toArray s 0 0 A) (F0 m 19 ls []) := by
  have hx := E.1
  have hb := E.2.1
  intro d
  induction d with
  | zero =>
    intro k0 Z hkd hiv X hr H locs G ls hl
    refine lv_iload_n hx hb d_S_dropFromRow_19 rfl (lv_at hl 0 rfl) ?_
    refine lv_aload_n hx hb d_S_dropFromRow_20 rfl (lv_at hl 1 rfl) ?_
    refine z_get (v := .int (nI n)) E hK G.1 i_S 0 3 rfl rfl (by decide) kf_S_54 rfl d_S_dropFromRow_21 ?_
    refine lv_icmp_ge (tgt := 47) hx hb d_S_dropFromRow_24 (by decide) (fun c_1 => ?_) (fun c_1 => absurd (nI_le (by omega) (by omega)) c_1)
    refine lv_aload_n hx hb d_S_dropFromRow_47 rfl (lv_at hl 1 rfl) ?_
    refine lv_dup hx hb d_S_dropFromRow_48 rfl ?_
    refine z_get (v := .int (nI n)) E hK G.1 i_S 0 3 rfl rfl (by decide) kf_S_54 rfl d_S_dropFromRow_49 ?_
    refine lv_iconst (v := 1) hx hb d_S_dropFromRow_52 (by decide) ?_
    refine lv_isub hx hb d_S_dropFromRow_53 ?_
    refine z_put (ty := .int) (ws' := wS a cI (nI k) ((nI n) - 1) Z) E hK G i_S t_S t_S_ok n_S 0 3 rfl rfl (by decide) kf_S_54 rfl rfl rfl rfl (Nat.le_of_ble_eq_true rfl) rfl d_S_dropFromRow_54 (fun H locs G => ?_)
    have hf : X = ((nI n) - 1, Z) := by rw [← hr, f_S_dropFromRow_L_0]
    exact zW.vret E hrt hlk G (by rw [hf]) (by rfl) d_S_dropFromRow_57
  | succ d ih =>
    intro k0 Z hkd hiv X hr H locs G ls hl
    refine lv_iload_n hx hb d_S_dropFromRow_19 rfl (lv_at hl 0 rfl) ?_
    refine lv_aload_n hx hb d_S_dropFromRow_20 rfl (lv_at hl 1 rfl) ?_
    refine z_get (v := .int (nI n)) E hK G.1 i_S 0 3 rfl rfl (by decide) kf_S_54 rfl d_S_dropFromRow_21 ?_
    refine lv_icmp_ge (tgt := 47) hx hb d_S_dropFromRow_24 (by decide) (fun c_2 => absurd c_2 (nI_ge (by omega) (by omega))) (fun c_2 => ?_)
    refine lv_aload_n hx hb d_S_dropFromRow_27 rfl (lv_at hl 1 rfl) ?_
    refine z_get (v := .ref (a 2)) E hK G.1 i_S 0 2 rfl rfl (by decide) kf_S_15 rfl d_S_dropFromRow_28 ?_
    refine lv_iload_n hx hb d_S_dropFromRow_31 rfl (lv_at hl 0 rfl) ?_
    refine lv_iconst (v := 1) hx hb d_S_dropFromRow_32 (by decide) ?_
    refine lv_isub hx hb d_S_dropFromRow_33 ?_
    refine lv_aload_n hx hb d_S_dropFromRow_34 rfl (lv_at hl 1 rfl) ?_
    refine z_get (v := .ref (a 2)) E hK G.1 i_S 0 2 rfl rfl (by decide) kf_S_15 rfl d_S_dropFromRow_35 ?_
    refine lv_iload_n hx hb d_S_dropFromRow_38 rfl (lv_at hl 0 rfl) ?_
    refine z_aldN (f := Z 1) (j := k0) E hK G.1 2 0 rfl rfl rfl (by omega) (by decide) d_S_dropFromRow_39 ?_
    refine z_astN (f := Z 1) (j := (k0 - 1)) (ws' := wS a cI (nI k) (nI n) (up2 Z 1 (k0 - 1) (Z 1 k0))) E hK G 2 0 rfl rfl (nI_m1 (by omega)) (by omega) (by decide) rfl d_S_dropFromRow_40 (fun H locs G => ?_)
    refine lv_iinc (v := nI (k0 + 1)) (lv' := [(2, .int (nI (k0 + 1))), (0, .ref (a 0)), (1, .int place)]) hx hb d_S_dropFromRow_41 hl (k := 0) rfl (nI_1 _) (by decide) rfl (fun ls hl => ?_)
    refine lv_goto (tgt := 19) hx hb d_S_dropFromRow_44 (by decide) ?_
    exact ih (k0 + 1) (up2 Z 1 (k0 - 1) (Z 1 k0)) (by omega) (by omega) X (by rw [← hr, f_S_dropFromRow_L_s]) H locs G ls (lv_sub hl [0, 1, 2] rfl)
set_option maxHeartbeats 4000000 in
set_option maxRecDepth 100000 in
theorem c_S_dropFromRow (l : Launch) (D : va_G) (cI : ClassId) (a : Nat → Nat) (k : Nat) (n : Nat) (Z : Nat → Nat → Int32) (place : Int32) (hk : k ≤ 20) (hn : n ≤ 60) : zW l D [(cI, .int)] y_S_dropFromRow b_S_dropFromRow 3 none 1 22 [.ref (a 0), .int place] (wS a cI (nI k) (nI n) Z) (wS a cI (nI k) ((f_S_dropFromRow n Z place).1) ((f_S_dropFromRow n Z place).2)) none := by
  refine zW.of (by decide) (Nat.le_of_ble_eq_true rfl) ?_
  intro p e s m below meth c0 ls A E hrt hlk hN hK hA G hl
  have hx := E.1
  have hb := E.2.1
  have hl : lv_has ls 3 [(0, .ref (a 0)), (1, .int place)] := hl
  refine lv_iload_n hx hb d_S_dropFromRow_0 rfl (lv_at hl 1 rfl) ?_
  refine lv_iconst (v := 0) hx hb d_S_dropFromRow_1 (by decide) ?_
  refine lv_aload_n hx hb d_S_dropFromRow_2 rfl (lv_at hl 0 rfl) ?_
  refine z_get (v := .int (nI n)) E hK G.1 i_S 0 3 rfl rfl (by decide) kf_S_54 rfl d_S_dropFromRow_3 ?_
  refine lv_iconst (v := 1) hx hb d_S_dropFromRow_6 (by decide) ?_
  refine lv_isub hx hb d_S_dropFromRow_7 ?_
  refine z_rn (As := [.int place, .int 0, .int ((nI n) - 1)]) (rest := []) E hN hK hl.1 (c_isWithin l D [(cI, .int)] place 0 ((nI n) - 1)) kz_S_61 rfl ⟨Nat.le_of_ble_eq_true rfl, Nat.le_of_ble_eq_true rfl⟩ rfl (Nat.le_of_ble_eq_true rfl) ⟨Nat.zero_le _, Nat.zero_le _⟩ d_S_dropFromRow_8 ?_
  refine lv_if_ne (tgt := 15) hx hb d_S_dropFromRow_11 (by decide) (fun c_1 => ?_) (fun c_1 => ?_)
  · refine lv_iload_n hx hb d_S_dropFromRow_15 rfl (lv_at hl 1 rfl) ?_
    refine lv_iconst (v := 1) hx hb d_S_dropFromRow_16 (by decide) ?_
    refine lv_iadd hx hb d_S_dropFromRow_17 ?_
    refine lv_istore_n (lv' := [(2, .int (place + 1)), (0, .ref (a 0)), (1, .int place)]) hx hb d_S_dropFromRow_18 rfl hl (by decide) rfl (fun ls hl => ?_)
    have hdr := drop_in hn c_1
    exact lp_S_dropFromRow l D cI a k n place hk hn E hrt hlk hN hK hA (n - (place.toNatClampNeg + 1)) (place.toNatClampNeg + 1) Z (by omega) (by omega) _ (by unfold f_S_dropFromRow; rw [if_neg c_1]) _ _ G ls (by rw [← hdr.2]; exact lv_sub hl [0, 1, 2] rfl)
  · have hf : f_S_dropFromRow n Z place = (nI n, Z) := by unfold f_S_dropFromRow; rw [if_pos c_1]
    exact zW.vret E hrt hlk G (by rw [hf]) (by rfl) d_S_dropFromRow_14
def f_S_admit (k : Nat) (n : Nat) (Z : Nat → Nat → Int32) (person : Int32) : Int32 × Int32 × (Nat → Nat → Int32) := (if (f_S_firstSeatWith k Z (-1)) = (-1) then (if 60 ≤ (nI n) then ((-10) - (nI n), nI n, Z) else ((-10) - (nI n), (nI n) + 1, up2 Z 1 n person)) else (f_S_firstSeatWith k Z (-1), nI n, up2 Z 0 (f_S_firstSeatWith k Z (-1)).toNatClampNeg person))
set_option maxHeartbeats 4000000 in
set_option maxRecDepth 100000 in
theorem c_S_admit (l : Launch) (D : va_G) (cI : ClassId) (a : Nat → Nat) (k : Nat) (n : Nat) (Z : Nat → Nat → Int32) (person : Int32) (hk : k ≤ 20) (hn : n ≤ 60) : zW l D [(cI, .int)] y_S_admit b_S_admit 4 (some .int) 1 22 [.ref (a 0), .int person] (wS a cI (nI k) (nI n) Z) (wS a cI (nI k) ((f_S_admit k n Z person).2.1) ((f_S_admit k n Z person).2.2)) (some (.int (f_S_admit k n Z person).1)) := by
  refine zW.of (by decide) (Nat.le_of_ble_eq_true rfl) ?_
  intro p e s m below meth c0 ls A E hrt hlk hN hK hA G hl
  have hx := E.1
  have hb := E.2.1
  have hl : lv_has ls 4 [(0, .ref (a 0)), (1, .int person)] := hl
  refine lv_aload_n hx hb d_S_admit_0 rfl (lv_at hl 0 rfl) ?_
  refine lv_iconst (v := (-1)) hx hb d_S_admit_1 (by decide) ?_
  refine z_rv (As := [.int (-1)]) (rest := []) E hN hK G.1 hl.1 (c_S_firstSeatWith l D cI a k n Z (-1) hk hn) [0, 1, 2] rfl 0 rfl rfl kz_S_51 rfl ⟨Nat.le_of_ble_eq_true rfl, Nat.le_of_ble_eq_true rfl⟩ rfl (Nat.le_of_ble_eq_true rfl) ⟨Nat.zero_le _, Nat.zero_le _⟩ d_S_admit_2 ?_
  refine lv_istore_n (lv' := [(2, .int (f_S_firstSeatWith k Z (-1))), (0, .ref (a 0)), (1, .int person)]) hx hb d_S_admit_5 rfl hl (by decide) rfl (fun ls hl => ?_)
  refine lv_iload_n hx hb d_S_admit_6 rfl (lv_at hl 0 rfl) ?_
  refine lv_iconst (v := (-1)) hx hb d_S_admit_7 (by decide) ?_
  refine lv_icmp_eq (tgt := 20) hx hb d_S_admit_8 (by decide) (fun c_1 => ?_) (fun c_1 => ?_)
  · refine lv_aload_n hx hb d_S_admit_20 rfl (lv_at hl 1 rfl) ?_
    refine z_get (v := .int (nI n)) E hK G.1 i_S 0 3 rfl rfl (by decide) kf_S_54 rfl d_S_admit_21 ?_
    refine lv_istore_n (lv' := [(3, .int (nI n)), (2, .int (f_S_firstSeatWith k Z (-1))), (0, .ref (a 0)), (1, .int person)]) hx hb d_S_admit_24 rfl hl (by decide) rfl (fun ls hl => ?_)
    refine lv_iload_n hx hb d_S_admit_25 rfl (lv_at hl 0 rfl) ?_
    refine lv_bipush (v := 60) hx hb d_S_admit_26 (by decide) ?_
    refine lv_icmp_ge (tgt := 48) hx hb d_S_admit_28 (by decide) (fun c_2 => ?_) (fun c_2 => ?_)
    · refine lv_bipush (v := (-10)) hx hb d_S_admit_48 (by decide) ?_
      refine lv_iload_n hx hb d_S_admit_50 rfl (lv_at hl 0 rfl) ?_
      refine lv_isub hx hb d_S_admit_51 ?_
      have hf : f_S_admit k n Z person = ((-10) - (nI n), nI n, Z) := by unfold f_S_admit; rw [if_pos c_1, if_pos c_2]
      exact zW.iret E hrt hlk G (by rw [hf]) (by rw [hf]) d_S_admit_52
    · have h60 : n < 60 := nI_nle_lt (by omega) (by decide) c_2
      refine lv_aload_n hx hb d_S_admit_31 rfl (lv_at hl 2 rfl) ?_
      refine z_get (v := .ref (a 2)) E hK G.1 i_S 0 2 rfl rfl (by decide) kf_S_15 rfl d_S_admit_32 ?_
      refine lv_iload_n hx hb d_S_admit_35 rfl (lv_at hl 0 rfl) ?_
      refine lv_iload_n hx hb d_S_admit_36 rfl (lv_at hl 3 rfl) ?_
      refine z_astN (f := Z 1) (j := n) (ws' := wS a cI (nI k) (nI n) (up2 Z 1 n person)) E hK G 2 0 rfl rfl rfl (by omega) (by decide) rfl d_S_admit_37 (fun H locs G => ?_)
      refine lv_aload_n hx hb d_S_admit_38 rfl (lv_at hl 2 rfl) ?_
      refine lv_dup hx hb d_S_admit_39 rfl ?_
      refine z_get (v := .int (nI n)) E hK G.1 i_S 0 3 rfl rfl (by decide) kf_S_54 rfl d_S_admit_40 ?_
      refine lv_iconst (v := 1) hx hb d_S_admit_43 (by decide) ?_
      refine lv_iadd hx hb d_S_admit_44 ?_
      refine z_put (ty := .int) (ws' := wS a cI (nI k) ((nI n) + 1) (up2 Z 1 n person)) E hK G i_S t_S t_S_ok n_S 0 3 rfl rfl (by decide) kf_S_54 rfl rfl rfl rfl (Nat.le_of_ble_eq_true rfl) rfl d_S_admit_45 (fun H locs G => ?_)
      refine lv_bipush (v := (-10)) hx hb d_S_admit_48 (by decide) ?_
      refine lv_iload_n hx hb d_S_admit_50 rfl (lv_at hl 0 rfl) ?_
      refine lv_isub hx hb d_S_admit_51 ?_
      have hf : f_S_admit k n Z person = ((-10) - (nI n), (nI n) + 1, up2 Z 1 n person) := by unfold f_S_admit; rw [if_pos c_1, if_neg c_2]
      exact zW.iret E hrt hlk G (by rw [hf]) (by rw [hf]) d_S_admit_52
  · refine lv_aload_n hx hb d_S_admit_11 rfl (lv_at hl 1 rfl) ?_
    refine z_get (v := .ref (a 1)) E hK G.1 i_S 0 1 rfl rfl (by decide) kf_S_9 rfl d_S_admit_12 ?_
    refine lv_iload_n hx hb d_S_admit_15 rfl (lv_at hl 0 rfl) ?_
    refine lv_iload_n hx hb d_S_admit_16 rfl (lv_at hl 2 rfl) ?_
    refine z_ast (f := Z 0) (ws' := wS a cI (nI k) (nI n) (up2 Z 0 (f_S_firstSeatWith k Z (-1)).toNatClampNeg person)) E hK G 1 0 rfl rfl (fs_in hk c_1) rfl d_S_admit_17 (fun H locs G => ?_)
    refine lv_iload_n hx hb d_S_admit_18 rfl (lv_at hl 0 rfl) ?_
    have hf : f_S_admit k n Z person = (f_S_firstSeatWith k Z (-1), nI n, up2 Z 0 (f_S_firstSeatWith k Z (-1)).toNatClampNeg person) := by unfold f_S_admit; rw [if_neg c_1]
    exact zW.iret E hrt hlk G (by rw [hf]) (by rw [hf]) d_S_admit_19
def f_S_release (k : Nat) (n : Nat) (Z : Nat → Nat → Int32) (person : Int32) : Int32 × Int32 × (Nat → Nat → Int32) := (if (f_S_seatOf k Z person) = (-1) then (100, (f_S_dropFromRow n Z (f_S_placeInRow n Z person)).1, (f_S_dropFromRow n Z (f_S_placeInRow n Z person)).2) else (if (nI n) = 0 then (100, nI n, up2 Z 0 (f_S_seatOf k Z person).toNatClampNeg (-1)) else (((f_S_dropFromRow n (up2 Z 0 (f_S_seatOf k Z person).toNatClampNeg (Z 1 0)) 0).2) 0 (f_S_seatOf k Z person).toNatClampNeg, (f_S_dropFromRow n (up2 Z 0 (f_S_seatOf k Z person).toNatClampNeg (Z 1 0)) 0).1, (f_S_dropFromRow n (up2 Z 0 (f_S_seatOf k Z person).toNatClampNeg (Z 1 0)) 0).2)))
set_option maxHeartbeats 4000000 in
set_option maxRecDepth 100000 in
theorem c_S_release (l : Launch) (D : va_G) (cI : ClassId) (a : Nat → Nat) (k : Nat) (n : Nat) (Z : Nat → Nat → Int32) (person : Int32) (hk : k ≤ 20) (hn : n ≤ 60) : zW l D [(cI, .int)] y_S_release b_S_release 3 (some .int) 3 63 [.ref (a 0), .int person] (wS a cI (nI k) (nI n) Z) (wS a cI (nI k) ((f_S_release k n Z person).2.1) ((f_S_release k n Z person).2.2)) (some (.int (f_S_release k n Z person).1)) := by
  refine zW.of (by decide) (Nat.le_of_ble_eq_true rfl) ?_
  intro p e s m below meth c0 ls A E hrt hlk hN hK hA G hl
  have hx := E.1
  have hb := E.2.1
  have hl : lv_has ls 3 [(0, .ref (a 0)), (1, .int person)] := hl
  refine lv_aload_n hx hb d_S_release_0 rfl (lv_at hl 0 rfl) ?_
  refine lv_iload_n hx hb d_S_release_1 rfl (lv_at hl 1 rfl) ?_
  refine z_rv (As := [.int person]) (rest := []) E hN hK G.1 hl.1 (c_S_seatOf l D cI a k n Z person hk hn) [0, 1, 2] rfl 0 rfl rfl kz_S_37 rfl ⟨Nat.le_of_ble_eq_true rfl, Nat.le_of_ble_eq_true rfl⟩ rfl (Nat.le_of_ble_eq_true rfl) ⟨Nat.zero_le _, Nat.zero_le _⟩ d_S_release_2 ?_
  refine lv_istore_n (lv' := [(2, .int (f_S_seatOf k Z person)), (0, .ref (a 0)), (1, .int person)]) hx hb d_S_release_5 rfl hl (by decide) rfl (fun ls hl => ?_)
  refine lv_iload_n hx hb d_S_release_6 rfl (lv_at hl 0 rfl) ?_
  refine lv_iconst (v := (-1)) hx hb d_S_release_7 (by decide) ?_
  refine lv_icmp_ne (tgt := 23) hx hb d_S_release_8 (by decide) (fun c_1 => ?_) (fun c_1 => ?_)
  · refine lv_aload_n hx hb d_S_release_23 rfl (lv_at hl 1 rfl) ?_
    refine z_get (v := .int (nI n)) E hK G.1 i_S 0 3 rfl rfl (by decide) kf_S_54 rfl d_S_release_24 ?_
    refine lv_if_ne (tgt := 40) hx hb d_S_release_27 (by decide) (fun c_2 => ?_) (fun c_2 => ?_)
    · refine lv_aload_n hx hb d_S_release_40 rfl (lv_at hl 1 rfl) ?_
      refine z_get (v := .ref (a 1)) E hK G.1 i_S 0 1 rfl rfl (by decide) kf_S_9 rfl d_S_release_41 ?_
      refine lv_iload_n hx hb d_S_release_44 rfl (lv_at hl 0 rfl) ?_
      refine lv_aload_n hx hb d_S_release_45 rfl (lv_at hl 1 rfl) ?_
      refine z_get (v := .ref (a 2)) E hK G.1 i_S 0 2 rfl rfl (by decide) kf_S_15 rfl d_S_release_46 ?_
      refine lv_iconst (v := 0) hx hb d_S_release_49 (by decide) ?_
      refine z_aldN (f := Z 1) (j := 0) E hK G.1 2 0 rfl rfl (by decide) (by omega) (by decide) d_S_release_50 ?_
      refine z_ast (f := Z 0) (ws' := wS a cI (nI k) (nI n) (up2 Z 0 (f_S_seatOf k Z person).toNatClampNeg (Z 1 0))) E hK G 1 0 rfl rfl (so_in hk c_1) rfl d_S_release_51 (fun H locs G => ?_)
      refine lv_aload_n hx hb d_S_release_52 rfl (lv_at hl 1 rfl) ?_
      refine lv_iconst (v := 0) hx hb d_S_release_53 (by decide) ?_
      refine z_wv (As := [.int 0]) (rest := []) (wr := ([] : List Nat).filterMap (fun i => (wS a cI (nI k) (nI n) (up2 Z 0 (f_S_seatOf k Z person).toNatClampNeg (Z 1 0)))[i]?)) (ws' := wS a cI (nI k) ((f_S_dropFromRow n (up2 Z 0 (f_S_seatOf k Z person).toNatClampNeg (Z 1 0)) 0).1) ((f_S_dropFromRow n (up2 Z 0 (f_S_seatOf k Z person).toNatClampNeg (Z 1 0)) 0).2)) E hN hK hA G hl.1 (c_S_dropFromRow l D cI a k n (up2 Z 0 (f_S_seatOf k Z person).toNatClampNeg (Z 1 0)) 0 hk hn) [0, 1, 2] [] [0, 1, 2] rfl rfl rfl rfl rfl rfl (by decide) 0 rfl rfl kz_S_57 rfl ⟨Nat.le_of_ble_eq_true rfl, Nat.le_of_ble_eq_true rfl⟩ rfl (Nat.le_of_ble_eq_true rfl) ⟨Nat.zero_le _, Nat.zero_le _⟩ d_S_release_54 (fun H locs G => ?_)
      refine W.eq (g2 := F0 m 57 ls []) rfl ?_
      refine lv_aload_n hx hb d_S_release_57 rfl (lv_at hl 1 rfl) ?_
      refine z_get (v := .ref (a 1)) E hK G.1 i_S 0 1 rfl rfl (by decide) kf_S_9 rfl d_S_release_58 ?_
      refine lv_iload_n hx hb d_S_release_61 rfl (lv_at hl 0 rfl) ?_
      refine z_ald (f := ((f_S_dropFromRow n (up2 Z 0 (f_S_seatOf k Z person).toNatClampNeg (Z 1 0)) 0).2) 0) E hK G.1 1 0 rfl rfl (so_in hk c_1) d_S_release_62 ?_
      have hf : f_S_release k n Z person = (((f_S_dropFromRow n (up2 Z 0 (f_S_seatOf k Z person).toNatClampNeg (Z 1 0)) 0).2) 0 (f_S_seatOf k Z person).toNatClampNeg, (f_S_dropFromRow n (up2 Z 0 (f_S_seatOf k Z person).toNatClampNeg (Z 1 0)) 0).1, (f_S_dropFromRow n (up2 Z 0 (f_S_seatOf k Z person).toNatClampNeg (Z 1 0)) 0).2) := by unfold f_S_release; rw [if_neg c_1, if_neg c_2]
      exact zW.iret E hrt hlk G (by rw [hf]) (by rw [hf]) d_S_release_63
    · refine lv_aload_n hx hb d_S_release_30 rfl (lv_at hl 1 rfl) ?_
      refine z_get (v := .ref (a 1)) E hK G.1 i_S 0 1 rfl rfl (by decide) kf_S_9 rfl d_S_release_31 ?_
      refine lv_iload_n hx hb d_S_release_34 rfl (lv_at hl 0 rfl) ?_
      refine lv_iconst (v := (-1)) hx hb d_S_release_35 (by decide) ?_
      refine z_ast (f := Z 0) (ws' := wS a cI (nI k) (nI n) (up2 Z 0 (f_S_seatOf k Z person).toNatClampNeg (-1))) E hK G 1 0 rfl rfl (so_in hk c_1) rfl d_S_release_36 (fun H locs G => ?_)
      refine lv_bipush (v := 100) hx hb d_S_release_37 (by decide) ?_
      have hf : f_S_release k n Z person = (100, nI n, up2 Z 0 (f_S_seatOf k Z person).toNatClampNeg (-1)) := by unfold f_S_release; rw [if_neg c_1, if_pos c_2]
      exact zW.iret E hrt hlk G (by rw [hf]) (by rw [hf]) d_S_release_39
  · refine lv_aload_n hx hb d_S_release_11 rfl (lv_at hl 1 rfl) ?_
    refine lv_aload_n hx hb d_S_release_12 rfl (lv_at hl 1 rfl) ?_
    refine lv_iload_n hx hb d_S_release_13 rfl (lv_at hl 2 rfl) ?_
    refine z_rv (As := [.int person]) (rest := [.ref (a 0)]) E hN hK G.1 hl.1 (c_S_placeInRow l D cI a k n Z person hk hn) [0, 1, 2] rfl 0 rfl rfl kz_S_45 rfl ⟨Nat.le_of_ble_eq_true rfl, Nat.le_of_ble_eq_true rfl⟩ rfl (Nat.le_of_ble_eq_true rfl) ⟨Nat.zero_le _, Nat.zero_le _⟩ d_S_release_14 ?_
    refine z_wv (As := [.int (f_S_placeInRow n Z person)]) (rest := []) (wr := ([] : List Nat).filterMap (fun i => (wS a cI (nI k) (nI n) Z)[i]?)) (ws' := wS a cI (nI k) ((f_S_dropFromRow n Z (f_S_placeInRow n Z person)).1) ((f_S_dropFromRow n Z (f_S_placeInRow n Z person)).2)) E hN hK hA G hl.1 (c_S_dropFromRow l D cI a k n Z (f_S_placeInRow n Z person) hk hn) [0, 1, 2] [] [0, 1, 2] rfl rfl rfl rfl rfl rfl (by decide) 0 rfl rfl kz_S_57 rfl ⟨Nat.le_of_ble_eq_true rfl, Nat.le_of_ble_eq_true rfl⟩ rfl (Nat.le_of_ble_eq_true rfl) ⟨Nat.zero_le _, Nat.zero_le _⟩ d_S_release_17 (fun H locs G => ?_)
    refine W.eq (g2 := F0 m 20 ls []) rfl ?_
    refine lv_bipush (v := 100) hx hb d_S_release_20 (by decide) ?_
    have hf : f_S_release k n Z person = (100, (f_S_dropFromRow n Z (f_S_placeInRow n Z person)).1, (f_S_dropFromRow n Z (f_S_placeInRow n Z person)).2) := by unfold f_S_release; rw [if_pos c_1]
    exact zW.iret E hrt hlk G (by rw [hf]) (by rw [hf]) d_S_release_22
def f_S_clear (Z : Nat → Nat → Int32)  : Int32 × (Nat → Nat → Int32) := (0, fill2 Z 0 20 (-1))
set_option maxHeartbeats 4000000 in
set_option maxRecDepth 100000 in
theorem c_S_clear (l : Launch) (D : va_G) (cI : ClassId) (a : Nat → Nat) (k : Nat) (n : Nat) (Z : Nat → Nat → Int32)  (hk : k ≤ 20) (hn : n ≤ 60) : zW l D [(cI, .int)] y_S_clear b_S_clear 1 none 1 23 [.ref (a 0)] (wS a cI (nI k) (nI n) Z) (wS a cI (nI k) ((f_S_clear Z).1) ((f_S_clear Z).2)) none := by
  refine zW.of (by decide) (Nat.le_of_ble_eq_true rfl) ?_
  intro p e s m below meth c0 ls A E hrt hlk hN hK hA G hl
  have hx := E.1
  have hb := E.2.1
  have hl : lv_has ls 1 [(0, .ref (a 0))] := hl
  refine lv_aload_n hx hb d_S_clear_0 rfl (lv_at hl 0 rfl) ?_
  refine z_get (v := .ref (a 1)) E hK G.1 i_S 0 1 rfl rfl (by decide) kf_S_9 rfl d_S_clear_1 ?_
  refine lv_iconst (v := (-1)) hx hb d_S_clear_4 (by decide) ?_
  refine z_ws (As := [.ref (a 1), .int (-1)]) (rest := []) (wr := ([0, 2] : List Nat).filterMap (fun i => (wS a cI (nI k) (nI n) Z)[i]?)) (ws' := wS a cI (nI k) (nI n) (fill2 Z 0 20 (-1))) E hN hK hA G hl.1 (c_fill l D cI (a 1) 20 (Z 0) (-1) (by decide)) [1] [0, 2] [0, 2, 1] rfl rfl rfl rfl rfl rfl (by decide) kz_S_31 rfl ⟨Nat.le_of_ble_eq_true rfl, Nat.le_of_ble_eq_true rfl⟩ rfl (Nat.le_of_ble_eq_true rfl) ⟨Nat.zero_le _, Nat.zero_le _⟩ d_S_clear_5 (fun H locs G => ?_)
  have G : zG D A s H locs (wS a cI (nI k) (nI n) (fill2 Z 0 20 (-1))) := G
  refine lv_aload_n hx hb d_S_clear_8 rfl (lv_at hl 0 rfl) ?_
  refine lv_iconst (v := 0) hx hb d_S_clear_9 (by decide) ?_
  refine z_put (ty := .int) (ws' := wS a cI (nI k) 0 (fill2 Z 0 20 (-1))) E hK G i_S t_S t_S_ok n_S 0 3 rfl rfl (by decide) kf_S_54 rfl rfl rfl rfl (Nat.le_of_ble_eq_true rfl) rfl d_S_clear_10 (fun H locs G => ?_)
  have hf : f_S_clear Z = (0, fill2 Z 0 20 (-1)) := by rfl
  exact zW.vret E hrt hlk G (by rw [hf]) (by rfl) d_S_clear_13
end
section
def f_R_copiedOn (P : Nat → Nat → Int32) (person : Int32) (day : Int32) : Int32 := (if (f_isPerson person) = 0 then 0 else (if (P 3 person.toNatClampNeg) = day then (P 4 person.toNatClampNeg) else 0))
set_option maxHeartbeats 4000000 in
set_option maxRecDepth 100000 in
theorem c_R_copiedOn (l : Launch) (D : va_G) (cI : ClassId) (a : Nat → Nat) (P : Nat → Nat → Int32) (person : Int32) (day : Int32)  : zR l D [(cI, .int)] y_R_copiedOn b_R_copiedOn 3 (some .int) 2 42 [.ref (a 0), .int person, .int day] (wR a cI P) (f_R_copiedOn P person day) := by
  refine zR.of (by decide) (Nat.le_of_ble_eq_true rfl) ?_
  intro p e s m below meth c0 ls E hrt hlk hN hK hP hl
  have hx := E.1
  have hb := E.2.1
  have hl : lv_has ls 3 [(0, .ref (a 0)), (1, .int person), (2, .int day)] := hl
  refine lv_iload_n hx hb d_R_copiedOn_0 rfl (lv_at hl 1 rfl) ?_
  refine z_rn (As := [.int person]) (rest := []) E hN hK hl.1 (c_isPerson l D [(cI, .int)] person) kz_R_33 rfl ⟨Nat.le_of_ble_eq_true rfl, Nat.le_of_ble_eq_true rfl⟩ rfl (Nat.le_of_ble_eq_true rfl) ⟨Nat.zero_le _, Nat.zero_le _⟩ d_R_copiedOn_1 ?_
  refine lv_if_eq (tgt := 26) hx hb d_R_copiedOn_4 (by decide) (fun c_1 => ?_) (fun c_1 => ?_)
  · refine lv_iconst (v := 0) hx hb d_R_copiedOn_26 (by decide) ?_
    exact zR.iret E hrt hlk (by unfold f_R_copiedOn; rw [if_pos c_1]) d_R_copiedOn_27
  · refine lv_aload_n hx hb d_R_copiedOn_7 rfl (lv_at hl 0 rfl) ?_
    refine z_get (v := .ref (a 4)) E hK hP i_R 0 3 rfl rfl (by decide) kf_R_21 rfl d_R_copiedOn_8 ?_
    refine lv_iload_n hx hb d_R_copiedOn_11 rfl (lv_at hl 1 rfl) ?_
    refine z_ald (f := P 3) E hK hP 4 0 rfl rfl (in_person c_1) d_R_copiedOn_12 ?_
    refine lv_iload_n hx hb d_R_copiedOn_13 rfl (lv_at hl 2 rfl) ?_
    refine lv_icmp_ne (tgt := 26) hx hb d_R_copiedOn_14 (by decide) (fun c_2 => ?_) (fun c_2 => ?_)
    · refine lv_iconst (v := 0) hx hb d_R_copiedOn_26 (by decide) ?_
      exact zR.iret E hrt hlk (by unfold f_R_copiedOn; rw [if_neg c_1, if_neg c_2]) d_R_copiedOn_27
    · refine lv_aload_n hx hb d_R_copiedOn_17 rfl (lv_at hl 0 rfl) ?_
      refine z_get (v := .ref (a 5)) E hK hP i_R 0 4 rfl rfl (by decide) kf_R_24 rfl d_R_copiedOn_18 ?_
      refine lv_iload_n hx hb d_R_copiedOn_21 rfl (lv_at hl 1 rfl) ?_
      refine z_ald (f := P 4) E hK hP 5 0 rfl rfl (in_person c_1) d_R_copiedOn_22 ?_
      refine lv_goto (tgt := 27) hx hb d_R_copiedOn_23 (by decide) ?_
      exact zR.iret E hrt hlk (by unfold f_R_copiedOn; rw [if_neg c_1, if_pos c_2]) d_R_copiedOn_27
def f_R_rightOf (P : Nat → Nat → Int32) (person : Int32) : Int32 := (if (f_isPerson person) = 0 then 0 else (P 0 person.toNatClampNeg))
set_option maxHeartbeats 4000000 in
set_option maxRecDepth 100000 in
theorem c_R_rightOf (l : Launch) (D : va_G) (cI : ClassId) (a : Nat → Nat) (P : Nat → Nat → Int32) (person : Int32)  : zR l D [(cI, .int)] y_R_rightOf b_R_rightOf 2 (some .int) 2 42 [.ref (a 0), .int person] (wR a cI P) (f_R_rightOf P person) := by
  refine zR.of (by decide) (Nat.le_of_ble_eq_true rfl) ?_
  intro p e s m below meth c0 ls E hrt hlk hN hK hP hl
  have hx := E.1
  have hb := E.2.1
  have hl : lv_has ls 2 [(0, .ref (a 0)), (1, .int person)] := hl
  refine lv_iload_n hx hb d_R_rightOf_0 rfl (lv_at hl 1 rfl) ?_
  refine z_rn (As := [.int person]) (rest := []) E hN hK hl.1 (c_isPerson l D [(cI, .int)] person) kz_R_33 rfl ⟨Nat.le_of_ble_eq_true rfl, Nat.le_of_ble_eq_true rfl⟩ rfl (Nat.le_of_ble_eq_true rfl) ⟨Nat.zero_le _, Nat.zero_le _⟩ d_R_rightOf_1 ?_
  refine lv_if_eq (tgt := 16) hx hb d_R_rightOf_4 (by decide) (fun c_1 => ?_) (fun c_1 => ?_)
  · refine lv_iconst (v := 0) hx hb d_R_rightOf_16 (by decide) ?_
    exact zR.iret E hrt hlk (by unfold f_R_rightOf; rw [if_pos c_1]) d_R_rightOf_17
  · refine lv_aload_n hx hb d_R_rightOf_7 rfl (lv_at hl 0 rfl) ?_
    refine z_get (v := .ref (a 1)) E hK hP i_R 0 0 rfl rfl (by decide) kf_R_9 rfl d_R_rightOf_8 ?_
    refine lv_iload_n hx hb d_R_rightOf_11 rfl (lv_at hl 1 rfl) ?_
    refine z_ald (f := P 0) E hK hP 1 0 rfl rfl (in_person c_1) d_R_rightOf_12 ?_
    refine lv_goto (tgt := 17) hx hb d_R_rightOf_13 (by decide) ?_
    exact zR.iret E hrt hlk (by unfold f_R_rightOf; rw [if_neg c_1]) d_R_rightOf_17
def f_R_requestLimitOf (P : Nat → Nat → Int32) (person : Int32) : Int32 := (if (f_isPerson person) = 0 then 0 else (P 1 person.toNatClampNeg))
set_option maxHeartbeats 4000000 in
set_option maxRecDepth 100000 in
theorem c_R_requestLimitOf (l : Launch) (D : va_G) (cI : ClassId) (a : Nat → Nat) (P : Nat → Nat → Int32) (person : Int32)  : zR l D [(cI, .int)] y_R_requestLimitOf b_R_requestLimitOf 2 (some .int) 2 42 [.ref (a 0), .int person] (wR a cI P) (f_R_requestLimitOf P person) := by
  refine zR.of (by decide) (Nat.le_of_ble_eq_true rfl) ?_
  intro p e s m below meth c0 ls E hrt hlk hN hK hP hl
  have hx := E.1
  have hb := E.2.1
  have hl : lv_has ls 2 [(0, .ref (a 0)), (1, .int person)] := hl
  refine lv_iload_n hx hb d_R_requestLimitOf_0 rfl (lv_at hl 1 rfl) ?_
  refine z_rn (As := [.int person]) (rest := []) E hN hK hl.1 (c_isPerson l D [(cI, .int)] person) kz_R_33 rfl ⟨Nat.le_of_ble_eq_true rfl, Nat.le_of_ble_eq_true rfl⟩ rfl (Nat.le_of_ble_eq_true rfl) ⟨Nat.zero_le _, Nat.zero_le _⟩ d_R_requestLimitOf_1 ?_
  refine lv_if_eq (tgt := 16) hx hb d_R_requestLimitOf_4 (by decide) (fun c_1 => ?_) (fun c_1 => ?_)
  · refine lv_iconst (v := 0) hx hb d_R_requestLimitOf_16 (by decide) ?_
    exact zR.iret E hrt hlk (by unfold f_R_requestLimitOf; rw [if_pos c_1]) d_R_requestLimitOf_17
  · refine lv_aload_n hx hb d_R_requestLimitOf_7 rfl (lv_at hl 0 rfl) ?_
    refine z_get (v := .ref (a 2)) E hK hP i_R 0 1 rfl rfl (by decide) kf_R_15 rfl d_R_requestLimitOf_8 ?_
    refine lv_iload_n hx hb d_R_requestLimitOf_11 rfl (lv_at hl 1 rfl) ?_
    refine z_ald (f := P 1) E hK hP 2 0 rfl rfl (in_person c_1) d_R_requestLimitOf_12 ?_
    refine lv_goto (tgt := 17) hx hb d_R_requestLimitOf_13 (by decide) ?_
    exact zR.iret E hrt hlk (by unfold f_R_requestLimitOf; rw [if_neg c_1]) d_R_requestLimitOf_17
def f_R_copiedLatelyBy (P : Nat → Nat → Int32) (person : Int32) : Int32 := (if (f_isPerson person) = 0 then 0 else (P 4 person.toNatClampNeg))
set_option maxHeartbeats 4000000 in
set_option maxRecDepth 100000 in
theorem c_R_copiedLatelyBy (l : Launch) (D : va_G) (cI : ClassId) (a : Nat → Nat) (P : Nat → Nat → Int32) (person : Int32)  : zR l D [(cI, .int)] y_R_copiedLatelyBy b_R_copiedLatelyBy 2 (some .int) 2 42 [.ref (a 0), .int person] (wR a cI P) (f_R_copiedLatelyBy P person) := by
  refine zR.of (by decide) (Nat.le_of_ble_eq_true rfl) ?_
  intro p e s m below meth c0 ls E hrt hlk hN hK hP hl
  have hx := E.1
  have hb := E.2.1
  have hl : lv_has ls 2 [(0, .ref (a 0)), (1, .int person)] := hl
  refine lv_iload_n hx hb d_R_copiedLatelyBy_0 rfl (lv_at hl 1 rfl) ?_
  refine z_rn (As := [.int person]) (rest := []) E hN hK hl.1 (c_isPerson l D [(cI, .int)] person) kz_R_33 rfl ⟨Nat.le_of_ble_eq_true rfl, Nat.le_of_ble_eq_true rfl⟩ rfl (Nat.le_of_ble_eq_true rfl) ⟨Nat.zero_le _, Nat.zero_le _⟩ d_R_copiedLatelyBy_1 ?_
  refine lv_if_eq (tgt := 16) hx hb d_R_copiedLatelyBy_4 (by decide) (fun c_1 => ?_) (fun c_1 => ?_)
  · refine lv_iconst (v := 0) hx hb d_R_copiedLatelyBy_16 (by decide) ?_
    exact zR.iret E hrt hlk (by unfold f_R_copiedLatelyBy; rw [if_pos c_1]) d_R_copiedLatelyBy_17
  · refine lv_aload_n hx hb d_R_copiedLatelyBy_7 rfl (lv_at hl 0 rfl) ?_
    refine z_get (v := .ref (a 5)) E hK hP i_R 0 4 rfl rfl (by decide) kf_R_24 rfl d_R_copiedLatelyBy_8 ?_
    refine lv_iload_n hx hb d_R_copiedLatelyBy_11 rfl (lv_at hl 1 rfl) ?_
    refine z_ald (f := P 4) E hK hP 5 0 rfl rfl (in_person c_1) d_R_copiedLatelyBy_12 ?_
    refine lv_goto (tgt := 17) hx hb d_R_copiedLatelyBy_13 (by decide) ?_
    exact zR.iret E hrt hlk (by unfold f_R_copiedLatelyBy; rw [if_neg c_1]) d_R_copiedLatelyBy_17
def f_R_pagesLeft (P : Nat → Nat → Int32) (person : Int32) (day : Int32) : Int32 := (if (f_isPerson person) = 0 then 0 else ((P 2 person.toNatClampNeg) - (f_R_copiedOn P person day)))
set_option maxHeartbeats 4000000 in
set_option maxRecDepth 100000 in
theorem c_R_pagesLeft (l : Launch) (D : va_G) (cI : ClassId) (a : Nat → Nat) (P : Nat → Nat → Int32) (person : Int32) (day : Int32)  : zR l D [(cI, .int)] y_R_pagesLeft b_R_pagesLeft 3 (some .int) 3 64 [.ref (a 0), .int person, .int day] (wR a cI P) (f_R_pagesLeft P person day) := by
  refine zR.of (by decide) (Nat.le_of_ble_eq_true rfl) ?_
  intro p e s m below meth c0 ls E hrt hlk hN hK hP hl
  have hx := E.1
  have hb := E.2.1
  have hl : lv_has ls 3 [(0, .ref (a 0)), (1, .int person), (2, .int day)] := hl
  refine lv_iload_n hx hb d_R_pagesLeft_0 rfl (lv_at hl 1 rfl) ?_
  refine z_rn (As := [.int person]) (rest := []) E hN hK hl.1 (c_isPerson l D [(cI, .int)] person) kz_R_33 rfl ⟨Nat.le_of_ble_eq_true rfl, Nat.le_of_ble_eq_true rfl⟩ rfl (Nat.le_of_ble_eq_true rfl) ⟨Nat.zero_le _, Nat.zero_le _⟩ d_R_pagesLeft_1 ?_
  refine lv_if_eq (tgt := 23) hx hb d_R_pagesLeft_4 (by decide) (fun c_1 => ?_) (fun c_1 => ?_)
  · refine lv_iconst (v := 0) hx hb d_R_pagesLeft_23 (by decide) ?_
    exact zR.iret E hrt hlk (by unfold f_R_pagesLeft; rw [if_pos c_1]) d_R_pagesLeft_24
  · refine lv_aload_n hx hb d_R_pagesLeft_7 rfl (lv_at hl 0 rfl) ?_
    refine z_get (v := .ref (a 3)) E hK hP i_R 0 2 rfl rfl (by decide) kf_R_18 rfl d_R_pagesLeft_8 ?_
    refine lv_iload_n hx hb d_R_pagesLeft_11 rfl (lv_at hl 1 rfl) ?_
    refine z_ald (f := P 2) E hK hP 3 0 rfl rfl (in_person c_1) d_R_pagesLeft_12 ?_
    refine lv_aload_n hx hb d_R_pagesLeft_13 rfl (lv_at hl 0 rfl) ?_
    refine lv_iload_n hx hb d_R_pagesLeft_14 rfl (lv_at hl 1 rfl) ?_
    refine lv_iload_n hx hb d_R_pagesLeft_15 rfl (lv_at hl 2 rfl) ?_
    refine z_rv (As := [.int person, .int day]) (rest := [.int (P 2 person.toNatClampNeg)]) E hN hK hP hl.1 (c_R_copiedOn l D cI a P person day ) [0, 1, 2, 3, 4, 5] rfl 0 rfl rfl kz_R_37 rfl ⟨Nat.le_of_ble_eq_true rfl, Nat.le_of_ble_eq_true rfl⟩ rfl (Nat.le_of_ble_eq_true rfl) ⟨Nat.zero_le _, Nat.zero_le _⟩ d_R_pagesLeft_16 ?_
    refine lv_isub hx hb d_R_pagesLeft_19 ?_
    refine lv_goto (tgt := 24) hx hb d_R_pagesLeft_20 (by decide) ?_
    exact zR.iret E hrt hlk (by unfold f_R_pagesLeft; rw [if_neg c_1]) d_R_pagesLeft_24
def f_R_setRight (P : Nat → Nat → Int32) (person : Int32) (right : Int32) : (Nat → Nat → Int32) := (if (f_isPerson person) = 0 then P else (up2 P 0 person.toNatClampNeg right))
set_option maxHeartbeats 4000000 in
set_option maxRecDepth 100000 in
theorem c_R_setRight (l : Launch) (D : va_G) (cI : ClassId) (a : Nat → Nat) (P : Nat → Nat → Int32) (person : Int32) (right : Int32)  : zW l D [(cI, .int)] y_R_setRight b_R_setRight 3 none 2 42 [.ref (a 0), .int person, .int right] (wR a cI P) (wR a cI (f_R_setRight P person right)) none := by
  refine zW.of (by decide) (Nat.le_of_ble_eq_true rfl) ?_
  intro p e s m below meth c0 ls A E hrt hlk hN hK hA G hl
  have hx := E.1
  have hb := E.2.1
  have hl : lv_has ls 3 [(0, .ref (a 0)), (1, .int person), (2, .int right)] := hl
  refine lv_iload_n hx hb d_R_setRight_0 rfl (lv_at hl 1 rfl) ?_
  refine z_rn (As := [.int person]) (rest := []) E hN hK hl.1 (c_isPerson l D [(cI, .int)] person) kz_R_33 rfl ⟨Nat.le_of_ble_eq_true rfl, Nat.le_of_ble_eq_true rfl⟩ rfl (Nat.le_of_ble_eq_true rfl) ⟨Nat.zero_le _, Nat.zero_le _⟩ d_R_setRight_1 ?_
  refine lv_if_eq (tgt := 14) hx hb d_R_setRight_4 (by decide) (fun c_1 => ?_) (fun c_1 => ?_)
  · have hf : f_R_setRight P person right = P := by unfold f_R_setRight; rw [if_pos c_1]
    exact zW.vret E hrt hlk G (by rw [hf]) (by rfl) d_R_setRight_14
  · refine lv_aload_n hx hb d_R_setRight_7 rfl (lv_at hl 0 rfl) ?_
    refine z_get (v := .ref (a 1)) E hK G.1 i_R 0 0 rfl rfl (by decide) kf_R_9 rfl d_R_setRight_8 ?_
    refine lv_iload_n hx hb d_R_setRight_11 rfl (lv_at hl 1 rfl) ?_
    refine lv_iload_n hx hb d_R_setRight_12 rfl (lv_at hl 2 rfl) ?_
    refine z_ast (f := P 0) (ws' := wR a cI (up2 P 0 person.toNatClampNeg right)) E hK G 1 0 rfl rfl (in_person c_1) rfl d_R_setRight_13 (fun H locs G => ?_)
    have hf : f_R_setRight P person right = (up2 P 0 person.toNatClampNeg right) := by unfold f_R_setRight; rw [if_neg c_1]
    exact zW.vret E hrt hlk G (by rw [hf]) (by rfl) d_R_setRight_14
def f_R_setLimits (P : Nat → Nat → Int32) (person : Int32) (requestLimit : Int32) (pageLimit : Int32) : (Nat → Nat → Int32) := (if (f_isPerson person) = 0 then P else (up2 (up2 P 1 person.toNatClampNeg requestLimit) 2 person.toNatClampNeg pageLimit))
set_option maxHeartbeats 4000000 in
set_option maxRecDepth 100000 in
theorem c_R_setLimits (l : Launch) (D : va_G) (cI : ClassId) (a : Nat → Nat) (P : Nat → Nat → Int32) (person : Int32) (requestLimit : Int32) (pageLimit : Int32)  : zW l D [(cI, .int)] y_R_setLimits b_R_setLimits 4 none 2 42 [.ref (a 0), .int person, .int requestLimit, .int pageLimit] (wR a cI P) (wR a cI (f_R_setLimits P person requestLimit pageLimit)) none := by
  refine zW.of (by decide) (Nat.le_of_ble_eq_true rfl) ?_
  intro p e s m below meth c0 ls A E hrt hlk hN hK hA G hl
  have hx := E.1
  have hb := E.2.1
  have hl : lv_has ls 4 [(0, .ref (a 0)), (1, .int person), (2, .int requestLimit), (3, .int pageLimit)] := hl
  refine lv_iload_n hx hb d_R_setLimits_0 rfl (lv_at hl 1 rfl) ?_
  refine z_rn (As := [.int person]) (rest := []) E hN hK hl.1 (c_isPerson l D [(cI, .int)] person) kz_R_33 rfl ⟨Nat.le_of_ble_eq_true rfl, Nat.le_of_ble_eq_true rfl⟩ rfl (Nat.le_of_ble_eq_true rfl) ⟨Nat.zero_le _, Nat.zero_le _⟩ d_R_setLimits_1 ?_
  refine lv_if_eq (tgt := 21) hx hb d_R_setLimits_4 (by decide) (fun c_1 => ?_) (fun c_1 => ?_)
  · have hf : f_R_setLimits P person requestLimit pageLimit = P := by unfold f_R_setLimits; rw [if_pos c_1]
    exact zW.vret E hrt hlk G (by rw [hf]) (by rfl) d_R_setLimits_21
  · refine lv_aload_n hx hb d_R_setLimits_7 rfl (lv_at hl 0 rfl) ?_
    refine z_get (v := .ref (a 2)) E hK G.1 i_R 0 1 rfl rfl (by decide) kf_R_15 rfl d_R_setLimits_8 ?_
    refine lv_iload_n hx hb d_R_setLimits_11 rfl (lv_at hl 1 rfl) ?_
    refine lv_iload_n hx hb d_R_setLimits_12 rfl (lv_at hl 2 rfl) ?_
    refine z_ast (f := P 1) (ws' := wR a cI (up2 P 1 person.toNatClampNeg requestLimit)) E hK G 2 0 rfl rfl (in_person c_1) rfl d_R_setLimits_13 (fun H locs G => ?_)
    refine lv_aload_n hx hb d_R_setLimits_14 rfl (lv_at hl 0 rfl) ?_
    refine z_get (v := .ref (a 3)) E hK G.1 i_R 0 2 rfl rfl (by decide) kf_R_18 rfl d_R_setLimits_15 ?_
    refine lv_iload_n hx hb d_R_setLimits_18 rfl (lv_at hl 1 rfl) ?_
    refine lv_iload_n hx hb d_R_setLimits_19 rfl (lv_at hl 3 rfl) ?_
    refine z_ast (f := (up2 P 1 person.toNatClampNeg requestLimit) 2) (ws' := wR a cI (up2 (up2 P 1 person.toNatClampNeg requestLimit) 2 person.toNatClampNeg pageLimit)) E hK G 3 0 rfl rfl (in_person c_1) rfl d_R_setLimits_20 (fun H locs G => ?_)
    have hf : f_R_setLimits P person requestLimit pageLimit = (up2 (up2 P 1 person.toNatClampNeg requestLimit) 2 person.toNatClampNeg pageLimit) := by unfold f_R_setLimits; rw [if_neg c_1]
    exact zW.vret E hrt hlk G (by rw [hf]) (by rfl) d_R_setLimits_21
def f_R_addCopied (P : Nat → Nat → Int32) (person : Int32) (day : Int32) (pages : Int32) : (Nat → Nat → Int32) := (if (f_isPerson person) = 0 then P else (up2 (up2 P 4 person.toNatClampNeg ((f_R_copiedOn P person day) + pages)) 3 person.toNatClampNeg day))
set_option maxHeartbeats 4000000 in
set_option maxRecDepth 100000 in
theorem c_R_addCopied (l : Launch) (D : va_G) (cI : ClassId) (a : Nat → Nat) (P : Nat → Nat → Int32) (person : Int32) (day : Int32) (pages : Int32)  : zW l D [(cI, .int)] y_R_addCopied b_R_addCopied 4 none 3 64 [.ref (a 0), .int person, .int day, .int pages] (wR a cI P) (wR a cI (f_R_addCopied P person day pages)) none := by
  refine zW.of (by decide) (Nat.le_of_ble_eq_true rfl) ?_
  intro p e s m below meth c0 ls A E hrt hlk hN hK hA G hl
  have hx := E.1
  have hb := E.2.1
  have hl : lv_has ls 4 [(0, .ref (a 0)), (1, .int person), (2, .int day), (3, .int pages)] := hl
  refine lv_iload_n hx hb d_R_addCopied_0 rfl (lv_at hl 1 rfl) ?_
  refine z_rn (As := [.int person]) (rest := []) E hN hK hl.1 (c_isPerson l D [(cI, .int)] person) kz_R_33 rfl ⟨Nat.le_of_ble_eq_true rfl, Nat.le_of_ble_eq_true rfl⟩ rfl (Nat.le_of_ble_eq_true rfl) ⟨Nat.zero_le _, Nat.zero_le _⟩ d_R_addCopied_1 ?_
  refine lv_if_eq (tgt := 28) hx hb d_R_addCopied_4 (by decide) (fun c_1 => ?_) (fun c_1 => ?_)
  · have hf : f_R_addCopied P person day pages = P := by unfold f_R_addCopied; rw [if_pos c_1]
    exact zW.vret E hrt hlk G (by rw [hf]) (by rfl) d_R_addCopied_28
  · refine lv_aload_n hx hb d_R_addCopied_7 rfl (lv_at hl 0 rfl) ?_
    refine z_get (v := .ref (a 5)) E hK G.1 i_R 0 4 rfl rfl (by decide) kf_R_24 rfl d_R_addCopied_8 ?_
    refine lv_iload_n hx hb d_R_addCopied_11 rfl (lv_at hl 1 rfl) ?_
    refine lv_aload_n hx hb d_R_addCopied_12 rfl (lv_at hl 0 rfl) ?_
    refine lv_iload_n hx hb d_R_addCopied_13 rfl (lv_at hl 1 rfl) ?_
    refine lv_iload_n hx hb d_R_addCopied_14 rfl (lv_at hl 2 rfl) ?_
    refine z_rv (As := [.int person, .int day]) (rest := [.int person, .ref (a 5)]) E hN hK G.1 hl.1 (c_R_copiedOn l D cI a P person day ) [0, 1, 2, 3, 4, 5] rfl 0 rfl rfl kz_R_37 rfl ⟨Nat.le_of_ble_eq_true rfl, Nat.le_of_ble_eq_true rfl⟩ rfl (Nat.le_of_ble_eq_true rfl) ⟨Nat.zero_le _, Nat.zero_le _⟩ d_R_addCopied_15 ?_
    refine lv_iload_n hx hb d_R_addCopied_18 rfl (lv_at hl 3 rfl) ?_
    refine lv_iadd hx hb d_R_addCopied_19 ?_
    refine z_ast (f := P 4) (ws' := wR a cI (up2 P 4 person.toNatClampNeg ((f_R_copiedOn P person day) + pages))) E hK G 5 0 rfl rfl (in_person c_1) rfl d_R_addCopied_20 (fun H locs G => ?_)
    refine lv_aload_n hx hb d_R_addCopied_21 rfl (lv_at hl 0 rfl) ?_
    refine z_get (v := .ref (a 4)) E hK G.1 i_R 0 3 rfl rfl (by decide) kf_R_21 rfl d_R_addCopied_22 ?_
    refine lv_iload_n hx hb d_R_addCopied_25 rfl (lv_at hl 1 rfl) ?_
    refine lv_iload_n hx hb d_R_addCopied_26 rfl (lv_at hl 2 rfl) ?_
    refine z_ast (f := (up2 P 4 person.toNatClampNeg ((f_R_copiedOn P person day) + pages)) 3) (ws' := wR a cI (up2 (up2 P 4 person.toNatClampNeg ((f_R_copiedOn P person day) + pages)) 3 person.toNatClampNeg day)) E hK G 4 0 rfl rfl (in_person c_1) rfl d_R_addCopied_27 (fun H locs G => ?_)
    have hf : f_R_addCopied P person day pages = (up2 (up2 P 4 person.toNatClampNeg ((f_R_copiedOn P person day) + pages)) 3 person.toNatClampNeg day) := by unfold f_R_addCopied; rw [if_neg c_1]
    exact zW.vret E hrt hlk G (by rw [hf]) (by rfl) d_R_addCopied_28
def f_H_placeOf (U : Nat → Nat → Int32) (unit : Int32) : Int32 := (if (f_isUnit unit) = 0 then (-1) else (U 0 unit.toNatClampNeg))
set_option maxHeartbeats 4000000 in
set_option maxRecDepth 100000 in
theorem c_H_placeOf (l : Launch) (D : va_G) (cI : ClassId) (a : Nat → Nat) (U : Nat → Nat → Int32) (unit : Int32)  : zR l D [(cI, .int)] y_H_placeOf b_H_placeOf 2 (some .int) 2 42 [.ref (a 0), .int unit] (wH a cI U) (f_H_placeOf U unit) := by
  refine zR.of (by decide) (Nat.le_of_ble_eq_true rfl) ?_
  intro p e s m below meth c0 ls E hrt hlk hN hK hP hl
  have hx := E.1
  have hb := E.2.1
  have hl : lv_has ls 2 [(0, .ref (a 0)), (1, .int unit)] := hl
  refine lv_iload_n hx hb d_H_placeOf_0 rfl (lv_at hl 1 rfl) ?_
  refine z_rn (As := [.int unit]) (rest := []) E hN hK hl.1 (c_isUnit l D [(cI, .int)] unit) kz_H_30 rfl ⟨Nat.le_of_ble_eq_true rfl, Nat.le_of_ble_eq_true rfl⟩ rfl (Nat.le_of_ble_eq_true rfl) ⟨Nat.zero_le _, Nat.zero_le _⟩ d_H_placeOf_1 ?_
  refine lv_if_eq (tgt := 16) hx hb d_H_placeOf_4 (by decide) (fun c_1 => ?_) (fun c_1 => ?_)
  · refine lv_iconst (v := (-1)) hx hb d_H_placeOf_16 (by decide) ?_
    exact zR.iret E hrt hlk (by unfold f_H_placeOf; rw [if_pos c_1]) d_H_placeOf_17
  · refine lv_aload_n hx hb d_H_placeOf_7 rfl (lv_at hl 0 rfl) ?_
    refine z_get (v := .ref (a 1)) E hK hP i_H 0 0 rfl rfl (by decide) kf_H_9 rfl d_H_placeOf_8 ?_
    refine lv_iload_n hx hb d_H_placeOf_11 rfl (lv_at hl 1 rfl) ?_
    refine z_ald (f := U 0) E hK hP 1 0 rfl rfl (in_unit c_1) d_H_placeOf_12 ?_
    refine lv_goto (tgt := 17) hx hb d_H_placeOf_13 (by decide) ?_
    exact zR.iret E hrt hlk (by unfold f_H_placeOf; rw [if_neg c_1]) d_H_placeOf_17
def f_H_conditionOf (U : Nat → Nat → Int32) (unit : Int32) : Int32 := (if (f_isUnit unit) = 0 then (-1) else (U 1 unit.toNatClampNeg))
set_option maxHeartbeats 4000000 in
set_option maxRecDepth 100000 in
theorem c_H_conditionOf (l : Launch) (D : va_G) (cI : ClassId) (a : Nat → Nat) (U : Nat → Nat → Int32) (unit : Int32)  : zR l D [(cI, .int)] y_H_conditionOf b_H_conditionOf 2 (some .int) 2 42 [.ref (a 0), .int unit] (wH a cI U) (f_H_conditionOf U unit) := by
  refine zR.of (by decide) (Nat.le_of_ble_eq_true rfl) ?_
  intro p e s m below meth c0 ls E hrt hlk hN hK hP hl
  have hx := E.1
  have hb := E.2.1
  have hl : lv_has ls 2 [(0, .ref (a 0)), (1, .int unit)] := hl
  refine lv_iload_n hx hb d_H_conditionOf_0 rfl (lv_at hl 1 rfl) ?_
  refine z_rn (As := [.int unit]) (rest := []) E hN hK hl.1 (c_isUnit l D [(cI, .int)] unit) kz_H_30 rfl ⟨Nat.le_of_ble_eq_true rfl, Nat.le_of_ble_eq_true rfl⟩ rfl (Nat.le_of_ble_eq_true rfl) ⟨Nat.zero_le _, Nat.zero_le _⟩ d_H_conditionOf_1 ?_
  refine lv_if_eq (tgt := 16) hx hb d_H_conditionOf_4 (by decide) (fun c_1 => ?_) (fun c_1 => ?_)
  · refine lv_iconst (v := (-1)) hx hb d_H_conditionOf_16 (by decide) ?_
    exact zR.iret E hrt hlk (by unfold f_H_conditionOf; rw [if_pos c_1]) d_H_conditionOf_17
  · refine lv_aload_n hx hb d_H_conditionOf_7 rfl (lv_at hl 0 rfl) ?_
    refine z_get (v := .ref (a 2)) E hK hP i_H 0 1 rfl rfl (by decide) kf_H_15 rfl d_H_conditionOf_8 ?_
    refine lv_iload_n hx hb d_H_conditionOf_11 rfl (lv_at hl 1 rfl) ?_
    refine z_ald (f := U 1) E hK hP 2 0 rfl rfl (in_unit c_1) d_H_conditionOf_12 ?_
    refine lv_goto (tgt := 17) hx hb d_H_conditionOf_13 (by decide) ?_
    exact zR.iret E hrt hlk (by unfold f_H_conditionOf; rw [if_neg c_1]) d_H_conditionOf_17
def f_H_restrictionOf (U : Nat → Nat → Int32) (unit : Int32) : Int32 := (if (f_isUnit unit) = 0 then (-1) else (U 2 unit.toNatClampNeg))
set_option maxHeartbeats 4000000 in
set_option maxRecDepth 100000 in
theorem c_H_restrictionOf (l : Launch) (D : va_G) (cI : ClassId) (a : Nat → Nat) (U : Nat → Nat → Int32) (unit : Int32)  : zR l D [(cI, .int)] y_H_restrictionOf b_H_restrictionOf 2 (some .int) 2 42 [.ref (a 0), .int unit] (wH a cI U) (f_H_restrictionOf U unit) := by
  refine zR.of (by decide) (Nat.le_of_ble_eq_true rfl) ?_
  intro p e s m below meth c0 ls E hrt hlk hN hK hP hl
  have hx := E.1
  have hb := E.2.1
  have hl : lv_has ls 2 [(0, .ref (a 0)), (1, .int unit)] := hl
  refine lv_iload_n hx hb d_H_restrictionOf_0 rfl (lv_at hl 1 rfl) ?_
  refine z_rn (As := [.int unit]) (rest := []) E hN hK hl.1 (c_isUnit l D [(cI, .int)] unit) kz_H_30 rfl ⟨Nat.le_of_ble_eq_true rfl, Nat.le_of_ble_eq_true rfl⟩ rfl (Nat.le_of_ble_eq_true rfl) ⟨Nat.zero_le _, Nat.zero_le _⟩ d_H_restrictionOf_1 ?_
  refine lv_if_eq (tgt := 16) hx hb d_H_restrictionOf_4 (by decide) (fun c_1 => ?_) (fun c_1 => ?_)
  · refine lv_iconst (v := (-1)) hx hb d_H_restrictionOf_16 (by decide) ?_
    exact zR.iret E hrt hlk (by unfold f_H_restrictionOf; rw [if_pos c_1]) d_H_restrictionOf_17
  · refine lv_aload_n hx hb d_H_restrictionOf_7 rfl (lv_at hl 0 rfl) ?_
    refine z_get (v := .ref (a 3)) E hK hP i_H 0 2 rfl rfl (by decide) kf_H_18 rfl d_H_restrictionOf_8 ?_
    refine lv_iload_n hx hb d_H_restrictionOf_11 rfl (lv_at hl 1 rfl) ?_
    refine z_ald (f := U 2) E hK hP 3 0 rfl rfl (in_unit c_1) d_H_restrictionOf_12 ?_
    refine lv_goto (tgt := 17) hx hb d_H_restrictionOf_13 (by decide) ?_
    exact zR.iret E hrt hlk (by unfold f_H_restrictionOf; rw [if_neg c_1]) d_H_restrictionOf_17
def f_H_requestOf (U : Nat → Nat → Int32) (unit : Int32) : Int32 := (if (f_isUnit unit) = 0 then (-1) else (U 3 unit.toNatClampNeg))
set_option maxHeartbeats 4000000 in
set_option maxRecDepth 100000 in
theorem c_H_requestOf (l : Launch) (D : va_G) (cI : ClassId) (a : Nat → Nat) (U : Nat → Nat → Int32) (unit : Int32)  : zR l D [(cI, .int)] y_H_requestOf b_H_requestOf 2 (some .int) 2 42 [.ref (a 0), .int unit] (wH a cI U) (f_H_requestOf U unit) := by
  refine zR.of (by decide) (Nat.le_of_ble_eq_true rfl) ?_
  intro p e s m below meth c0 ls E hrt hlk hN hK hP hl
  have hx := E.1
  have hb := E.2.1
  have hl : lv_has ls 2 [(0, .ref (a 0)), (1, .int unit)] := hl
  refine lv_iload_n hx hb d_H_requestOf_0 rfl (lv_at hl 1 rfl) ?_
  refine z_rn (As := [.int unit]) (rest := []) E hN hK hl.1 (c_isUnit l D [(cI, .int)] unit) kz_H_30 rfl ⟨Nat.le_of_ble_eq_true rfl, Nat.le_of_ble_eq_true rfl⟩ rfl (Nat.le_of_ble_eq_true rfl) ⟨Nat.zero_le _, Nat.zero_le _⟩ d_H_requestOf_1 ?_
  refine lv_if_eq (tgt := 16) hx hb d_H_requestOf_4 (by decide) (fun c_1 => ?_) (fun c_1 => ?_)
  · refine lv_iconst (v := (-1)) hx hb d_H_requestOf_16 (by decide) ?_
    exact zR.iret E hrt hlk (by unfold f_H_requestOf; rw [if_pos c_1]) d_H_requestOf_17
  · refine lv_aload_n hx hb d_H_requestOf_7 rfl (lv_at hl 0 rfl) ?_
    refine z_get (v := .ref (a 4)) E hK hP i_H 0 3 rfl rfl (by decide) kf_H_21 rfl d_H_requestOf_8 ?_
    refine lv_iload_n hx hb d_H_requestOf_11 rfl (lv_at hl 1 rfl) ?_
    refine z_ald (f := U 3) E hK hP 4 0 rfl rfl (in_unit c_1) d_H_requestOf_12 ?_
    refine lv_goto (tgt := 17) hx hb d_H_requestOf_13 (by decide) ?_
    exact zR.iret E hrt hlk (by unfold f_H_requestOf; rw [if_neg c_1]) d_H_requestOf_17
def f_H_put (U : Nat → Nat → Int32) (unit : Int32) (place : Int32) (number : Int32) : (Nat → Nat → Int32) := (if (f_isUnit unit) = 0 then U else (up2 (up2 U 0 unit.toNatClampNeg place) 3 unit.toNatClampNeg number))
set_option maxHeartbeats 4000000 in
set_option maxRecDepth 100000 in
theorem c_H_put (l : Launch) (D : va_G) (cI : ClassId) (a : Nat → Nat) (U : Nat → Nat → Int32) (unit : Int32) (place : Int32) (number : Int32)  : zW l D [(cI, .int)] y_H_put b_H_put 4 none 2 42 [.ref (a 0), .int unit, .int place, .int number] (wH a cI U) (wH a cI (f_H_put U unit place number)) none := by
  refine zW.of (by decide) (Nat.le_of_ble_eq_true rfl) ?_
  intro p e s m below meth c0 ls A E hrt hlk hN hK hA G hl
  have hx := E.1
  have hb := E.2.1
  have hl : lv_has ls 4 [(0, .ref (a 0)), (1, .int unit), (2, .int place), (3, .int number)] := hl
  refine lv_iload_n hx hb d_H_put_0 rfl (lv_at hl 1 rfl) ?_
  refine z_rn (As := [.int unit]) (rest := []) E hN hK hl.1 (c_isUnit l D [(cI, .int)] unit) kz_H_30 rfl ⟨Nat.le_of_ble_eq_true rfl, Nat.le_of_ble_eq_true rfl⟩ rfl (Nat.le_of_ble_eq_true rfl) ⟨Nat.zero_le _, Nat.zero_le _⟩ d_H_put_1 ?_
  refine lv_if_eq (tgt := 21) hx hb d_H_put_4 (by decide) (fun c_1 => ?_) (fun c_1 => ?_)
  · have hf : f_H_put U unit place number = U := by unfold f_H_put; rw [if_pos c_1]
    exact zW.vret E hrt hlk G (by rw [hf]) (by rfl) d_H_put_21
  · refine lv_aload_n hx hb d_H_put_7 rfl (lv_at hl 0 rfl) ?_
    refine z_get (v := .ref (a 1)) E hK G.1 i_H 0 0 rfl rfl (by decide) kf_H_9 rfl d_H_put_8 ?_
    refine lv_iload_n hx hb d_H_put_11 rfl (lv_at hl 1 rfl) ?_
    refine lv_iload_n hx hb d_H_put_12 rfl (lv_at hl 2 rfl) ?_
    refine z_ast (f := U 0) (ws' := wH a cI (up2 U 0 unit.toNatClampNeg place)) E hK G 1 0 rfl rfl (in_unit c_1) rfl d_H_put_13 (fun H locs G => ?_)
    refine lv_aload_n hx hb d_H_put_14 rfl (lv_at hl 0 rfl) ?_
    refine z_get (v := .ref (a 4)) E hK G.1 i_H 0 3 rfl rfl (by decide) kf_H_21 rfl d_H_put_15 ?_
    refine lv_iload_n hx hb d_H_put_18 rfl (lv_at hl 1 rfl) ?_
    refine lv_iload_n hx hb d_H_put_19 rfl (lv_at hl 3 rfl) ?_
    refine z_ast (f := (up2 U 0 unit.toNatClampNeg place) 3) (ws' := wH a cI (up2 (up2 U 0 unit.toNatClampNeg place) 3 unit.toNatClampNeg number)) E hK G 4 0 rfl rfl (in_unit c_1) rfl d_H_put_20 (fun H locs G => ?_)
    have hf : f_H_put U unit place number = (up2 (up2 U 0 unit.toNatClampNeg place) 3 unit.toNatClampNeg number) := by unfold f_H_put; rw [if_neg c_1]
    exact zW.vret E hrt hlk G (by rw [hf]) (by rfl) d_H_put_21
def f_H_setCondition (U : Nat → Nat → Int32) (unit : Int32) (condition : Int32) : (Nat → Nat → Int32) := (if (f_isUnit unit) = 0 then U else (up2 U 1 unit.toNatClampNeg condition))
set_option maxHeartbeats 4000000 in
set_option maxRecDepth 100000 in
theorem c_H_setCondition (l : Launch) (D : va_G) (cI : ClassId) (a : Nat → Nat) (U : Nat → Nat → Int32) (unit : Int32) (condition : Int32)  : zW l D [(cI, .int)] y_H_setCondition b_H_setCondition 3 none 2 42 [.ref (a 0), .int unit, .int condition] (wH a cI U) (wH a cI (f_H_setCondition U unit condition)) none := by
  refine zW.of (by decide) (Nat.le_of_ble_eq_true rfl) ?_
  intro p e s m below meth c0 ls A E hrt hlk hN hK hA G hl
  have hx := E.1
  have hb := E.2.1
  have hl : lv_has ls 3 [(0, .ref (a 0)), (1, .int unit), (2, .int condition)] := hl
  refine lv_iload_n hx hb d_H_setCondition_0 rfl (lv_at hl 1 rfl) ?_
  refine z_rn (As := [.int unit]) (rest := []) E hN hK hl.1 (c_isUnit l D [(cI, .int)] unit) kz_H_30 rfl ⟨Nat.le_of_ble_eq_true rfl, Nat.le_of_ble_eq_true rfl⟩ rfl (Nat.le_of_ble_eq_true rfl) ⟨Nat.zero_le _, Nat.zero_le _⟩ d_H_setCondition_1 ?_
  refine lv_if_eq (tgt := 14) hx hb d_H_setCondition_4 (by decide) (fun c_1 => ?_) (fun c_1 => ?_)
  · have hf : f_H_setCondition U unit condition = U := by unfold f_H_setCondition; rw [if_pos c_1]
    exact zW.vret E hrt hlk G (by rw [hf]) (by rfl) d_H_setCondition_14
  · refine lv_aload_n hx hb d_H_setCondition_7 rfl (lv_at hl 0 rfl) ?_
    refine z_get (v := .ref (a 2)) E hK G.1 i_H 0 1 rfl rfl (by decide) kf_H_15 rfl d_H_setCondition_8 ?_
    refine lv_iload_n hx hb d_H_setCondition_11 rfl (lv_at hl 1 rfl) ?_
    refine lv_iload_n hx hb d_H_setCondition_12 rfl (lv_at hl 2 rfl) ?_
    refine z_ast (f := U 1) (ws' := wH a cI (up2 U 1 unit.toNatClampNeg condition)) E hK G 2 0 rfl rfl (in_unit c_1) rfl d_H_setCondition_13 (fun H locs G => ?_)
    have hf : f_H_setCondition U unit condition = (up2 U 1 unit.toNatClampNeg condition) := by unfold f_H_setCondition; rw [if_neg c_1]
    exact zW.vret E hrt hlk G (by rw [hf]) (by rfl) d_H_setCondition_14
def f_H_setRestriction (U : Nat → Nat → Int32) (unit : Int32) (restriction : Int32) : (Nat → Nat → Int32) := (if (f_isUnit unit) = 0 then U else (up2 U 2 unit.toNatClampNeg restriction))
set_option maxHeartbeats 4000000 in
set_option maxRecDepth 100000 in
theorem c_H_setRestriction (l : Launch) (D : va_G) (cI : ClassId) (a : Nat → Nat) (U : Nat → Nat → Int32) (unit : Int32) (restriction : Int32)  : zW l D [(cI, .int)] y_H_setRestriction b_H_setRestriction 3 none 2 42 [.ref (a 0), .int unit, .int restriction] (wH a cI U) (wH a cI (f_H_setRestriction U unit restriction)) none := by
  refine zW.of (by decide) (Nat.le_of_ble_eq_true rfl) ?_
  intro p e s m below meth c0 ls A E hrt hlk hN hK hA G hl
  have hx := E.1
  have hb := E.2.1
  have hl : lv_has ls 3 [(0, .ref (a 0)), (1, .int unit), (2, .int restriction)] := hl
  refine lv_iload_n hx hb d_H_setRestriction_0 rfl (lv_at hl 1 rfl) ?_
  refine z_rn (As := [.int unit]) (rest := []) E hN hK hl.1 (c_isUnit l D [(cI, .int)] unit) kz_H_30 rfl ⟨Nat.le_of_ble_eq_true rfl, Nat.le_of_ble_eq_true rfl⟩ rfl (Nat.le_of_ble_eq_true rfl) ⟨Nat.zero_le _, Nat.zero_le _⟩ d_H_setRestriction_1 ?_
  refine lv_if_eq (tgt := 14) hx hb d_H_setRestriction_4 (by decide) (fun c_1 => ?_) (fun c_1 => ?_)
  · have hf : f_H_setRestriction U unit restriction = U := by unfold f_H_setRestriction; rw [if_pos c_1]
    exact zW.vret E hrt hlk G (by rw [hf]) (by rfl) d_H_setRestriction_14
  · refine lv_aload_n hx hb d_H_setRestriction_7 rfl (lv_at hl 0 rfl) ?_
    refine z_get (v := .ref (a 3)) E hK G.1 i_H 0 2 rfl rfl (by decide) kf_H_18 rfl d_H_setRestriction_8 ?_
    refine lv_iload_n hx hb d_H_setRestriction_11 rfl (lv_at hl 1 rfl) ?_
    refine lv_iload_n hx hb d_H_setRestriction_12 rfl (lv_at hl 2 rfl) ?_
    refine z_ast (f := U 2) (ws' := wH a cI (up2 U 2 unit.toNatClampNeg restriction)) E hK G 3 0 rfl rfl (in_unit c_1) rfl d_H_setRestriction_13 (fun H locs G => ?_)
    have hf : f_H_setRestriction U unit restriction = (up2 U 2 unit.toNatClampNeg restriction) := by unfold f_H_setRestriction; rw [if_neg c_1]
    exact zW.vret E hrt hlk G (by rw [hf]) (by rfl) d_H_setRestriction_14
def f_H_storeAll_L   : Nat → Nat → Int32 → (Nat → Nat → Int32) → Int32 × (Nat → Nat → Int32)
  | 0, k0, x1, U => (x1, U)
  | d + 1, k0, x1, U => (if (U 0 k0) = 0 then (f_H_storeAll_L  d (k0 + 1) x1 U) else (f_H_storeAll_L  d (k0 + 1) (x1 + 1) (f_H_put U (nI k0) 0 (-1))))
theorem f_H_storeAll_L_0   (k0 : Nat) (x1 : Int32) (U : Nat → Nat → Int32) : f_H_storeAll_L  0 k0 x1 U = (x1, U) := rfl
theorem f_H_storeAll_L_s   (d k0 : Nat) (x1 : Int32) (U : Nat → Nat → Int32) : f_H_storeAll_L  (d + 1) k0 x1 U = (if (U 0 k0) = 0 then (f_H_storeAll_L  d (k0 + 1) x1 U) else (f_H_storeAll_L  d (k0 + 1) (x1 + 1) (f_H_put U (nI k0) 0 (-1)))) := rfl
def f_H_storeAll (U : Nat → Nat → Int32)  : Int32 × (Nat → Nat → Int32) := (f_H_storeAll_L  80 0 0 U)
set_option maxHeartbeats 4000000 in
set_option maxRecDepth 100000 in
theorem lp_H_storeAll (l : Launch) (D : va_G) (cI : ClassId) (a : Nat → Nat)    {p : Program} {e : Env} {s : State} {m : MethodId} {below : List Frame} {meth : Method} {c0 : Code} {A : Nat → Prop} (E : CallFix p m c0 b_H_storeAll 3 s ([.ref (a 0)] : List Value).toArray zB y_H_storeAll.cls) (hrt : meth.sig.returnType = (some .int)) (hlk : meth.locks = false) (hN : zN s) (hK : va_K D vwCl [(cI, .int)] s) (hA : ∀ q, s.heap.size ≤ q → A q) :
    ∀ (d k0 : Nat) (x1 : Int32) (U : Nat → Nat → Int32), k0 + d = 80 → ∀ X : Int32 × (Nat → Nat → Int32), f_H_storeAll_L  d k0 x1 U = X → ∀ (H : Heap) (locs : List Loc), zG D A s H locs (wH a cI U) → ∀ ls : Array Slot, lv_has ls 3 [(2, .int (nI k0)), (1, .int x1), (0, .ref (a 0))] → W p l e { frames := 3, cells := 0, slots := 0, locals := 65 } s m ([.ref (a 0)] : List Value).toArray below meth c0 H locs 0 0 (MQ below (zQ D A (wH a cI X.2) (some (.int X.1))) ([.ref (a 0)] : List Value).toArray s 0 0 A) (F0 m 4 ls []) := by
  have hx := E.1
  have hb := E.2.1
  intro d
  induction d with
  | zero =>
    intro k0 x1 U hkd X hr H locs G ls hl
    refine lv_iload_n hx hb d_H_storeAll_4 rfl (lv_at hl 0 rfl) ?_
    refine lv_bipush (v := (nI 80)) hx hb d_H_storeAll_5 (by decide) ?_
    refine lv_icmp_ge (tgt := 35) hx hb d_H_storeAll_7 (by decide) (fun c_1 => ?_) (fun c_1 => absurd (nI_le (by omega) (by omega)) c_1)
    refine lv_iload_n hx hb d_H_storeAll_35 rfl (lv_at hl 1 rfl) ?_
    have hf : X = (x1, U) := by rw [← hr, f_H_storeAll_L_0]
    exact zW.iret E hrt hlk G (by rw [hf]) (by rw [hf]) d_H_storeAll_36
  | succ d ih =>
    intro k0 x1 U hkd X hr H locs G ls hl
    refine lv_iload_n hx hb d_H_storeAll_4 rfl (lv_at hl 0 rfl) ?_
    refine lv_bipush (v := (nI 80)) hx hb d_H_storeAll_5 (by decide) ?_
    refine lv_icmp_ge (tgt := 35) hx hb d_H_storeAll_7 (by decide) (fun c_2 => absurd c_2 (nI_ge (by omega) (by omega))) (fun c_2 => ?_)
    refine lv_aload_n hx hb d_H_storeAll_10 rfl (lv_at hl 2 rfl) ?_
    refine z_get (v := .ref (a 1)) E hK G.1 i_H 0 0 rfl rfl (by decide) kf_H_9 rfl d_H_storeAll_11 ?_
    refine lv_iload_n hx hb d_H_storeAll_14 rfl (lv_at hl 0 rfl) ?_
    refine z_aldN (f := U 0) (j := k0) E hK G.1 1 0 rfl rfl rfl (by omega) (by decide) d_H_storeAll_15 ?_
    refine lv_if_eq (tgt := 29) hx hb d_H_storeAll_16 (by decide) (fun c_3 => ?_) (fun c_3 => ?_)
    · refine lv_iinc (v := nI (k0 + 1)) (lv' := [(2, .int (nI (k0 + 1))), (1, .int x1), (0, .ref (a 0))]) hx hb d_H_storeAll_29 hl (k := 0) rfl (nI_1 _) (by decide) rfl (fun ls hl => ?_)
      refine lv_goto (tgt := 4) hx hb d_H_storeAll_32 (by decide) ?_
      exact ih (k0 + 1) x1 U (by omega) X (by rw [← hr, f_H_storeAll_L_s, if_pos c_3]) H locs G ls (lv_sub hl [0, 1, 2] rfl)
    · refine lv_aload_n hx hb d_H_storeAll_19 rfl (lv_at hl 2 rfl) ?_
      refine lv_iload_n hx hb d_H_storeAll_20 rfl (lv_at hl 0 rfl) ?_
      refine lv_iconst (v := 0) hx hb d_H_storeAll_21 (by decide) ?_
      refine lv_iconst (v := (-1)) hx hb d_H_storeAll_22 (by decide) ?_
      refine z_wv (As := [.int (nI k0), .int 0, .int (-1)]) (rest := []) (wr := ([] : List Nat).filterMap (fun i => (wH a cI U)[i]?)) (ws' := wH a cI (f_H_put U (nI k0) 0 (-1))) E hN hK hA G hl.1 (c_H_put l D cI a U (nI k0) 0 (-1) ) [0, 1, 2, 3, 4] [] [0, 1, 2, 3, 4] rfl rfl rfl rfl rfl rfl (by decide) 0 rfl rfl kz_H_34 rfl ⟨Nat.le_of_ble_eq_true rfl, Nat.le_of_ble_eq_true rfl⟩ rfl (Nat.le_of_ble_eq_true rfl) ⟨Nat.zero_le _, Nat.zero_le _⟩ d_H_storeAll_23 (fun H locs G => ?_)
      refine W.eq (g2 := F0 m 26 ls []) rfl ?_
      refine lv_iinc (v := x1 + 1) (lv' := [(1, .int (x1 + 1)), (2, .int (nI k0)), (0, .ref (a 0))]) hx hb d_H_storeAll_26 hl (k := 1) rfl rfl (by decide) rfl (fun ls hl => ?_)
      refine lv_iinc (v := nI (k0 + 1)) (lv' := [(2, .int (nI (k0 + 1))), (1, .int (x1 + 1)), (0, .ref (a 0))]) hx hb d_H_storeAll_29 hl (k := 1) rfl (nI_1 _) (by decide) rfl (fun ls hl => ?_)
      refine lv_goto (tgt := 4) hx hb d_H_storeAll_32 (by decide) ?_
      exact ih (k0 + 1) (x1 + 1) (f_H_put U (nI k0) 0 (-1)) (by omega) X (by rw [← hr, f_H_storeAll_L_s, if_neg c_3]) H locs G ls (lv_sub hl [0, 1, 2] rfl)
set_option maxHeartbeats 4000000 in
set_option maxRecDepth 100000 in
theorem c_H_storeAll (l : Launch) (D : va_G) (cI : ClassId) (a : Nat → Nat) (U : Nat → Nat → Int32)   : zW l D [(cI, .int)] y_H_storeAll b_H_storeAll 3 (some .int) 3 65 [.ref (a 0)] (wH a cI U) (wH a cI ((f_H_storeAll U).2)) (some (.int (f_H_storeAll U).1)) := by
  refine zW.of (by decide) (Nat.le_of_ble_eq_true rfl) ?_
  intro p e s m below meth c0 ls A E hrt hlk hN hK hA G hl
  have hx := E.1
  have hb := E.2.1
  have hl : lv_has ls 3 [(0, .ref (a 0))] := hl
  refine lv_iconst (v := 0) hx hb d_H_storeAll_0 (by decide) ?_
  refine lv_istore_n (lv' := [(1, .int 0), (0, .ref (a 0))]) hx hb d_H_storeAll_1 rfl hl (by decide) rfl (fun ls hl => ?_)
  refine lv_iconst (v := 0) hx hb d_H_storeAll_2 (by decide) ?_
  refine lv_istore_n (lv' := [(2, .int 0), (1, .int 0), (0, .ref (a 0))]) hx hb d_H_storeAll_3 rfl hl (by decide) rfl (fun ls hl => ?_)
  exact lp_H_storeAll l D cI a   E hrt hlk hN hK hA 80 0 0 U (by omega) _ (by rfl) _ _ G ls (by rw [nI_0]; exact lv_sub hl [0, 1, 2] rfl)
end
section
def f_Q_has (c : Nat) (number : Int32) : Int32 := (f_isWithin number 0 ((nI c) - 1))
set_option maxHeartbeats 4000000 in
set_option maxRecDepth 100000 in
theorem c_Q_has (l : Launch) (D : va_G) (cI : ClassId) (a : Nat → Nat) (c : Nat) (V : Nat → Nat → Int32) (number : Int32) (hc : c ≤ 300) : zR l D [(cI, .int)] y_Q_has b_Q_has 2 (some .boolean) 1 22 [.ref (a 0), .int number] (wQ a cI (nI c) V) (f_Q_has c number) := by
  refine zR.of (by decide) (Nat.le_of_ble_eq_true rfl) ?_
  intro p e s m below meth c0 ls E hrt hlk hN hK hP hl
  have hx := E.1
  have hb := E.2.1
  have hl : lv_has ls 2 [(0, .ref (a 0)), (1, .int number)] := hl
  refine lv_iload_n hx hb d_Q_has_0 rfl (lv_at hl 1 rfl) ?_
  refine lv_iconst (v := 0) hx hb d_Q_has_1 (by decide) ?_
  refine lv_aload_n hx hb d_Q_has_2 rfl (lv_at hl 0 rfl) ?_
  refine z_get (v := .int (nI c)) E hK hP i_Q 0 6 rfl rfl (by decide) kf_Q_30 rfl d_Q_has_3 ?_
  refine lv_iconst (v := 1) hx hb d_Q_has_6 (by decide) ?_
  refine lv_isub hx hb d_Q_has_7 ?_
  refine z_rn (As := [.int number, .int 0, .int ((nI c) - 1)]) (rest := []) E hN hK hl.1 (c_isWithin l D [(cI, .int)] number 0 ((nI c) - 1)) kz_Q_34 rfl ⟨Nat.le_of_ble_eq_true rfl, Nat.le_of_ble_eq_true rfl⟩ rfl (Nat.le_of_ble_eq_true rfl) ⟨Nat.zero_le _, Nat.zero_le _⟩ d_Q_has_8 ?_
  exact zR.zret E hrt hlk (nar01 (b01_isWithin _ _ _)) (by rfl) d_Q_has_11
theorem in_has {c : Nat} {x : Int32} (hc : c ≤ 300) (h : ¬ f_Q_has c x = 0) : vp_in x 300 := by
  obtain ⟨j, hj, rfl⟩ := pre1_in (by omega) h
  exact vp_in_nI (by omega) (by decide)
def f_Q_isFull (c : Nat)  : Int32 := (if (nI c) < 300 then 0 else 1)
set_option maxHeartbeats 4000000 in
set_option maxRecDepth 100000 in
theorem c_Q_isFull (l : Launch) (D : va_G) (cI : ClassId) (a : Nat → Nat) (c : Nat) (V : Nat → Nat → Int32)  (hc : c ≤ 300) : zR l D [(cI, .int)] y_Q_isFull b_Q_isFull 1 (some .boolean) 0 0 [.ref (a 0)] (wQ a cI (nI c) V) (f_Q_isFull c) := by
  refine zR.of (by decide) (Nat.le_of_ble_eq_true rfl) ?_
  intro p e s m below meth c0 ls E hrt hlk hN hK hP hl
  have hx := E.1
  have hb := E.2.1
  have hl : lv_has ls 1 [(0, .ref (a 0))] := hl
  refine lv_aload_n hx hb d_Q_isFull_0 rfl (lv_at hl 0 rfl) ?_
  refine z_get (v := .int (nI c)) E hK hP i_Q 0 6 rfl rfl (by decide) kf_Q_30 rfl d_Q_isFull_1 ?_
  refine lv_sipush (v := 300) hx hb d_Q_isFull_4 (by decide) ?_
  refine lv_icmp_lt (tgt := 14) hx hb d_Q_isFull_7 (by decide) (fun c_1 => ?_) (fun c_1 => ?_)
  · refine lv_iconst (v := 0) hx hb d_Q_isFull_14 (by decide) ?_
    exact zR.zret E hrt hlk rfl (by unfold f_Q_isFull; rw [if_pos c_1]) d_Q_isFull_15
  · refine lv_iconst (v := 1) hx hb d_Q_isFull_10 (by decide) ?_
    refine lv_goto (tgt := 15) hx hb d_Q_isFull_11 (by decide) ?_
    exact zR.zret E hrt hlk rfl (by unfold f_Q_isFull; rw [if_neg c_1]) d_Q_isFull_15
theorem full_lt {c : Nat} (hc : c ≤ 300) (h : f_Q_isFull c = 0) : c < 300 := by
  unfold f_Q_isFull at h
  split at h
  · rename_i h1
    exact (nI_ltI (by omega) (by decide)).mp h1
  · exact absurd h (by decide)
def f_Q_personOf (c : Nat) (V : Nat → Nat → Int32) (number : Int32) : Int32 := (if (f_Q_has c number) = 0 then (-1) else (V 0 number.toNatClampNeg))
set_option maxHeartbeats 4000000 in
set_option maxRecDepth 100000 in
theorem c_Q_personOf (l : Launch) (D : va_G) (cI : ClassId) (a : Nat → Nat) (c : Nat) (V : Nat → Nat → Int32) (number : Int32) (hc : c ≤ 300) : zR l D [(cI, .int)] y_Q_personOf b_Q_personOf 2 (some .int) 2 43 [.ref (a 0), .int number] (wQ a cI (nI c) V) (f_Q_personOf c V number) := by
  refine zR.of (by decide) (Nat.le_of_ble_eq_true rfl) ?_
  intro p e s m below meth c0 ls E hrt hlk hN hK hP hl
  have hx := E.1
  have hb := E.2.1
  have hl : lv_has ls 2 [(0, .ref (a 0)), (1, .int number)] := hl
  refine lv_aload_n hx hb d_Q_personOf_0 rfl (lv_at hl 0 rfl) ?_
  refine lv_iload_n hx hb d_Q_personOf_1 rfl (lv_at hl 1 rfl) ?_
  refine z_rv (As := [.int number]) (rest := []) E hN hK hP hl.1 (c_Q_has l D cI a c V number hc) [0, 1, 2, 3, 4, 5, 6] rfl 0 rfl rfl kz_Q_38 rfl ⟨Nat.le_of_ble_eq_true rfl, Nat.le_of_ble_eq_true rfl⟩ rfl (Nat.le_of_ble_eq_true rfl) ⟨Nat.zero_le _, Nat.zero_le _⟩ d_Q_personOf_2 ?_
  refine lv_if_eq (tgt := 17) hx hb d_Q_personOf_5 (by decide) (fun c_1 => ?_) (fun c_1 => ?_)
  · refine lv_iconst (v := (-1)) hx hb d_Q_personOf_17 (by decide) ?_
    exact zR.iret E hrt hlk (by unfold f_Q_personOf; rw [if_pos c_1]) d_Q_personOf_18
  · refine lv_aload_n hx hb d_Q_personOf_8 rfl (lv_at hl 0 rfl) ?_
    refine z_get (v := .ref (a 1)) E hK hP i_Q 0 0 rfl rfl (by decide) kf_Q_9 rfl d_Q_personOf_9 ?_
    refine lv_iload_n hx hb d_Q_personOf_12 rfl (lv_at hl 1 rfl) ?_
    refine z_ald (f := V 0) E hK hP 1 0 rfl rfl (in_has hc c_1) d_Q_personOf_13 ?_
    refine lv_goto (tgt := 18) hx hb d_Q_personOf_14 (by decide) ?_
    exact zR.iret E hrt hlk (by unfold f_Q_personOf; rw [if_neg c_1]) d_Q_personOf_18
def f_Q_unitOf (c : Nat) (V : Nat → Nat → Int32) (number : Int32) : Int32 := (if (f_Q_has c number) = 0 then (-1) else (V 1 number.toNatClampNeg))
set_option maxHeartbeats 4000000 in
set_option maxRecDepth 100000 in
theorem c_Q_unitOf (l : Launch) (D : va_G) (cI : ClassId) (a : Nat → Nat) (c : Nat) (V : Nat → Nat → Int32) (number : Int32) (hc : c ≤ 300) : zR l D [(cI, .int)] y_Q_unitOf b_Q_unitOf 2 (some .int) 2 43 [.ref (a 0), .int number] (wQ a cI (nI c) V) (f_Q_unitOf c V number) := by
  refine zR.of (by decide) (Nat.le_of_ble_eq_true rfl) ?_
  intro p e s m below meth c0 ls E hrt hlk hN hK hP hl
  have hx := E.1
  have hb := E.2.1
  have hl : lv_has ls 2 [(0, .ref (a 0)), (1, .int number)] := hl
  refine lv_aload_n hx hb d_Q_unitOf_0 rfl (lv_at hl 0 rfl) ?_
  refine lv_iload_n hx hb d_Q_unitOf_1 rfl (lv_at hl 1 rfl) ?_
  refine z_rv (As := [.int number]) (rest := []) E hN hK hP hl.1 (c_Q_has l D cI a c V number hc) [0, 1, 2, 3, 4, 5, 6] rfl 0 rfl rfl kz_Q_38 rfl ⟨Nat.le_of_ble_eq_true rfl, Nat.le_of_ble_eq_true rfl⟩ rfl (Nat.le_of_ble_eq_true rfl) ⟨Nat.zero_le _, Nat.zero_le _⟩ d_Q_unitOf_2 ?_
  refine lv_if_eq (tgt := 17) hx hb d_Q_unitOf_5 (by decide) (fun c_1 => ?_) (fun c_1 => ?_)
  · refine lv_iconst (v := (-1)) hx hb d_Q_unitOf_17 (by decide) ?_
    exact zR.iret E hrt hlk (by unfold f_Q_unitOf; rw [if_pos c_1]) d_Q_unitOf_18
  · refine lv_aload_n hx hb d_Q_unitOf_8 rfl (lv_at hl 0 rfl) ?_
    refine z_get (v := .ref (a 2)) E hK hP i_Q 0 1 rfl rfl (by decide) kf_Q_15 rfl d_Q_unitOf_9 ?_
    refine lv_iload_n hx hb d_Q_unitOf_12 rfl (lv_at hl 1 rfl) ?_
    refine z_ald (f := V 1) E hK hP 2 0 rfl rfl (in_has hc c_1) d_Q_unitOf_13 ?_
    refine lv_goto (tgt := 18) hx hb d_Q_unitOf_14 (by decide) ?_
    exact zR.iret E hrt hlk (by unfold f_Q_unitOf; rw [if_neg c_1]) d_Q_unitOf_18
def f_Q_stateOf (c : Nat) (V : Nat → Nat → Int32) (number : Int32) : Int32 := (if (f_Q_has c number) = 0 then (-1) else (V 2 number.toNatClampNeg))
set_option maxHeartbeats 4000000 in
set_option maxRecDepth 100000 in
theorem c_Q_stateOf (l : Launch) (D : va_G) (cI : ClassId) (a : Nat → Nat) (c : Nat) (V : Nat → Nat → Int32) (number : Int32) (hc : c ≤ 300) : zR l D [(cI, .int)] y_Q_stateOf b_Q_stateOf 2 (some .int) 2 43 [.ref (a 0), .int number] (wQ a cI (nI c) V) (f_Q_stateOf c V number) := by
  refine zR.of (by decide) (Nat.le_of_ble_eq_true rfl) ?_
  intro p e s m below meth c0 ls E hrt hlk hN hK hP hl
  have hx := E.1
  have hb := E.2.1
  have hl : lv_has ls 2 [(0, .ref (a 0)), (1, .int number)] := hl
  refine lv_aload_n hx hb d_Q_stateOf_0 rfl (lv_at hl 0 rfl) ?_
  refine lv_iload_n hx hb d_Q_stateOf_1 rfl (lv_at hl 1 rfl) ?_
  refine z_rv (As := [.int number]) (rest := []) E hN hK hP hl.1 (c_Q_has l D cI a c V number hc) [0, 1, 2, 3, 4, 5, 6] rfl 0 rfl rfl kz_Q_38 rfl ⟨Nat.le_of_ble_eq_true rfl, Nat.le_of_ble_eq_true rfl⟩ rfl (Nat.le_of_ble_eq_true rfl) ⟨Nat.zero_le _, Nat.zero_le _⟩ d_Q_stateOf_2 ?_
  refine lv_if_eq (tgt := 17) hx hb d_Q_stateOf_5 (by decide) (fun c_1 => ?_) (fun c_1 => ?_)
  · refine lv_iconst (v := (-1)) hx hb d_Q_stateOf_17 (by decide) ?_
    exact zR.iret E hrt hlk (by unfold f_Q_stateOf; rw [if_pos c_1]) d_Q_stateOf_18
  · refine lv_aload_n hx hb d_Q_stateOf_8 rfl (lv_at hl 0 rfl) ?_
    refine z_get (v := .ref (a 3)) E hK hP i_Q 0 2 rfl rfl (by decide) kf_Q_18 rfl d_Q_stateOf_9 ?_
    refine lv_iload_n hx hb d_Q_stateOf_12 rfl (lv_at hl 1 rfl) ?_
    refine z_ald (f := V 2) E hK hP 3 0 rfl rfl (in_has hc c_1) d_Q_stateOf_13 ?_
    refine lv_goto (tgt := 18) hx hb d_Q_stateOf_14 (by decide) ?_
    exact zR.iret E hrt hlk (by unfold f_Q_stateOf; rw [if_neg c_1]) d_Q_stateOf_18
def f_Q_askedAt (c : Nat) (V : Nat → Nat → Int32) (number : Int32) : Int32 := (if (f_Q_has c number) = 0 then (-1) else (V 3 number.toNatClampNeg))
set_option maxHeartbeats 4000000 in
set_option maxRecDepth 100000 in
theorem c_Q_askedAt (l : Launch) (D : va_G) (cI : ClassId) (a : Nat → Nat) (c : Nat) (V : Nat → Nat → Int32) (number : Int32) (hc : c ≤ 300) : zR l D [(cI, .int)] y_Q_askedAt b_Q_askedAt 2 (some .int) 2 43 [.ref (a 0), .int number] (wQ a cI (nI c) V) (f_Q_askedAt c V number) := by
  refine zR.of (by decide) (Nat.le_of_ble_eq_true rfl) ?_
  intro p e s m below meth c0 ls E hrt hlk hN hK hP hl
  have hx := E.1
  have hb := E.2.1
  have hl : lv_has ls 2 [(0, .ref (a 0)), (1, .int number)] := hl
  refine lv_aload_n hx hb d_Q_askedAt_0 rfl (lv_at hl 0 rfl) ?_
  refine lv_iload_n hx hb d_Q_askedAt_1 rfl (lv_at hl 1 rfl) ?_
  refine z_rv (As := [.int number]) (rest := []) E hN hK hP hl.1 (c_Q_has l D cI a c V number hc) [0, 1, 2, 3, 4, 5, 6] rfl 0 rfl rfl kz_Q_38 rfl ⟨Nat.le_of_ble_eq_true rfl, Nat.le_of_ble_eq_true rfl⟩ rfl (Nat.le_of_ble_eq_true rfl) ⟨Nat.zero_le _, Nat.zero_le _⟩ d_Q_askedAt_2 ?_
  refine lv_if_eq (tgt := 17) hx hb d_Q_askedAt_5 (by decide) (fun c_1 => ?_) (fun c_1 => ?_)
  · refine lv_iconst (v := (-1)) hx hb d_Q_askedAt_17 (by decide) ?_
    exact zR.iret E hrt hlk (by unfold f_Q_askedAt; rw [if_pos c_1]) d_Q_askedAt_18
  · refine lv_aload_n hx hb d_Q_askedAt_8 rfl (lv_at hl 0 rfl) ?_
    refine z_get (v := .ref (a 4)) E hK hP i_Q 0 3 rfl rfl (by decide) kf_Q_21 rfl d_Q_askedAt_9 ?_
    refine lv_iload_n hx hb d_Q_askedAt_12 rfl (lv_at hl 1 rfl) ?_
    refine z_ald (f := V 3) E hK hP 4 0 rfl rfl (in_has hc c_1) d_Q_askedAt_13 ?_
    refine lv_goto (tgt := 18) hx hb d_Q_askedAt_14 (by decide) ?_
    exact zR.iret E hrt hlk (by unfold f_Q_askedAt; rw [if_neg c_1]) d_Q_askedAt_18
def f_Q_handedOutAt (c : Nat) (V : Nat → Nat → Int32) (number : Int32) : Int32 := (if (f_Q_has c number) = 0 then (-1) else (V 4 number.toNatClampNeg))
set_option maxHeartbeats 4000000 in
set_option maxRecDepth 100000 in
theorem c_Q_handedOutAt (l : Launch) (D : va_G) (cI : ClassId) (a : Nat → Nat) (c : Nat) (V : Nat → Nat → Int32) (number : Int32) (hc : c ≤ 300) : zR l D [(cI, .int)] y_Q_handedOutAt b_Q_handedOutAt 2 (some .int) 2 43 [.ref (a 0), .int number] (wQ a cI (nI c) V) (f_Q_handedOutAt c V number) := by
  refine zR.of (by decide) (Nat.le_of_ble_eq_true rfl) ?_
  intro p e s m below meth c0 ls E hrt hlk hN hK hP hl
  have hx := E.1
  have hb := E.2.1
  have hl : lv_has ls 2 [(0, .ref (a 0)), (1, .int number)] := hl
  refine lv_aload_n hx hb d_Q_handedOutAt_0 rfl (lv_at hl 0 rfl) ?_
  refine lv_iload_n hx hb d_Q_handedOutAt_1 rfl (lv_at hl 1 rfl) ?_
  refine z_rv (As := [.int number]) (rest := []) E hN hK hP hl.1 (c_Q_has l D cI a c V number hc) [0, 1, 2, 3, 4, 5, 6] rfl 0 rfl rfl kz_Q_38 rfl ⟨Nat.le_of_ble_eq_true rfl, Nat.le_of_ble_eq_true rfl⟩ rfl (Nat.le_of_ble_eq_true rfl) ⟨Nat.zero_le _, Nat.zero_le _⟩ d_Q_handedOutAt_2 ?_
  refine lv_if_eq (tgt := 17) hx hb d_Q_handedOutAt_5 (by decide) (fun c_1 => ?_) (fun c_1 => ?_)
  · refine lv_iconst (v := (-1)) hx hb d_Q_handedOutAt_17 (by decide) ?_
    exact zR.iret E hrt hlk (by unfold f_Q_handedOutAt; rw [if_pos c_1]) d_Q_handedOutAt_18
  · refine lv_aload_n hx hb d_Q_handedOutAt_8 rfl (lv_at hl 0 rfl) ?_
    refine z_get (v := .ref (a 5)) E hK hP i_Q 0 4 rfl rfl (by decide) kf_Q_24 rfl d_Q_handedOutAt_9 ?_
    refine lv_iload_n hx hb d_Q_handedOutAt_12 rfl (lv_at hl 1 rfl) ?_
    refine z_ald (f := V 4) E hK hP 5 0 rfl rfl (in_has hc c_1) d_Q_handedOutAt_13 ?_
    refine lv_goto (tgt := 18) hx hb d_Q_handedOutAt_14 (by decide) ?_
    exact zR.iret E hrt hlk (by unfold f_Q_handedOutAt; rw [if_neg c_1]) d_Q_handedOutAt_18
def f_Q_backAt (c : Nat) (V : Nat → Nat → Int32) (number : Int32) : Int32 := (if (f_Q_has c number) = 0 then (-1) else (V 5 number.toNatClampNeg))
set_option maxHeartbeats 4000000 in
set_option maxRecDepth 100000 in
theorem c_Q_backAt (l : Launch) (D : va_G) (cI : ClassId) (a : Nat → Nat) (c : Nat) (V : Nat → Nat → Int32) (number : Int32) (hc : c ≤ 300) : zR l D [(cI, .int)] y_Q_backAt b_Q_backAt 2 (some .int) 2 43 [.ref (a 0), .int number] (wQ a cI (nI c) V) (f_Q_backAt c V number) := by
  refine zR.of (by decide) (Nat.le_of_ble_eq_true rfl) ?_
  intro p e s m below meth c0 ls E hrt hlk hN hK hP hl
  have hx := E.1
  have hb := E.2.1
  have hl : lv_has ls 2 [(0, .ref (a 0)), (1, .int number)] := hl
  refine lv_aload_n hx hb d_Q_backAt_0 rfl (lv_at hl 0 rfl) ?_
  refine lv_iload_n hx hb d_Q_backAt_1 rfl (lv_at hl 1 rfl) ?_
  refine z_rv (As := [.int number]) (rest := []) E hN hK hP hl.1 (c_Q_has l D cI a c V number hc) [0, 1, 2, 3, 4, 5, 6] rfl 0 rfl rfl kz_Q_38 rfl ⟨Nat.le_of_ble_eq_true rfl, Nat.le_of_ble_eq_true rfl⟩ rfl (Nat.le_of_ble_eq_true rfl) ⟨Nat.zero_le _, Nat.zero_le _⟩ d_Q_backAt_2 ?_
  refine lv_if_eq (tgt := 17) hx hb d_Q_backAt_5 (by decide) (fun c_1 => ?_) (fun c_1 => ?_)
  · refine lv_iconst (v := (-1)) hx hb d_Q_backAt_17 (by decide) ?_
    exact zR.iret E hrt hlk (by unfold f_Q_backAt; rw [if_pos c_1]) d_Q_backAt_18
  · refine lv_aload_n hx hb d_Q_backAt_8 rfl (lv_at hl 0 rfl) ?_
    refine z_get (v := .ref (a 6)) E hK hP i_Q 0 5 rfl rfl (by decide) kf_Q_27 rfl d_Q_backAt_9 ?_
    refine lv_iload_n hx hb d_Q_backAt_12 rfl (lv_at hl 1 rfl) ?_
    refine z_ald (f := V 5) E hK hP 6 0 rfl rfl (in_has hc c_1) d_Q_backAt_13 ?_
    refine lv_goto (tgt := 18) hx hb d_Q_backAt_14 (by decide) ?_
    exact zR.iret E hrt hlk (by unfold f_Q_backAt; rw [if_neg c_1]) d_Q_backAt_18
def f_Q_isOpenFor (c : Nat) (V : Nat → Nat → Int32) (number : Int32) (unit : Int32) : Int32 := (if (f_Q_has c number) = 0 then 0 else (if (V 1 number.toNatClampNeg) = unit then (if (V 2 number.toNatClampNeg) = 0 then 1 else 0) else 0))
set_option maxHeartbeats 4000000 in
set_option maxRecDepth 100000 in
theorem c_Q_isOpenFor (l : Launch) (D : va_G) (cI : ClassId) (a : Nat → Nat) (c : Nat) (V : Nat → Nat → Int32) (number : Int32) (unit : Int32) (hc : c ≤ 300) : zR l D [(cI, .int)] y_Q_isOpenFor b_Q_isOpenFor 3 (some .boolean) 2 43 [.ref (a 0), .int number, .int unit] (wQ a cI (nI c) V) (f_Q_isOpenFor c V number unit) := by
  refine zR.of (by decide) (Nat.le_of_ble_eq_true rfl) ?_
  intro p e s m below meth c0 ls E hrt hlk hN hK hP hl
  have hx := E.1
  have hb := E.2.1
  have hl : lv_has ls 3 [(0, .ref (a 0)), (1, .int number), (2, .int unit)] := hl
  refine lv_aload_n hx hb d_Q_isOpenFor_0 rfl (lv_at hl 0 rfl) ?_
  refine lv_iload_n hx hb d_Q_isOpenFor_1 rfl (lv_at hl 1 rfl) ?_
  refine z_rv (As := [.int number]) (rest := []) E hN hK hP hl.1 (c_Q_has l D cI a c V number hc) [0, 1, 2, 3, 4, 5, 6] rfl 0 rfl rfl kz_Q_38 rfl ⟨Nat.le_of_ble_eq_true rfl, Nat.le_of_ble_eq_true rfl⟩ rfl (Nat.le_of_ble_eq_true rfl) ⟨Nat.zero_le _, Nat.zero_le _⟩ d_Q_isOpenFor_2 ?_
  refine lv_if_eq (tgt := 31) hx hb d_Q_isOpenFor_5 (by decide) (fun c_1 => ?_) (fun c_1 => ?_)
  · refine lv_iconst (v := 0) hx hb d_Q_isOpenFor_31 (by decide) ?_
    exact zR.zret E hrt hlk rfl (by unfold f_Q_isOpenFor; rw [if_pos c_1]) d_Q_isOpenFor_32
  · refine lv_aload_n hx hb d_Q_isOpenFor_8 rfl (lv_at hl 0 rfl) ?_
    refine z_get (v := .ref (a 2)) E hK hP i_Q 0 1 rfl rfl (by decide) kf_Q_15 rfl d_Q_isOpenFor_9 ?_
    refine lv_iload_n hx hb d_Q_isOpenFor_12 rfl (lv_at hl 1 rfl) ?_
    refine z_ald (f := V 1) E hK hP 2 0 rfl rfl (in_has hc c_1) d_Q_isOpenFor_13 ?_
    refine lv_iload_n hx hb d_Q_isOpenFor_14 rfl (lv_at hl 2 rfl) ?_
    refine lv_icmp_ne (tgt := 31) hx hb d_Q_isOpenFor_15 (by decide) (fun c_2 => ?_) (fun c_2 => ?_)
    · refine lv_iconst (v := 0) hx hb d_Q_isOpenFor_31 (by decide) ?_
      exact zR.zret E hrt hlk rfl (by unfold f_Q_isOpenFor; rw [if_neg c_1, if_neg c_2]) d_Q_isOpenFor_32
    · refine lv_aload_n hx hb d_Q_isOpenFor_18 rfl (lv_at hl 0 rfl) ?_
      refine z_get (v := .ref (a 3)) E hK hP i_Q 0 2 rfl rfl (by decide) kf_Q_18 rfl d_Q_isOpenFor_19 ?_
      refine lv_iload_n hx hb d_Q_isOpenFor_22 rfl (lv_at hl 1 rfl) ?_
      refine z_ald (f := V 2) E hK hP 3 0 rfl rfl (in_has hc c_1) d_Q_isOpenFor_23 ?_
      refine lv_if_ne (tgt := 31) hx hb d_Q_isOpenFor_24 (by decide) (fun c_3 => ?_) (fun c_3 => ?_)
      · refine lv_iconst (v := 0) hx hb d_Q_isOpenFor_31 (by decide) ?_
        exact zR.zret E hrt hlk rfl (by unfold f_Q_isOpenFor; rw [if_neg c_1, if_pos c_2, if_neg c_3]) d_Q_isOpenFor_32
      · refine lv_iconst (v := 1) hx hb d_Q_isOpenFor_27 (by decide) ?_
        refine lv_goto (tgt := 32) hx hb d_Q_isOpenFor_28 (by decide) ?_
        exact zR.zret E hrt hlk rfl (by unfold f_Q_isOpenFor; rw [if_neg c_1, if_pos c_2, if_pos c_3]) d_Q_isOpenFor_32
def f_Q_isRunningBy (c : Nat) (V : Nat → Nat → Int32) (number : Int32) (person : Int32) : Int32 := (if (f_Q_has c number) = 0 then 0 else (if (V 0 number.toNatClampNeg) = person then (if 2 < (V 2 number.toNatClampNeg) then 0 else 1) else 0))
set_option maxHeartbeats 4000000 in
set_option maxRecDepth 100000 in
theorem c_Q_isRunningBy (l : Launch) (D : va_G) (cI : ClassId) (a : Nat → Nat) (c : Nat) (V : Nat → Nat → Int32) (number : Int32) (person : Int32) (hc : c ≤ 300) : zR l D [(cI, .int)] y_Q_isRunningBy b_Q_isRunningBy 3 (some .boolean) 2 43 [.ref (a 0), .int number, .int person] (wQ a cI (nI c) V) (f_Q_isRunningBy c V number person) := by
  refine zR.of (by decide) (Nat.le_of_ble_eq_true rfl) ?_
  intro p e s m below meth c0 ls E hrt hlk hN hK hP hl
  have hx := E.1
  have hb := E.2.1
  have hl : lv_has ls 3 [(0, .ref (a 0)), (1, .int number), (2, .int person)] := hl
  refine lv_aload_n hx hb d_Q_isRunningBy_0 rfl (lv_at hl 0 rfl) ?_
  refine lv_iload_n hx hb d_Q_isRunningBy_1 rfl (lv_at hl 1 rfl) ?_
  refine z_rv (As := [.int number]) (rest := []) E hN hK hP hl.1 (c_Q_has l D cI a c V number hc) [0, 1, 2, 3, 4, 5, 6] rfl 0 rfl rfl kz_Q_38 rfl ⟨Nat.le_of_ble_eq_true rfl, Nat.le_of_ble_eq_true rfl⟩ rfl (Nat.le_of_ble_eq_true rfl) ⟨Nat.zero_le _, Nat.zero_le _⟩ d_Q_isRunningBy_2 ?_
  refine lv_if_eq (tgt := 32) hx hb d_Q_isRunningBy_5 (by decide) (fun c_1 => ?_) (fun c_1 => ?_)
  · refine lv_iconst (v := 0) hx hb d_Q_isRunningBy_32 (by decide) ?_
    exact zR.zret E hrt hlk rfl (by unfold f_Q_isRunningBy; rw [if_pos c_1]) d_Q_isRunningBy_33
  · refine lv_aload_n hx hb d_Q_isRunningBy_8 rfl (lv_at hl 0 rfl) ?_
    refine z_get (v := .ref (a 1)) E hK hP i_Q 0 0 rfl rfl (by decide) kf_Q_9 rfl d_Q_isRunningBy_9 ?_
    refine lv_iload_n hx hb d_Q_isRunningBy_12 rfl (lv_at hl 1 rfl) ?_
    refine z_ald (f := V 0) E hK hP 1 0 rfl rfl (in_has hc c_1) d_Q_isRunningBy_13 ?_
    refine lv_iload_n hx hb d_Q_isRunningBy_14 rfl (lv_at hl 2 rfl) ?_
    refine lv_icmp_ne (tgt := 32) hx hb d_Q_isRunningBy_15 (by decide) (fun c_2 => ?_) (fun c_2 => ?_)
    · refine lv_iconst (v := 0) hx hb d_Q_isRunningBy_32 (by decide) ?_
      exact zR.zret E hrt hlk rfl (by unfold f_Q_isRunningBy; rw [if_neg c_1, if_neg c_2]) d_Q_isRunningBy_33
    · refine lv_aload_n hx hb d_Q_isRunningBy_18 rfl (lv_at hl 0 rfl) ?_
      refine z_get (v := .ref (a 3)) E hK hP i_Q 0 2 rfl rfl (by decide) kf_Q_18 rfl d_Q_isRunningBy_19 ?_
      refine lv_iload_n hx hb d_Q_isRunningBy_22 rfl (lv_at hl 1 rfl) ?_
      refine z_ald (f := V 2) E hK hP 3 0 rfl rfl (in_has hc c_1) d_Q_isRunningBy_23 ?_
      refine lv_iconst (v := 2) hx hb d_Q_isRunningBy_24 (by decide) ?_
      refine lv_icmp_gt (tgt := 32) hx hb d_Q_isRunningBy_25 (by decide) (fun c_3 => ?_) (fun c_3 => ?_)
      · refine lv_iconst (v := 0) hx hb d_Q_isRunningBy_32 (by decide) ?_
        exact zR.zret E hrt hlk rfl (by unfold f_Q_isRunningBy; rw [if_neg c_1, if_pos c_2, if_pos c_3]) d_Q_isRunningBy_33
      · refine lv_iconst (v := 1) hx hb d_Q_isRunningBy_28 (by decide) ?_
        refine lv_goto (tgt := 33) hx hb d_Q_isRunningBy_29 (by decide) ?_
        exact zR.zret E hrt hlk rfl (by unfold f_Q_isRunningBy; rw [if_neg c_1, if_pos c_2, if_neg c_3]) d_Q_isRunningBy_33
def f_Q_isRunning_L (c : Nat) (V : Nat → Nat → Int32) (person : Int32) (unit : Int32) : Nat → Nat → Int32
  | 0, k0 => 0
  | d + 1, k0 => (if (f_Q_isRunningBy c V (nI k0) person) = 0 then (f_Q_isRunning_L c V person unit d (k0 + 1)) else (if (V 1 k0) = unit then 1 else (f_Q_isRunning_L c V person unit d (k0 + 1))))
theorem f_Q_isRunning_L_0 (c : Nat) (V : Nat → Nat → Int32) (person : Int32) (unit : Int32) (k0 : Nat)  : f_Q_isRunning_L c V person unit 0 k0  = 0 := rfl
theorem f_Q_isRunning_L_s (c : Nat) (V : Nat → Nat → Int32) (person : Int32) (unit : Int32) (d k0 : Nat)  : f_Q_isRunning_L c V person unit (d + 1) k0  = (if (f_Q_isRunningBy c V (nI k0) person) = 0 then (f_Q_isRunning_L c V person unit d (k0 + 1)) else (if (V 1 k0) = unit then 1 else (f_Q_isRunning_L c V person unit d (k0 + 1)))) := rfl
def f_Q_isRunning (c : Nat) (V : Nat → Nat → Int32) (person : Int32) (unit : Int32) : Int32 := (f_Q_isRunning_L c V person unit c 0)
set_option maxHeartbeats 4000000 in
set_option maxRecDepth 100000 in
theorem lp_Q_isRunning (l : Launch) (D : va_G) (cI : ClassId) (a : Nat → Nat) (c : Nat) (V : Nat → Nat → Int32) (person : Int32) (unit : Int32) (hc : c ≤ 300) {p : Program} {e : Env} {s : State} {m : MethodId} {below : List Frame} {meth : Method} {c0 : Code} (E : CallFix p m c0 b_Q_isRunning 4 s ([.ref (a 0), .int person, .int unit] : List Value).toArray zB y_Q_isRunning.cls) (hrt : meth.sig.returnType = (some .boolean)) (hlk : meth.locks = false) (hN : zN s) (hK : va_K D vwCl [(cI, .int)] s) (hP : va_P D vwCl (wQ a cI (nI c) V) s.heap) :
    ∀ (d k0 : Nat) , k0 + d = c → ∀ r : Int32, f_Q_isRunning_L c V person unit d k0  = r → ∀ ls : Array Slot, lv_has ls 4 [(3, .int (nI k0)), (0, .ref (a 0)), (1, .int person), (2, .int unit)] → W p l e { frames := 3, cells := 0, slots := 0, locals := 65 } s m ([.ref (a 0), .int person, .int unit] : List Value).toArray below meth c0 s.heap [] 0 0 (MQ below (QcRead r) ([.ref (a 0), .int person, .int unit] : List Value).toArray s 0 0 (fun _ => False)) (F0 m 2 ls []) := by
  have hx := E.1
  have hb := E.2.1
  intro d
  induction d with
  | zero =>
    intro k0  hkd r hr ls hl
    refine lv_iload_n hx hb d_Q_isRunning_2 rfl (lv_at hl 0 rfl) ?_
    refine lv_aload_n hx hb d_Q_isRunning_3 rfl (lv_at hl 1 rfl) ?_
    refine z_get (v := .int (nI c)) E hK hP i_Q 0 6 rfl rfl (by decide) kf_Q_30 rfl d_Q_isRunning_4 ?_
    refine lv_icmp_ge (tgt := 37) hx hb d_Q_isRunning_7 (by decide) (fun c_1 => ?_) (fun c_1 => absurd (nI_le (by omega) (by omega)) c_1)
    refine lv_iconst (v := 0) hx hb d_Q_isRunning_37 (by decide) ?_
    exact zR.zret E hrt hlk rfl (by rw [← hr, f_Q_isRunning_L_0]) d_Q_isRunning_38
  | succ d ih =>
    intro k0  hkd r hr ls hl
    refine lv_iload_n hx hb d_Q_isRunning_2 rfl (lv_at hl 0 rfl) ?_
    refine lv_aload_n hx hb d_Q_isRunning_3 rfl (lv_at hl 1 rfl) ?_
    refine z_get (v := .int (nI c)) E hK hP i_Q 0 6 rfl rfl (by decide) kf_Q_30 rfl d_Q_isRunning_4 ?_
    refine lv_icmp_ge (tgt := 37) hx hb d_Q_isRunning_7 (by decide) (fun c_2 => absurd c_2 (nI_ge (by omega) (by omega))) (fun c_2 => ?_)
    refine lv_aload_n hx hb d_Q_isRunning_10 rfl (lv_at hl 1 rfl) ?_
    refine lv_iload_n hx hb d_Q_isRunning_11 rfl (lv_at hl 0 rfl) ?_
    refine lv_iload_n hx hb d_Q_isRunning_12 rfl (lv_at hl 2 rfl) ?_
    refine z_rv (As := [.int (nI k0), .int person]) (rest := []) E hN hK hP hl.1 (c_Q_isRunningBy l D cI a c V (nI k0) person hc) [0, 1, 2, 3, 4, 5, 6] rfl 0 rfl rfl kz_Q_42 rfl ⟨Nat.le_of_ble_eq_true rfl, Nat.le_of_ble_eq_true rfl⟩ rfl (Nat.le_of_ble_eq_true rfl) ⟨Nat.zero_le _, Nat.zero_le _⟩ d_Q_isRunning_13 ?_
    refine lv_if_eq (tgt := 31) hx hb d_Q_isRunning_16 (by decide) (fun c_3 => ?_) (fun c_3 => ?_)
    · refine lv_iinc (v := nI (k0 + 1)) (lv' := [(3, .int (nI (k0 + 1))), (0, .ref (a 0)), (1, .int person), (2, .int unit)]) hx hb d_Q_isRunning_31 hl (k := 0) rfl (nI_1 _) (by decide) rfl (fun ls hl => ?_)
      refine lv_goto (tgt := 2) hx hb d_Q_isRunning_34 (by decide) ?_
      exact ih (k0 + 1)  (by omega) r (by rw [← hr, f_Q_isRunning_L_s, if_pos c_3]) ls (lv_sub hl [0, 1, 2, 3] rfl)
    · refine lv_aload_n hx hb d_Q_isRunning_19 rfl (lv_at hl 1 rfl) ?_
      refine z_get (v := .ref (a 2)) E hK hP i_Q 0 1 rfl rfl (by decide) kf_Q_15 rfl d_Q_isRunning_20 ?_
      refine lv_iload_n hx hb d_Q_isRunning_23 rfl (lv_at hl 0 rfl) ?_
      refine z_aldN (f := V 1) (j := k0) E hK hP 2 0 rfl rfl rfl (by omega) (by decide) d_Q_isRunning_24 ?_
      refine lv_iload_n hx hb d_Q_isRunning_25 rfl (lv_at hl 3 rfl) ?_
      refine lv_icmp_ne (tgt := 31) hx hb d_Q_isRunning_26 (by decide) (fun c_4 => ?_) (fun c_4 => ?_)
      · refine lv_iinc (v := nI (k0 + 1)) (lv' := [(3, .int (nI (k0 + 1))), (0, .ref (a 0)), (1, .int person), (2, .int unit)]) hx hb d_Q_isRunning_31 hl (k := 0) rfl (nI_1 _) (by decide) rfl (fun ls hl => ?_)
        refine lv_goto (tgt := 2) hx hb d_Q_isRunning_34 (by decide) ?_
        exact ih (k0 + 1)  (by omega) r (by rw [← hr, f_Q_isRunning_L_s, if_neg c_3, if_neg c_4]) ls (lv_sub hl [0, 1, 2, 3] rfl)
      · refine lv_iconst (v := 1) hx hb d_Q_isRunning_29 (by decide) ?_
        exact zR.zret E hrt hlk rfl (by rw [← hr, f_Q_isRunning_L_s, if_neg c_3, if_pos c_4]) d_Q_isRunning_30
set_option maxHeartbeats 4000000 in
set_option maxRecDepth 100000 in
theorem c_Q_isRunning (l : Launch) (D : va_G) (cI : ClassId) (a : Nat → Nat) (c : Nat) (V : Nat → Nat → Int32) (person : Int32) (unit : Int32) (hc : c ≤ 300) : zR l D [(cI, .int)] y_Q_isRunning b_Q_isRunning 4 (some .boolean) 3 65 [.ref (a 0), .int person, .int unit] (wQ a cI (nI c) V) (f_Q_isRunning c V person unit) := by
  refine zR.of (by decide) (Nat.le_of_ble_eq_true rfl) ?_
  intro p e s m below meth c0 ls E hrt hlk hN hK hP hl
  have hx := E.1
  have hb := E.2.1
  have hl : lv_has ls 4 [(0, .ref (a 0)), (1, .int person), (2, .int unit)] := hl
  refine lv_iconst (v := 0) hx hb d_Q_isRunning_0 (by decide) ?_
  refine lv_istore_n (lv' := [(3, .int 0), (0, .ref (a 0)), (1, .int person), (2, .int unit)]) hx hb d_Q_isRunning_1 rfl hl (by decide) rfl (fun ls hl => ?_)
  exact lp_Q_isRunning l D cI a c V person unit hc E hrt hlk hN hK hP c 0  (by omega) _ (by rfl) ls (by rw [nI_0]; exact lv_sub hl [0, 1, 2, 3] rfl)
def f_Q_countRunning_L (c : Nat) (V : Nat → Nat → Int32) (person : Int32) : Nat → Nat → Int32 → Int32
  | 0, k0, x2 => x2
  | d + 1, k0, x2 => (if (f_Q_isRunningBy c V (nI k0) person) = 0 then (f_Q_countRunning_L c V person d (k0 + 1) x2) else (f_Q_countRunning_L c V person d (k0 + 1) (x2 + 1)))
theorem f_Q_countRunning_L_0 (c : Nat) (V : Nat → Nat → Int32) (person : Int32) (k0 : Nat) (x2 : Int32) : f_Q_countRunning_L c V person 0 k0 x2 = x2 := rfl
theorem f_Q_countRunning_L_s (c : Nat) (V : Nat → Nat → Int32) (person : Int32) (d k0 : Nat) (x2 : Int32) : f_Q_countRunning_L c V person (d + 1) k0 x2 = (if (f_Q_isRunningBy c V (nI k0) person) = 0 then (f_Q_countRunning_L c V person d (k0 + 1) x2) else (f_Q_countRunning_L c V person d (k0 + 1) (x2 + 1))) := rfl
def f_Q_countRunning (c : Nat) (V : Nat → Nat → Int32) (person : Int32) : Int32 := (f_Q_countRunning_L c V person c 0 0)
set_option maxHeartbeats 4000000 in
set_option maxRecDepth 100000 in
theorem lp_Q_countRunning (l : Launch) (D : va_G) (cI : ClassId) (a : Nat → Nat) (c : Nat) (V : Nat → Nat → Int32) (person : Int32) (hc : c ≤ 300) {p : Program} {e : Env} {s : State} {m : MethodId} {below : List Frame} {meth : Method} {c0 : Code} (E : CallFix p m c0 b_Q_countRunning 4 s ([.ref (a 0), .int person] : List Value).toArray zB y_Q_countRunning.cls) (hrt : meth.sig.returnType = (some .int)) (hlk : meth.locks = false) (hN : zN s) (hK : va_K D vwCl [(cI, .int)] s) (hP : va_P D vwCl (wQ a cI (nI c) V) s.heap) :
    ∀ (d k0 : Nat) (x2 : Int32), k0 + d = c → ∀ r : Int32, f_Q_countRunning_L c V person d k0 x2 = r → ∀ ls : Array Slot, lv_has ls 4 [(3, .int (nI k0)), (2, .int x2), (0, .ref (a 0)), (1, .int person)] → W p l e { frames := 3, cells := 0, slots := 0, locals := 65 } s m ([.ref (a 0), .int person] : List Value).toArray below meth c0 s.heap [] 0 0 (MQ below (QcRead r) ([.ref (a 0), .int person] : List Value).toArray s 0 0 (fun _ => False)) (F0 m 4 ls []) := by
  have hx := E.1
  have hb := E.2.1
  intro d
  induction d with
  | zero =>
    intro k0 x2 hkd r hr ls hl
    refine lv_iload_n hx hb d_Q_countRunning_4 rfl (lv_at hl 0 rfl) ?_
    refine lv_aload_n hx hb d_Q_countRunning_5 rfl (lv_at hl 2 rfl) ?_
    refine z_get (v := .int (nI c)) E hK hP i_Q 0 6 rfl rfl (by decide) kf_Q_30 rfl d_Q_countRunning_6 ?_
    refine lv_icmp_ge (tgt := 30) hx hb d_Q_countRunning_9 (by decide) (fun c_1 => ?_) (fun c_1 => absurd (nI_le (by omega) (by omega)) c_1)
    refine lv_iload_n hx hb d_Q_countRunning_30 rfl (lv_at hl 1 rfl) ?_
    exact zR.iret E hrt hlk (by rw [← hr, f_Q_countRunning_L_0]) d_Q_countRunning_31
  | succ d ih =>
    intro k0 x2 hkd r hr ls hl
    refine lv_iload_n hx hb d_Q_countRunning_4 rfl (lv_at hl 0 rfl) ?_
    refine lv_aload_n hx hb d_Q_countRunning_5 rfl (lv_at hl 2 rfl) ?_
    refine z_get (v := .int (nI c)) E hK hP i_Q 0 6 rfl rfl (by decide) kf_Q_30 rfl d_Q_countRunning_6 ?_
    refine lv_icmp_ge (tgt := 30) hx hb d_Q_countRunning_9 (by decide) (fun c_2 => absurd c_2 (nI_ge (by omega) (by omega))) (fun c_2 => ?_)
    refine lv_aload_n hx hb d_Q_countRunning_12 rfl (lv_at hl 2 rfl) ?_
    refine lv_iload_n hx hb d_Q_countRunning_13 rfl (lv_at hl 0 rfl) ?_
    refine lv_iload_n hx hb d_Q_countRunning_14 rfl (lv_at hl 3 rfl) ?_
    refine z_rv (As := [.int (nI k0), .int person]) (rest := []) E hN hK hP hl.1 (c_Q_isRunningBy l D cI a c V (nI k0) person hc) [0, 1, 2, 3, 4, 5, 6] rfl 0 rfl rfl kz_Q_42 rfl ⟨Nat.le_of_ble_eq_true rfl, Nat.le_of_ble_eq_true rfl⟩ rfl (Nat.le_of_ble_eq_true rfl) ⟨Nat.zero_le _, Nat.zero_le _⟩ d_Q_countRunning_15 ?_
    refine lv_if_eq (tgt := 24) hx hb d_Q_countRunning_18 (by decide) (fun c_3 => ?_) (fun c_3 => ?_)
    · refine lv_iinc (v := nI (k0 + 1)) (lv' := [(3, .int (nI (k0 + 1))), (2, .int x2), (0, .ref (a 0)), (1, .int person)]) hx hb d_Q_countRunning_24 hl (k := 0) rfl (nI_1 _) (by decide) rfl (fun ls hl => ?_)
      refine lv_goto (tgt := 4) hx hb d_Q_countRunning_27 (by decide) ?_
      exact ih (k0 + 1) x2 (by omega) r (by rw [← hr, f_Q_countRunning_L_s, if_pos c_3]) ls (lv_sub hl [0, 1, 2, 3] rfl)
    · refine lv_iinc (v := x2 + 1) (lv' := [(2, .int (x2 + 1)), (3, .int (nI k0)), (0, .ref (a 0)), (1, .int person)]) hx hb d_Q_countRunning_21 hl (k := 1) rfl rfl (by decide) rfl (fun ls hl => ?_)
      refine lv_iinc (v := nI (k0 + 1)) (lv' := [(3, .int (nI (k0 + 1))), (2, .int (x2 + 1)), (0, .ref (a 0)), (1, .int person)]) hx hb d_Q_countRunning_24 hl (k := 1) rfl (nI_1 _) (by decide) rfl (fun ls hl => ?_)
      refine lv_goto (tgt := 4) hx hb d_Q_countRunning_27 (by decide) ?_
      exact ih (k0 + 1) (x2 + 1) (by omega) r (by rw [← hr, f_Q_countRunning_L_s, if_neg c_3]) ls (lv_sub hl [0, 1, 2, 3] rfl)
set_option maxHeartbeats 4000000 in
set_option maxRecDepth 100000 in
theorem c_Q_countRunning (l : Launch) (D : va_G) (cI : ClassId) (a : Nat → Nat) (c : Nat) (V : Nat → Nat → Int32) (person : Int32) (hc : c ≤ 300) : zR l D [(cI, .int)] y_Q_countRunning b_Q_countRunning 4 (some .int) 3 65 [.ref (a 0), .int person] (wQ a cI (nI c) V) (f_Q_countRunning c V person) := by
  refine zR.of (by decide) (Nat.le_of_ble_eq_true rfl) ?_
  intro p e s m below meth c0 ls E hrt hlk hN hK hP hl
  have hx := E.1
  have hb := E.2.1
  have hl : lv_has ls 4 [(0, .ref (a 0)), (1, .int person)] := hl
  refine lv_iconst (v := 0) hx hb d_Q_countRunning_0 (by decide) ?_
  refine lv_istore_n (lv' := [(2, .int 0), (0, .ref (a 0)), (1, .int person)]) hx hb d_Q_countRunning_1 rfl hl (by decide) rfl (fun ls hl => ?_)
  refine lv_iconst (v := 0) hx hb d_Q_countRunning_2 (by decide) ?_
  refine lv_istore_n (lv' := [(3, .int 0), (2, .int 0), (0, .ref (a 0)), (1, .int person)]) hx hb d_Q_countRunning_3 rfl hl (by decide) rfl (fun ls hl => ?_)
  exact lp_Q_countRunning l D cI a c V person hc E hrt hlk hN hK hP c 0 0 (by omega) _ (by rfl) ls (by rw [nI_0]; exact lv_sub hl [0, 1, 2, 3] rfl)
def f_Q_countHandedOut_L (V : Nat → Nat → Int32) (person : Int32) : Nat → Nat → Int32 → Int32
  | 0, k0, x2 => x2
  | d + 1, k0, x2 => (if (V 0 k0) = person then (if (V 2 k0) = 2 then (f_Q_countHandedOut_L V person d (k0 + 1) (x2 + 1)) else (f_Q_countHandedOut_L V person d (k0 + 1) x2)) else (f_Q_countHandedOut_L V person d (k0 + 1) x2))
theorem f_Q_countHandedOut_L_0 (V : Nat → Nat → Int32) (person : Int32) (k0 : Nat) (x2 : Int32) : f_Q_countHandedOut_L V person 0 k0 x2 = x2 := rfl
theorem f_Q_countHandedOut_L_s (V : Nat → Nat → Int32) (person : Int32) (d k0 : Nat) (x2 : Int32) : f_Q_countHandedOut_L V person (d + 1) k0 x2 = (if (V 0 k0) = person then (if (V 2 k0) = 2 then (f_Q_countHandedOut_L V person d (k0 + 1) (x2 + 1)) else (f_Q_countHandedOut_L V person d (k0 + 1) x2)) else (f_Q_countHandedOut_L V person d (k0 + 1) x2)) := rfl
def f_Q_countHandedOut (c : Nat) (V : Nat → Nat → Int32) (person : Int32) : Int32 := (f_Q_countHandedOut_L V person c 0 0)
set_option maxHeartbeats 4000000 in
set_option maxRecDepth 100000 in
theorem lp_Q_countHandedOut (l : Launch) (D : va_G) (cI : ClassId) (a : Nat → Nat) (c : Nat) (V : Nat → Nat → Int32) (person : Int32) (hc : c ≤ 300) {p : Program} {e : Env} {s : State} {m : MethodId} {below : List Frame} {meth : Method} {c0 : Code} (E : CallFix p m c0 b_Q_countHandedOut 4 s ([.ref (a 0), .int person] : List Value).toArray zB y_Q_countHandedOut.cls) (hrt : meth.sig.returnType = (some .int)) (hlk : meth.locks = false) (hN : zN s) (hK : va_K D vwCl [(cI, .int)] s) (hP : va_P D vwCl (wQ a cI (nI c) V) s.heap) :
    ∀ (d k0 : Nat) (x2 : Int32), k0 + d = c → ∀ r : Int32, f_Q_countHandedOut_L V person d k0 x2 = r → ∀ ls : Array Slot, lv_has ls 4 [(3, .int (nI k0)), (2, .int x2), (0, .ref (a 0)), (1, .int person)] → W p l e { frames := 0, cells := 0, slots := 0, locals := 0 } s m ([.ref (a 0), .int person] : List Value).toArray below meth c0 s.heap [] 0 0 (MQ below (QcRead r) ([.ref (a 0), .int person] : List Value).toArray s 0 0 (fun _ => False)) (F0 m 4 ls []) := by
  have hx := E.1
  have hb := E.2.1
  intro d
  induction d with
  | zero =>
    intro k0 x2 hkd r hr ls hl
    refine lv_iload_n hx hb d_Q_countHandedOut_4 rfl (lv_at hl 0 rfl) ?_
    refine lv_aload_n hx hb d_Q_countHandedOut_5 rfl (lv_at hl 2 rfl) ?_
    refine z_get (v := .int (nI c)) E hK hP i_Q 0 6 rfl rfl (by decide) kf_Q_30 rfl d_Q_countHandedOut_6 ?_
    refine lv_icmp_ge (tgt := 41) hx hb d_Q_countHandedOut_9 (by decide) (fun c_1 => ?_) (fun c_1 => absurd (nI_le (by omega) (by omega)) c_1)
    refine lv_iload_n hx hb d_Q_countHandedOut_41 rfl (lv_at hl 1 rfl) ?_
    exact zR.iret E hrt hlk (by rw [← hr, f_Q_countHandedOut_L_0]) d_Q_countHandedOut_42
  | succ d ih =>
    intro k0 x2 hkd r hr ls hl
    refine lv_iload_n hx hb d_Q_countHandedOut_4 rfl (lv_at hl 0 rfl) ?_
    refine lv_aload_n hx hb d_Q_countHandedOut_5 rfl (lv_at hl 2 rfl) ?_
    refine z_get (v := .int (nI c)) E hK hP i_Q 0 6 rfl rfl (by decide) kf_Q_30 rfl d_Q_countHandedOut_6 ?_
    refine lv_icmp_ge (tgt := 41) hx hb d_Q_countHandedOut_9 (by decide) (fun c_2 => absurd c_2 (nI_ge (by omega) (by omega))) (fun c_2 => ?_)
    refine lv_aload_n hx hb d_Q_countHandedOut_12 rfl (lv_at hl 2 rfl) ?_
    refine z_get (v := .ref (a 1)) E hK hP i_Q 0 0 rfl rfl (by decide) kf_Q_9 rfl d_Q_countHandedOut_13 ?_
    refine lv_iload_n hx hb d_Q_countHandedOut_16 rfl (lv_at hl 0 rfl) ?_
    refine z_aldN (f := V 0) (j := k0) E hK hP 1 0 rfl rfl rfl (by omega) (by decide) d_Q_countHandedOut_17 ?_
    refine lv_iload_n hx hb d_Q_countHandedOut_18 rfl (lv_at hl 3 rfl) ?_
    refine lv_icmp_ne (tgt := 35) hx hb d_Q_countHandedOut_19 (by decide) (fun c_3 => ?_) (fun c_3 => ?_)
    · refine lv_iinc (v := nI (k0 + 1)) (lv' := [(3, .int (nI (k0 + 1))), (2, .int x2), (0, .ref (a 0)), (1, .int person)]) hx hb d_Q_countHandedOut_35 hl (k := 0) rfl (nI_1 _) (by decide) rfl (fun ls hl => ?_)
      refine lv_goto (tgt := 4) hx hb d_Q_countHandedOut_38 (by decide) ?_
      exact ih (k0 + 1) x2 (by omega) r (by rw [← hr, f_Q_countHandedOut_L_s, if_neg c_3]) ls (lv_sub hl [0, 1, 2, 3] rfl)
    · refine lv_aload_n hx hb d_Q_countHandedOut_22 rfl (lv_at hl 2 rfl) ?_
      refine z_get (v := .ref (a 3)) E hK hP i_Q 0 2 rfl rfl (by decide) kf_Q_18 rfl d_Q_countHandedOut_23 ?_
      refine lv_iload_n hx hb d_Q_countHandedOut_26 rfl (lv_at hl 0 rfl) ?_
      refine z_aldN (f := V 2) (j := k0) E hK hP 3 0 rfl rfl rfl (by omega) (by decide) d_Q_countHandedOut_27 ?_
      refine lv_iconst (v := 2) hx hb d_Q_countHandedOut_28 (by decide) ?_
      refine lv_icmp_ne (tgt := 35) hx hb d_Q_countHandedOut_29 (by decide) (fun c_4 => ?_) (fun c_4 => ?_)
      · refine lv_iinc (v := nI (k0 + 1)) (lv' := [(3, .int (nI (k0 + 1))), (2, .int x2), (0, .ref (a 0)), (1, .int person)]) hx hb d_Q_countHandedOut_35 hl (k := 0) rfl (nI_1 _) (by decide) rfl (fun ls hl => ?_)
        refine lv_goto (tgt := 4) hx hb d_Q_countHandedOut_38 (by decide) ?_
        exact ih (k0 + 1) x2 (by omega) r (by rw [← hr, f_Q_countHandedOut_L_s, if_pos c_3, if_neg c_4]) ls (lv_sub hl [0, 1, 2, 3] rfl)
      · refine lv_iinc (v := x2 + 1) (lv' := [(2, .int (x2 + 1)), (3, .int (nI k0)), (0, .ref (a 0)), (1, .int person)]) hx hb d_Q_countHandedOut_32 hl (k := 1) rfl rfl (by decide) rfl (fun ls hl => ?_)
        refine lv_iinc (v := nI (k0 + 1)) (lv' := [(3, .int (nI (k0 + 1))), (2, .int (x2 + 1)), (0, .ref (a 0)), (1, .int person)]) hx hb d_Q_countHandedOut_35 hl (k := 1) rfl (nI_1 _) (by decide) rfl (fun ls hl => ?_)
        refine lv_goto (tgt := 4) hx hb d_Q_countHandedOut_38 (by decide) ?_
        exact ih (k0 + 1) (x2 + 1) (by omega) r (by rw [← hr, f_Q_countHandedOut_L_s, if_pos c_3, if_pos c_4]) ls (lv_sub hl [0, 1, 2, 3] rfl)
set_option maxHeartbeats 4000000 in
set_option maxRecDepth 100000 in
theorem c_Q_countHandedOut (l : Launch) (D : va_G) (cI : ClassId) (a : Nat → Nat) (c : Nat) (V : Nat → Nat → Int32) (person : Int32) (hc : c ≤ 300) : zR l D [(cI, .int)] y_Q_countHandedOut b_Q_countHandedOut 4 (some .int) 0 0 [.ref (a 0), .int person] (wQ a cI (nI c) V) (f_Q_countHandedOut c V person) := by
  refine zR.of (by decide) (Nat.le_of_ble_eq_true rfl) ?_
  intro p e s m below meth c0 ls E hrt hlk hN hK hP hl
  have hx := E.1
  have hb := E.2.1
  have hl : lv_has ls 4 [(0, .ref (a 0)), (1, .int person)] := hl
  refine lv_iconst (v := 0) hx hb d_Q_countHandedOut_0 (by decide) ?_
  refine lv_istore_n (lv' := [(2, .int 0), (0, .ref (a 0)), (1, .int person)]) hx hb d_Q_countHandedOut_1 rfl hl (by decide) rfl (fun ls hl => ?_)
  refine lv_iconst (v := 0) hx hb d_Q_countHandedOut_2 (by decide) ?_
  refine lv_istore_n (lv' := [(3, .int 0), (2, .int 0), (0, .ref (a 0)), (1, .int person)]) hx hb d_Q_countHandedOut_3 rfl hl (by decide) rfl (fun ls hl => ?_)
  exact lp_Q_countHandedOut l D cI a c V person hc E hrt hlk hN hK hP c 0 0 (by omega) _ (by rfl) ls (by rw [nI_0]; exact lv_sub hl [0, 1, 2, 3] rfl)
def f_Q_countOpen_L (c : Nat) (V : Nat → Nat → Int32) (unit : Int32) : Nat → Nat → Int32 → Int32
  | 0, k0, x2 => x2
  | d + 1, k0, x2 => (if (f_Q_isOpenFor c V (nI k0) unit) = 0 then (f_Q_countOpen_L c V unit d (k0 + 1) x2) else (f_Q_countOpen_L c V unit d (k0 + 1) (x2 + 1)))
theorem f_Q_countOpen_L_0 (c : Nat) (V : Nat → Nat → Int32) (unit : Int32) (k0 : Nat) (x2 : Int32) : f_Q_countOpen_L c V unit 0 k0 x2 = x2 := rfl
theorem f_Q_countOpen_L_s (c : Nat) (V : Nat → Nat → Int32) (unit : Int32) (d k0 : Nat) (x2 : Int32) : f_Q_countOpen_L c V unit (d + 1) k0 x2 = (if (f_Q_isOpenFor c V (nI k0) unit) = 0 then (f_Q_countOpen_L c V unit d (k0 + 1) x2) else (f_Q_countOpen_L c V unit d (k0 + 1) (x2 + 1))) := rfl
def f_Q_countOpen (c : Nat) (V : Nat → Nat → Int32) (unit : Int32) : Int32 := (f_Q_countOpen_L c V unit c 0 0)
set_option maxHeartbeats 4000000 in
set_option maxRecDepth 100000 in
theorem lp_Q_countOpen (l : Launch) (D : va_G) (cI : ClassId) (a : Nat → Nat) (c : Nat) (V : Nat → Nat → Int32) (unit : Int32) (hc : c ≤ 300) {p : Program} {e : Env} {s : State} {m : MethodId} {below : List Frame} {meth : Method} {c0 : Code} (E : CallFix p m c0 b_Q_countOpen 4 s ([.ref (a 0), .int unit] : List Value).toArray zB y_Q_countOpen.cls) (hrt : meth.sig.returnType = (some .int)) (hlk : meth.locks = false) (hN : zN s) (hK : va_K D vwCl [(cI, .int)] s) (hP : va_P D vwCl (wQ a cI (nI c) V) s.heap) :
    ∀ (d k0 : Nat) (x2 : Int32), k0 + d = c → ∀ r : Int32, f_Q_countOpen_L c V unit d k0 x2 = r → ∀ ls : Array Slot, lv_has ls 4 [(3, .int (nI k0)), (2, .int x2), (0, .ref (a 0)), (1, .int unit)] → W p l e { frames := 3, cells := 0, slots := 0, locals := 65 } s m ([.ref (a 0), .int unit] : List Value).toArray below meth c0 s.heap [] 0 0 (MQ below (QcRead r) ([.ref (a 0), .int unit] : List Value).toArray s 0 0 (fun _ => False)) (F0 m 4 ls []) := by
  have hx := E.1
  have hb := E.2.1
  intro d
  induction d with
  | zero =>
    intro k0 x2 hkd r hr ls hl
    refine lv_iload_n hx hb d_Q_countOpen_4 rfl (lv_at hl 0 rfl) ?_
    refine lv_aload_n hx hb d_Q_countOpen_5 rfl (lv_at hl 2 rfl) ?_
    refine z_get (v := .int (nI c)) E hK hP i_Q 0 6 rfl rfl (by decide) kf_Q_30 rfl d_Q_countOpen_6 ?_
    refine lv_icmp_ge (tgt := 30) hx hb d_Q_countOpen_9 (by decide) (fun c_1 => ?_) (fun c_1 => absurd (nI_le (by omega) (by omega)) c_1)
    refine lv_iload_n hx hb d_Q_countOpen_30 rfl (lv_at hl 1 rfl) ?_
    exact zR.iret E hrt hlk (by rw [← hr, f_Q_countOpen_L_0]) d_Q_countOpen_31
  | succ d ih =>
    intro k0 x2 hkd r hr ls hl
    refine lv_iload_n hx hb d_Q_countOpen_4 rfl (lv_at hl 0 rfl) ?_
    refine lv_aload_n hx hb d_Q_countOpen_5 rfl (lv_at hl 2 rfl) ?_
    refine z_get (v := .int (nI c)) E hK hP i_Q 0 6 rfl rfl (by decide) kf_Q_30 rfl d_Q_countOpen_6 ?_
    refine lv_icmp_ge (tgt := 30) hx hb d_Q_countOpen_9 (by decide) (fun c_2 => absurd c_2 (nI_ge (by omega) (by omega))) (fun c_2 => ?_)
    refine lv_aload_n hx hb d_Q_countOpen_12 rfl (lv_at hl 2 rfl) ?_
    refine lv_iload_n hx hb d_Q_countOpen_13 rfl (lv_at hl 0 rfl) ?_
    refine lv_iload_n hx hb d_Q_countOpen_14 rfl (lv_at hl 3 rfl) ?_
    refine z_rv (As := [.int (nI k0), .int unit]) (rest := []) E hN hK hP hl.1 (c_Q_isOpenFor l D cI a c V (nI k0) unit hc) [0, 1, 2, 3, 4, 5, 6] rfl 0 rfl rfl kz_Q_46 rfl ⟨Nat.le_of_ble_eq_true rfl, Nat.le_of_ble_eq_true rfl⟩ rfl (Nat.le_of_ble_eq_true rfl) ⟨Nat.zero_le _, Nat.zero_le _⟩ d_Q_countOpen_15 ?_
    refine lv_if_eq (tgt := 24) hx hb d_Q_countOpen_18 (by decide) (fun c_3 => ?_) (fun c_3 => ?_)
    · refine lv_iinc (v := nI (k0 + 1)) (lv' := [(3, .int (nI (k0 + 1))), (2, .int x2), (0, .ref (a 0)), (1, .int unit)]) hx hb d_Q_countOpen_24 hl (k := 0) rfl (nI_1 _) (by decide) rfl (fun ls hl => ?_)
      refine lv_goto (tgt := 4) hx hb d_Q_countOpen_27 (by decide) ?_
      exact ih (k0 + 1) x2 (by omega) r (by rw [← hr, f_Q_countOpen_L_s, if_pos c_3]) ls (lv_sub hl [0, 1, 2, 3] rfl)
    · refine lv_iinc (v := x2 + 1) (lv' := [(2, .int (x2 + 1)), (3, .int (nI k0)), (0, .ref (a 0)), (1, .int unit)]) hx hb d_Q_countOpen_21 hl (k := 1) rfl rfl (by decide) rfl (fun ls hl => ?_)
      refine lv_iinc (v := nI (k0 + 1)) (lv' := [(3, .int (nI (k0 + 1))), (2, .int (x2 + 1)), (0, .ref (a 0)), (1, .int unit)]) hx hb d_Q_countOpen_24 hl (k := 1) rfl (nI_1 _) (by decide) rfl (fun ls hl => ?_)
      refine lv_goto (tgt := 4) hx hb d_Q_countOpen_27 (by decide) ?_
      exact ih (k0 + 1) (x2 + 1) (by omega) r (by rw [← hr, f_Q_countOpen_L_s, if_neg c_3]) ls (lv_sub hl [0, 1, 2, 3] rfl)
set_option maxHeartbeats 4000000 in
set_option maxRecDepth 100000 in
theorem c_Q_countOpen (l : Launch) (D : va_G) (cI : ClassId) (a : Nat → Nat) (c : Nat) (V : Nat → Nat → Int32) (unit : Int32) (hc : c ≤ 300) : zR l D [(cI, .int)] y_Q_countOpen b_Q_countOpen 4 (some .int) 3 65 [.ref (a 0), .int unit] (wQ a cI (nI c) V) (f_Q_countOpen c V unit) := by
  refine zR.of (by decide) (Nat.le_of_ble_eq_true rfl) ?_
  intro p e s m below meth c0 ls E hrt hlk hN hK hP hl
  have hx := E.1
  have hb := E.2.1
  have hl : lv_has ls 4 [(0, .ref (a 0)), (1, .int unit)] := hl
  refine lv_iconst (v := 0) hx hb d_Q_countOpen_0 (by decide) ?_
  refine lv_istore_n (lv' := [(2, .int 0), (0, .ref (a 0)), (1, .int unit)]) hx hb d_Q_countOpen_1 rfl hl (by decide) rfl (fun ls hl => ?_)
  refine lv_iconst (v := 0) hx hb d_Q_countOpen_2 (by decide) ?_
  refine lv_istore_n (lv' := [(3, .int 0), (2, .int 0), (0, .ref (a 0)), (1, .int unit)]) hx hb d_Q_countOpen_3 rfl hl (by decide) rfl (fun ls hl => ?_)
  exact lp_Q_countOpen l D cI a c V unit hc E hrt hlk hN hK hP c 0 0 (by omega) _ (by rfl) ls (by rw [nI_0]; exact lv_sub hl [0, 1, 2, 3] rfl)
def f_Q_openOf_L (c : Nat) (V : Nat → Nat → Int32) (unit : Int32) (index : Int32) : Nat → Nat → Int32 → Int32
  | 0, k0, x3 => (-1)
  | d + 1, k0, x3 => (if (f_Q_isOpenFor c V (nI k0) unit) = 0 then (f_Q_openOf_L c V unit index d (k0 + 1) x3) else (if x3 = index then (nI k0) else (f_Q_openOf_L c V unit index d (k0 + 1) (x3 + 1))))
theorem f_Q_openOf_L_0 (c : Nat) (V : Nat → Nat → Int32) (unit : Int32) (index : Int32) (k0 : Nat) (x3 : Int32) : f_Q_openOf_L c V unit index 0 k0 x3 = (-1) := rfl
theorem f_Q_openOf_L_s (c : Nat) (V : Nat → Nat → Int32) (unit : Int32) (index : Int32) (d k0 : Nat) (x3 : Int32) : f_Q_openOf_L c V unit index (d + 1) k0 x3 = (if (f_Q_isOpenFor c V (nI k0) unit) = 0 then (f_Q_openOf_L c V unit index d (k0 + 1) x3) else (if x3 = index then (nI k0) else (f_Q_openOf_L c V unit index d (k0 + 1) (x3 + 1)))) := rfl
def f_Q_openOf (c : Nat) (V : Nat → Nat → Int32) (unit : Int32) (index : Int32) : Int32 := (f_Q_openOf_L c V unit index c 0 0)
set_option maxHeartbeats 4000000 in
set_option maxRecDepth 100000 in
theorem lp_Q_openOf (l : Launch) (D : va_G) (cI : ClassId) (a : Nat → Nat) (c : Nat) (V : Nat → Nat → Int32) (unit : Int32) (index : Int32) (hc : c ≤ 300) {p : Program} {e : Env} {s : State} {m : MethodId} {below : List Frame} {meth : Method} {c0 : Code} (E : CallFix p m c0 b_Q_openOf 5 s ([.ref (a 0), .int unit, .int index] : List Value).toArray zB y_Q_openOf.cls) (hrt : meth.sig.returnType = (some .int)) (hlk : meth.locks = false) (hN : zN s) (hK : va_K D vwCl [(cI, .int)] s) (hP : va_P D vwCl (wQ a cI (nI c) V) s.heap) :
    ∀ (d k0 : Nat) (x3 : Int32), k0 + d = c → ∀ r : Int32, f_Q_openOf_L c V unit index d k0 x3 = r → ∀ ls : Array Slot, lv_has ls 5 [(4, .int (nI k0)), (3, .int x3), (0, .ref (a 0)), (1, .int unit), (2, .int index)] → W p l e { frames := 3, cells := 0, slots := 0, locals := 65 } s m ([.ref (a 0), .int unit, .int index] : List Value).toArray below meth c0 s.heap [] 0 0 (MQ below (QcRead r) ([.ref (a 0), .int unit, .int index] : List Value).toArray s 0 0 (fun _ => False)) (F0 m 5 ls []) := by
  have hx := E.1
  have hb := E.2.1
  intro d
  induction d with
  | zero =>
    intro k0 x3 hkd r hr ls hl
    refine lv_iload hx hb d_Q_openOf_5 (lv_at hl 0 rfl) ?_
    refine lv_aload_n hx hb d_Q_openOf_7 rfl (lv_at hl 2 rfl) ?_
    refine z_get (v := .int (nI c)) E hK hP i_Q 0 6 rfl rfl (by decide) kf_Q_30 rfl d_Q_openOf_8 ?_
    refine lv_icmp_ge (tgt := 41) hx hb d_Q_openOf_11 (by decide) (fun c_1 => ?_) (fun c_1 => absurd (nI_le (by omega) (by omega)) c_1)
    refine lv_iconst (v := (-1)) hx hb d_Q_openOf_41 (by decide) ?_
    exact zR.iret E hrt hlk (by rw [← hr, f_Q_openOf_L_0]) d_Q_openOf_42
  | succ d ih =>
    intro k0 x3 hkd r hr ls hl
    refine lv_iload hx hb d_Q_openOf_5 (lv_at hl 0 rfl) ?_
    refine lv_aload_n hx hb d_Q_openOf_7 rfl (lv_at hl 2 rfl) ?_
    refine z_get (v := .int (nI c)) E hK hP i_Q 0 6 rfl rfl (by decide) kf_Q_30 rfl d_Q_openOf_8 ?_
    refine lv_icmp_ge (tgt := 41) hx hb d_Q_openOf_11 (by decide) (fun c_2 => absurd c_2 (nI_ge (by omega) (by omega))) (fun c_2 => ?_)
    refine lv_aload_n hx hb d_Q_openOf_14 rfl (lv_at hl 2 rfl) ?_
    refine lv_iload hx hb d_Q_openOf_15 (lv_at hl 0 rfl) ?_
    refine lv_iload_n hx hb d_Q_openOf_17 rfl (lv_at hl 3 rfl) ?_
    refine z_rv (As := [.int (nI k0), .int unit]) (rest := []) E hN hK hP hl.1 (c_Q_isOpenFor l D cI a c V (nI k0) unit hc) [0, 1, 2, 3, 4, 5, 6] rfl 0 rfl rfl kz_Q_46 rfl ⟨Nat.le_of_ble_eq_true rfl, Nat.le_of_ble_eq_true rfl⟩ rfl (Nat.le_of_ble_eq_true rfl) ⟨Nat.zero_le _, Nat.zero_le _⟩ d_Q_openOf_18 ?_
    refine lv_if_eq (tgt := 35) hx hb d_Q_openOf_21 (by decide) (fun c_3 => ?_) (fun c_3 => ?_)
    · refine lv_iinc (v := nI (k0 + 1)) (lv' := [(4, .int (nI (k0 + 1))), (3, .int x3), (0, .ref (a 0)), (1, .int unit), (2, .int index)]) hx hb d_Q_openOf_35 hl (k := 0) rfl (nI_1 _) (by decide) rfl (fun ls hl => ?_)
      refine lv_goto (tgt := 5) hx hb d_Q_openOf_38 (by decide) ?_
      exact ih (k0 + 1) x3 (by omega) r (by rw [← hr, f_Q_openOf_L_s, if_pos c_3]) ls (lv_sub hl [0, 1, 2, 3, 4] rfl)
    · refine lv_iload_n hx hb d_Q_openOf_24 rfl (lv_at hl 1 rfl) ?_
      refine lv_iload_n hx hb d_Q_openOf_25 rfl (lv_at hl 4 rfl) ?_
      refine lv_icmp_ne (tgt := 32) hx hb d_Q_openOf_26 (by decide) (fun c_4 => ?_) (fun c_4 => ?_)
      · refine lv_iinc (v := x3 + 1) (lv' := [(3, .int (x3 + 1)), (4, .int (nI k0)), (0, .ref (a 0)), (1, .int unit), (2, .int index)]) hx hb d_Q_openOf_32 hl (k := 1) rfl rfl (by decide) rfl (fun ls hl => ?_)
        refine lv_iinc (v := nI (k0 + 1)) (lv' := [(4, .int (nI (k0 + 1))), (3, .int (x3 + 1)), (0, .ref (a 0)), (1, .int unit), (2, .int index)]) hx hb d_Q_openOf_35 hl (k := 1) rfl (nI_1 _) (by decide) rfl (fun ls hl => ?_)
        refine lv_goto (tgt := 5) hx hb d_Q_openOf_38 (by decide) ?_
        exact ih (k0 + 1) (x3 + 1) (by omega) r (by rw [← hr, f_Q_openOf_L_s, if_neg c_3, if_neg c_4]) ls (lv_sub hl [0, 1, 2, 3, 4] rfl)
      · refine lv_iload hx hb d_Q_openOf_29 (lv_at hl 0 rfl) ?_
        exact zR.iret E hrt hlk (by rw [← hr, f_Q_openOf_L_s, if_neg c_3, if_pos c_4]) d_Q_openOf_31
set_option maxHeartbeats 4000000 in
set_option maxRecDepth 100000 in
theorem c_Q_openOf (l : Launch) (D : va_G) (cI : ClassId) (a : Nat → Nat) (c : Nat) (V : Nat → Nat → Int32) (unit : Int32) (index : Int32) (hc : c ≤ 300) : zR l D [(cI, .int)] y_Q_openOf b_Q_openOf 5 (some .int) 3 65 [.ref (a 0), .int unit, .int index] (wQ a cI (nI c) V) (f_Q_openOf c V unit index) := by
  refine zR.of (by decide) (Nat.le_of_ble_eq_true rfl) ?_
  intro p e s m below meth c0 ls E hrt hlk hN hK hP hl
  have hx := E.1
  have hb := E.2.1
  have hl : lv_has ls 5 [(0, .ref (a 0)), (1, .int unit), (2, .int index)] := hl
  refine lv_iconst (v := 0) hx hb d_Q_openOf_0 (by decide) ?_
  refine lv_istore_n (lv' := [(3, .int 0), (0, .ref (a 0)), (1, .int unit), (2, .int index)]) hx hb d_Q_openOf_1 rfl hl (by decide) rfl (fun ls hl => ?_)
  refine lv_iconst (v := 0) hx hb d_Q_openOf_2 (by decide) ?_
  refine lv_istore (lv' := [(4, .int 0), (3, .int 0), (0, .ref (a 0)), (1, .int unit), (2, .int index)]) hx hb d_Q_openOf_3 hl (by decide) rfl (fun ls hl => ?_)
  exact lp_Q_openOf l D cI a c V unit index hc E hrt hlk hN hK hP c 0 0 (by omega) _ (by rfl) ls (by rw [nI_0]; exact lv_sub hl [0, 1, 2, 3, 4] rfl)
def f_Q_add (c : Nat) (V : Nat → Nat → Int32) (person : Int32) (unit : Int32) (t : Int32) : Int32 × Int32 × (Nat → Nat → Int32) := (if (f_Q_isFull c) = 0 then (nI c, (nI c) + 1, up2 (up2 (up2 (up2 (up2 (up2 V 0 c person) 1 c unit) 2 c 0) 3 c t) 4 c (-1)) 5 c (-1)) else ((-4), nI c, V))
set_option maxHeartbeats 4000000 in
set_option maxRecDepth 100000 in
theorem c_Q_add (l : Launch) (D : va_G) (cI : ClassId) (a : Nat → Nat) (c : Nat) (V : Nat → Nat → Int32) (person : Int32) (unit : Int32) (t : Int32) (hc : c ≤ 300) : zW l D [(cI, .int)] y_Q_add b_Q_add 5 (some .int) 1 20 [.ref (a 0), .int person, .int unit, .int t] (wQ a cI (nI c) V) (wQ a cI ((f_Q_add c V person unit t).2.1) ((f_Q_add c V person unit t).2.2)) (some (.int (f_Q_add c V person unit t).1)) := by
  refine zW.of (by decide) (Nat.le_of_ble_eq_true rfl) ?_
  intro p e s m below meth c0 ls A E hrt hlk hN hK hA G hl
  have hx := E.1
  have hb := E.2.1
  have hl : lv_has ls 5 [(0, .ref (a 0)), (1, .int person), (2, .int unit), (3, .int t)] := hl
  refine lv_aload_n hx hb d_Q_add_0 rfl (lv_at hl 0 rfl) ?_
  refine z_rv (As := []) (rest := []) E hN hK G.1 hl.1 (c_Q_isFull l D cI a c V  hc) [0, 1, 2, 3, 4, 5, 6] rfl 0 rfl rfl kz_Q_49 rfl ⟨Nat.le_of_ble_eq_true rfl, Nat.le_of_ble_eq_true rfl⟩ rfl (Nat.le_of_ble_eq_true rfl) ⟨Nat.zero_le _, Nat.zero_le _⟩ d_Q_add_1 ?_
  refine lv_if_eq (tgt := 10) hx hb d_Q_add_4 (by decide) (fun c_1 => ?_) (fun c_1 => ?_)
  · have h300 : c < 300 := full_lt hc c_1
    refine lv_aload_n hx hb d_Q_add_10 rfl (lv_at hl 0 rfl) ?_
    refine z_get (v := .int (nI c)) E hK G.1 i_Q 0 6 rfl rfl (by decide) kf_Q_30 rfl d_Q_add_11 ?_
    refine lv_istore (lv' := [(4, .int (nI c)), (0, .ref (a 0)), (1, .int person), (2, .int unit), (3, .int t)]) hx hb d_Q_add_14 hl (by decide) rfl (fun ls hl => ?_)
    refine lv_aload_n hx hb d_Q_add_16 rfl (lv_at hl 1 rfl) ?_
    refine z_get (v := .ref (a 1)) E hK G.1 i_Q 0 0 rfl rfl (by decide) kf_Q_9 rfl d_Q_add_17 ?_
    refine lv_iload hx hb d_Q_add_20 (lv_at hl 0 rfl) ?_
    refine lv_iload_n hx hb d_Q_add_22 rfl (lv_at hl 2 rfl) ?_
    refine z_astN (f := V 0) (j := c) (ws' := wQ a cI (nI c) (up2 V 0 c person)) E hK G 1 0 rfl rfl rfl (by omega) (by decide) rfl d_Q_add_23 (fun H locs G => ?_)
    refine lv_aload_n hx hb d_Q_add_24 rfl (lv_at hl 1 rfl) ?_
    refine z_get (v := .ref (a 2)) E hK G.1 i_Q 0 1 rfl rfl (by decide) kf_Q_15 rfl d_Q_add_25 ?_
    refine lv_iload hx hb d_Q_add_28 (lv_at hl 0 rfl) ?_
    refine lv_iload_n hx hb d_Q_add_30 rfl (lv_at hl 3 rfl) ?_
    refine z_astN (f := (up2 V 0 c person) 1) (j := c) (ws' := wQ a cI (nI c) (up2 (up2 V 0 c person) 1 c unit)) E hK G 2 0 rfl rfl rfl (by omega) (by decide) rfl d_Q_add_31 (fun H locs G => ?_)
    refine lv_aload_n hx hb d_Q_add_32 rfl (lv_at hl 1 rfl) ?_
    refine z_get (v := .ref (a 3)) E hK G.1 i_Q 0 2 rfl rfl (by decide) kf_Q_18 rfl d_Q_add_33 ?_
    refine lv_iload hx hb d_Q_add_36 (lv_at hl 0 rfl) ?_
    refine lv_iconst (v := 0) hx hb d_Q_add_38 (by decide) ?_
    refine z_astN (f := (up2 (up2 V 0 c person) 1 c unit) 2) (j := c) (ws' := wQ a cI (nI c) (up2 (up2 (up2 V 0 c person) 1 c unit) 2 c 0)) E hK G 3 0 rfl rfl rfl (by omega) (by decide) rfl d_Q_add_39 (fun H locs G => ?_)
    refine lv_aload_n hx hb d_Q_add_40 rfl (lv_at hl 1 rfl) ?_
    refine z_get (v := .ref (a 4)) E hK G.1 i_Q 0 3 rfl rfl (by decide) kf_Q_21 rfl d_Q_add_41 ?_
    refine lv_iload hx hb d_Q_add_44 (lv_at hl 0 rfl) ?_
    refine lv_iload_n hx hb d_Q_add_46 rfl (lv_at hl 4 rfl) ?_
    refine z_astN (f := (up2 (up2 (up2 V 0 c person) 1 c unit) 2 c 0) 3) (j := c) (ws' := wQ a cI (nI c) (up2 (up2 (up2 (up2 V 0 c person) 1 c unit) 2 c 0) 3 c t)) E hK G 4 0 rfl rfl rfl (by omega) (by decide) rfl d_Q_add_47 (fun H locs G => ?_)
    refine lv_aload_n hx hb d_Q_add_48 rfl (lv_at hl 1 rfl) ?_
    refine z_get (v := .ref (a 5)) E hK G.1 i_Q 0 4 rfl rfl (by decide) kf_Q_24 rfl d_Q_add_49 ?_
    refine lv_iload hx hb d_Q_add_52 (lv_at hl 0 rfl) ?_
    refine lv_iconst (v := (-1)) hx hb d_Q_add_54 (by decide) ?_
    refine z_astN (f := (up2 (up2 (up2 (up2 V 0 c person) 1 c unit) 2 c 0) 3 c t) 4) (j := c) (ws' := wQ a cI (nI c) (up2 (up2 (up2 (up2 (up2 V 0 c person) 1 c unit) 2 c 0) 3 c t) 4 c (-1))) E hK G 5 0 rfl rfl rfl (by omega) (by decide) rfl d_Q_add_55 (fun H locs G => ?_)
    refine lv_aload_n hx hb d_Q_add_56 rfl (lv_at hl 1 rfl) ?_
    refine z_get (v := .ref (a 6)) E hK G.1 i_Q 0 5 rfl rfl (by decide) kf_Q_27 rfl d_Q_add_57 ?_
    refine lv_iload hx hb d_Q_add_60 (lv_at hl 0 rfl) ?_
    refine lv_iconst (v := (-1)) hx hb d_Q_add_62 (by decide) ?_
    refine z_astN (f := (up2 (up2 (up2 (up2 (up2 V 0 c person) 1 c unit) 2 c 0) 3 c t) 4 c (-1)) 5) (j := c) (ws' := wQ a cI (nI c) (up2 (up2 (up2 (up2 (up2 (up2 V 0 c person) 1 c unit) 2 c 0) 3 c t) 4 c (-1)) 5 c (-1))) E hK G 6 0 rfl rfl rfl (by omega) (by decide) rfl d_Q_add_63 (fun H locs G => ?_)
    refine lv_aload_n hx hb d_Q_add_64 rfl (lv_at hl 1 rfl) ?_
    refine lv_dup hx hb d_Q_add_65 rfl ?_
    refine z_get (v := .int (nI c)) E hK G.1 i_Q 0 6 rfl rfl (by decide) kf_Q_30 rfl d_Q_add_66 ?_
    refine lv_iconst (v := 1) hx hb d_Q_add_69 (by decide) ?_
    refine lv_iadd hx hb d_Q_add_70 ?_
    refine z_put (ty := .int) (ws' := wQ a cI ((nI c) + 1) (up2 (up2 (up2 (up2 (up2 (up2 V 0 c person) 1 c unit) 2 c 0) 3 c t) 4 c (-1)) 5 c (-1))) E hK G i_Q t_Q t_Q_ok n_Q 0 6 rfl rfl (by decide) kf_Q_30 rfl rfl rfl rfl (Nat.le_of_ble_eq_true rfl) rfl d_Q_add_71 (fun H locs G => ?_)
    refine lv_iload hx hb d_Q_add_74 (lv_at hl 0 rfl) ?_
    have hf : f_Q_add c V person unit t = (nI c, (nI c) + 1, up2 (up2 (up2 (up2 (up2 (up2 V 0 c person) 1 c unit) 2 c 0) 3 c t) 4 c (-1)) 5 c (-1)) := by unfold f_Q_add; rw [if_pos c_1]
    exact zW.iret E hrt hlk G (by rw [hf]) (by rw [hf]) d_Q_add_76
  · refine lv_bipush (v := (-4)) hx hb d_Q_add_7 (by decide) ?_
    have hf : f_Q_add c V person unit t = ((-4), nI c, V) := by unfold f_Q_add; rw [if_neg c_1]
    exact zW.iret E hrt hlk G (by rw [hf]) (by rw [hf]) d_Q_add_9
def f_Q_setState (c : Nat) (V : Nat → Nat → Int32) (number : Int32) (state : Int32) : (Nat → Nat → Int32) := (if (f_Q_has c number) = 0 then V else (up2 V 2 number.toNatClampNeg state))
set_option maxHeartbeats 4000000 in
set_option maxRecDepth 100000 in
theorem c_Q_setState (l : Launch) (D : va_G) (cI : ClassId) (a : Nat → Nat) (c : Nat) (V : Nat → Nat → Int32) (number : Int32) (state : Int32) (hc : c ≤ 300) : zW l D [(cI, .int)] y_Q_setState b_Q_setState 3 none 2 43 [.ref (a 0), .int number, .int state] (wQ a cI (nI c) V) (wQ a cI (nI c) (f_Q_setState c V number state)) none := by
  refine zW.of (by decide) (Nat.le_of_ble_eq_true rfl) ?_
  intro p e s m below meth c0 ls A E hrt hlk hN hK hA G hl
  have hx := E.1
  have hb := E.2.1
  have hl : lv_has ls 3 [(0, .ref (a 0)), (1, .int number), (2, .int state)] := hl
  refine lv_aload_n hx hb d_Q_setState_0 rfl (lv_at hl 0 rfl) ?_
  refine lv_iload_n hx hb d_Q_setState_1 rfl (lv_at hl 1 rfl) ?_
  refine z_rv (As := [.int number]) (rest := []) E hN hK G.1 hl.1 (c_Q_has l D cI a c V number hc) [0, 1, 2, 3, 4, 5, 6] rfl 0 rfl rfl kz_Q_38 rfl ⟨Nat.le_of_ble_eq_true rfl, Nat.le_of_ble_eq_true rfl⟩ rfl (Nat.le_of_ble_eq_true rfl) ⟨Nat.zero_le _, Nat.zero_le _⟩ d_Q_setState_2 ?_
  refine lv_if_eq (tgt := 15) hx hb d_Q_setState_5 (by decide) (fun c_1 => ?_) (fun c_1 => ?_)
  · have hf : f_Q_setState c V number state = V := by unfold f_Q_setState; rw [if_pos c_1]
    exact zW.vret E hrt hlk G (by rw [hf]) (by rfl) d_Q_setState_15
  · refine lv_aload_n hx hb d_Q_setState_8 rfl (lv_at hl 0 rfl) ?_
    refine z_get (v := .ref (a 3)) E hK G.1 i_Q 0 2 rfl rfl (by decide) kf_Q_18 rfl d_Q_setState_9 ?_
    refine lv_iload_n hx hb d_Q_setState_12 rfl (lv_at hl 1 rfl) ?_
    refine lv_iload_n hx hb d_Q_setState_13 rfl (lv_at hl 2 rfl) ?_
    refine z_ast (f := V 2) (ws' := wQ a cI (nI c) (up2 V 2 number.toNatClampNeg state)) E hK G 3 0 rfl rfl (in_has hc c_1) rfl d_Q_setState_14 (fun H locs G => ?_)
    have hf : f_Q_setState c V number state = (up2 V 2 number.toNatClampNeg state) := by unfold f_Q_setState; rw [if_neg c_1]
    exact zW.vret E hrt hlk G (by rw [hf]) (by rfl) d_Q_setState_15
def f_Q_markHandedOut (c : Nat) (V : Nat → Nat → Int32) (number : Int32) (t : Int32) : (Nat → Nat → Int32) := (if (f_Q_has c number) = 0 then V else (up2 (up2 V 2 number.toNatClampNeg 2) 4 number.toNatClampNeg t))
set_option maxHeartbeats 4000000 in
set_option maxRecDepth 100000 in
theorem c_Q_markHandedOut (l : Launch) (D : va_G) (cI : ClassId) (a : Nat → Nat) (c : Nat) (V : Nat → Nat → Int32) (number : Int32) (t : Int32) (hc : c ≤ 300) : zW l D [(cI, .int)] y_Q_markHandedOut b_Q_markHandedOut 3 none 2 43 [.ref (a 0), .int number, .int t] (wQ a cI (nI c) V) (wQ a cI (nI c) (f_Q_markHandedOut c V number t)) none := by
  refine zW.of (by decide) (Nat.le_of_ble_eq_true rfl) ?_
  intro p e s m below meth c0 ls A E hrt hlk hN hK hA G hl
  have hx := E.1
  have hb := E.2.1
  have hl : lv_has ls 3 [(0, .ref (a 0)), (1, .int number), (2, .int t)] := hl
  refine lv_aload_n hx hb d_Q_markHandedOut_0 rfl (lv_at hl 0 rfl) ?_
  refine lv_iload_n hx hb d_Q_markHandedOut_1 rfl (lv_at hl 1 rfl) ?_
  refine z_rv (As := [.int number]) (rest := []) E hN hK G.1 hl.1 (c_Q_has l D cI a c V number hc) [0, 1, 2, 3, 4, 5, 6] rfl 0 rfl rfl kz_Q_38 rfl ⟨Nat.le_of_ble_eq_true rfl, Nat.le_of_ble_eq_true rfl⟩ rfl (Nat.le_of_ble_eq_true rfl) ⟨Nat.zero_le _, Nat.zero_le _⟩ d_Q_markHandedOut_2 ?_
  refine lv_if_eq (tgt := 22) hx hb d_Q_markHandedOut_5 (by decide) (fun c_1 => ?_) (fun c_1 => ?_)
  · have hf : f_Q_markHandedOut c V number t = V := by unfold f_Q_markHandedOut; rw [if_pos c_1]
    exact zW.vret E hrt hlk G (by rw [hf]) (by rfl) d_Q_markHandedOut_22
  · refine lv_aload_n hx hb d_Q_markHandedOut_8 rfl (lv_at hl 0 rfl) ?_
    refine z_get (v := .ref (a 3)) E hK G.1 i_Q 0 2 rfl rfl (by decide) kf_Q_18 rfl d_Q_markHandedOut_9 ?_
    refine lv_iload_n hx hb d_Q_markHandedOut_12 rfl (lv_at hl 1 rfl) ?_
    refine lv_iconst (v := 2) hx hb d_Q_markHandedOut_13 (by decide) ?_
    refine z_ast (f := V 2) (ws' := wQ a cI (nI c) (up2 V 2 number.toNatClampNeg 2)) E hK G 3 0 rfl rfl (in_has hc c_1) rfl d_Q_markHandedOut_14 (fun H locs G => ?_)
    refine lv_aload_n hx hb d_Q_markHandedOut_15 rfl (lv_at hl 0 rfl) ?_
    refine z_get (v := .ref (a 5)) E hK G.1 i_Q 0 4 rfl rfl (by decide) kf_Q_24 rfl d_Q_markHandedOut_16 ?_
    refine lv_iload_n hx hb d_Q_markHandedOut_19 rfl (lv_at hl 1 rfl) ?_
    refine lv_iload_n hx hb d_Q_markHandedOut_20 rfl (lv_at hl 2 rfl) ?_
    refine z_ast (f := (up2 V 2 number.toNatClampNeg 2) 4) (ws' := wQ a cI (nI c) (up2 (up2 V 2 number.toNatClampNeg 2) 4 number.toNatClampNeg t)) E hK G 5 0 rfl rfl (in_has hc c_1) rfl d_Q_markHandedOut_21 (fun H locs G => ?_)
    have hf : f_Q_markHandedOut c V number t = (up2 (up2 V 2 number.toNatClampNeg 2) 4 number.toNatClampNeg t) := by unfold f_Q_markHandedOut; rw [if_neg c_1]
    exact zW.vret E hrt hlk G (by rw [hf]) (by rfl) d_Q_markHandedOut_22
def f_Q_markBack (c : Nat) (V : Nat → Nat → Int32) (number : Int32) (t : Int32) : (Nat → Nat → Int32) := (if (f_Q_has c number) = 0 then V else (up2 (up2 V 2 number.toNatClampNeg 3) 5 number.toNatClampNeg t))
set_option maxHeartbeats 4000000 in
set_option maxRecDepth 100000 in
theorem c_Q_markBack (l : Launch) (D : va_G) (cI : ClassId) (a : Nat → Nat) (c : Nat) (V : Nat → Nat → Int32) (number : Int32) (t : Int32) (hc : c ≤ 300) : zW l D [(cI, .int)] y_Q_markBack b_Q_markBack 3 none 2 43 [.ref (a 0), .int number, .int t] (wQ a cI (nI c) V) (wQ a cI (nI c) (f_Q_markBack c V number t)) none := by
  refine zW.of (by decide) (Nat.le_of_ble_eq_true rfl) ?_
  intro p e s m below meth c0 ls A E hrt hlk hN hK hA G hl
  have hx := E.1
  have hb := E.2.1
  have hl : lv_has ls 3 [(0, .ref (a 0)), (1, .int number), (2, .int t)] := hl
  refine lv_aload_n hx hb d_Q_markBack_0 rfl (lv_at hl 0 rfl) ?_
  refine lv_iload_n hx hb d_Q_markBack_1 rfl (lv_at hl 1 rfl) ?_
  refine z_rv (As := [.int number]) (rest := []) E hN hK G.1 hl.1 (c_Q_has l D cI a c V number hc) [0, 1, 2, 3, 4, 5, 6] rfl 0 rfl rfl kz_Q_38 rfl ⟨Nat.le_of_ble_eq_true rfl, Nat.le_of_ble_eq_true rfl⟩ rfl (Nat.le_of_ble_eq_true rfl) ⟨Nat.zero_le _, Nat.zero_le _⟩ d_Q_markBack_2 ?_
  refine lv_if_eq (tgt := 22) hx hb d_Q_markBack_5 (by decide) (fun c_1 => ?_) (fun c_1 => ?_)
  · have hf : f_Q_markBack c V number t = V := by unfold f_Q_markBack; rw [if_pos c_1]
    exact zW.vret E hrt hlk G (by rw [hf]) (by rfl) d_Q_markBack_22
  · refine lv_aload_n hx hb d_Q_markBack_8 rfl (lv_at hl 0 rfl) ?_
    refine z_get (v := .ref (a 3)) E hK G.1 i_Q 0 2 rfl rfl (by decide) kf_Q_18 rfl d_Q_markBack_9 ?_
    refine lv_iload_n hx hb d_Q_markBack_12 rfl (lv_at hl 1 rfl) ?_
    refine lv_iconst (v := 3) hx hb d_Q_markBack_13 (by decide) ?_
    refine z_ast (f := V 2) (ws' := wQ a cI (nI c) (up2 V 2 number.toNatClampNeg 3)) E hK G 3 0 rfl rfl (in_has hc c_1) rfl d_Q_markBack_14 (fun H locs G => ?_)
    refine lv_aload_n hx hb d_Q_markBack_15 rfl (lv_at hl 0 rfl) ?_
    refine z_get (v := .ref (a 6)) E hK G.1 i_Q 0 5 rfl rfl (by decide) kf_Q_27 rfl d_Q_markBack_16 ?_
    refine lv_iload_n hx hb d_Q_markBack_19 rfl (lv_at hl 1 rfl) ?_
    refine lv_iload_n hx hb d_Q_markBack_20 rfl (lv_at hl 2 rfl) ?_
    refine z_ast (f := (up2 V 2 number.toNatClampNeg 3) 5) (ws' := wQ a cI (nI c) (up2 (up2 V 2 number.toNatClampNeg 3) 5 number.toNatClampNeg t)) E hK G 6 0 rfl rfl (in_has hc c_1) rfl d_Q_markBack_21 (fun H locs G => ?_)
    have hf : f_Q_markBack c V number t = (up2 (up2 V 2 number.toNatClampNeg 3) 5 number.toNatClampNeg t) := by unfold f_Q_markBack; rw [if_neg c_1]
    exact zW.vret E hrt hlk G (by rw [hf]) (by rfl) d_Q_markBack_22
def f_Q_endAtClosing (c : Nat) (V : Nat → Nat → Int32) (number : Int32) (t : Int32) : (Nat → Nat → Int32) := (if (f_Q_stateOf c V number) = 0 then (f_Q_setState c V number 4) else (if (f_Q_stateOf c V number) = 1 then (f_Q_setState c V number 3) else (if (f_Q_stateOf c V number) = 2 then (f_Q_markBack c V number t) else V)))
set_option maxHeartbeats 4000000 in
set_option maxRecDepth 100000 in
theorem c_Q_endAtClosing (l : Launch) (D : va_G) (cI : ClassId) (a : Nat → Nat) (c : Nat) (V : Nat → Nat → Int32) (number : Int32) (t : Int32) (hc : c ≤ 300) : zW l D [(cI, .int)] y_Q_endAtClosing b_Q_endAtClosing 3 none 3 65 [.ref (a 0), .int number, .int t] (wQ a cI (nI c) V) (wQ a cI (nI c) (f_Q_endAtClosing c V number t)) none := by
  refine zW.of (by decide) (Nat.le_of_ble_eq_true rfl) ?_
  intro p e s m below meth c0 ls A E hrt hlk hN hK hA G hl
  have hx := E.1
  have hb := E.2.1
  have hl : lv_has ls 3 [(0, .ref (a 0)), (1, .int number), (2, .int t)] := hl
  refine lv_aload_n hx hb d_Q_endAtClosing_0 rfl (lv_at hl 0 rfl) ?_
  refine lv_iload_n hx hb d_Q_endAtClosing_1 rfl (lv_at hl 1 rfl) ?_
  refine z_rv (As := [.int number]) (rest := []) E hN hK G.1 hl.1 (c_Q_stateOf l D cI a c V number hc) [0, 1, 2, 3, 4, 5, 6] rfl 0 rfl rfl kz_Q_57 rfl ⟨Nat.le_of_ble_eq_true rfl, Nat.le_of_ble_eq_true rfl⟩ rfl (Nat.le_of_ble_eq_true rfl) ⟨Nat.zero_le _, Nat.zero_le _⟩ d_Q_endAtClosing_2 ?_
  rcases Classical.em ((f_Q_stateOf c V number) = 0) with c_1 | c_1
  · refine lv_tableIn (tgt := 32) (off := 27) hx hb d_Q_endAtClosing_5 (by rw [c_1]; decide) (by rw [c_1]; decide) (by rw [c_1]; decide) (by decide) ?_
    refine lv_aload_n hx hb d_Q_endAtClosing_32 rfl (lv_at hl 0 rfl) ?_
    refine lv_iload_n hx hb d_Q_endAtClosing_33 rfl (lv_at hl 1 rfl) ?_
    refine lv_iconst (v := 4) hx hb d_Q_endAtClosing_34 (by decide) ?_
    refine z_wv (As := [.int number, .int 4]) (rest := []) (wr := ([] : List Nat).filterMap (fun i => (wQ a cI (nI c) V)[i]?)) (ws' := wQ a cI (nI c) (f_Q_setState c V number 4)) E hN hK hA G hl.1 (c_Q_setState l D cI a c V number 4 hc) [0, 1, 2, 3, 4, 5, 6] [] [0, 1, 2, 3, 4, 5, 6] rfl rfl rfl rfl rfl rfl (by decide) 0 rfl rfl kz_Q_61 rfl ⟨Nat.le_of_ble_eq_true rfl, Nat.le_of_ble_eq_true rfl⟩ rfl (Nat.le_of_ble_eq_true rfl) ⟨Nat.zero_le _, Nat.zero_le _⟩ d_Q_endAtClosing_35 (fun H locs G => ?_)
    refine W.eq (g2 := F0 m 38 ls []) rfl ?_
    refine lv_goto (tgt := 59) hx hb d_Q_endAtClosing_38 (by decide) ?_
    have hf : f_Q_endAtClosing c V number t = (f_Q_setState c V number 4) := by unfold f_Q_endAtClosing; rw [if_pos c_1]
    exact zW.vret E hrt hlk G (by rw [hf]) (by rfl) d_Q_endAtClosing_59
  · rcases Classical.em ((f_Q_stateOf c V number) = 1) with c_2 | c_2
    · refine lv_tableIn (tgt := 41) (off := 36) hx hb d_Q_endAtClosing_5 (by rw [c_2]; decide) (by rw [c_2]; decide) (by rw [c_2]; decide) (by decide) ?_
      refine lv_aload_n hx hb d_Q_endAtClosing_41 rfl (lv_at hl 0 rfl) ?_
      refine lv_iload_n hx hb d_Q_endAtClosing_42 rfl (lv_at hl 1 rfl) ?_
      refine lv_iconst (v := 3) hx hb d_Q_endAtClosing_43 (by decide) ?_
      refine z_wv (As := [.int number, .int 3]) (rest := []) (wr := ([] : List Nat).filterMap (fun i => (wQ a cI (nI c) V)[i]?)) (ws' := wQ a cI (nI c) (f_Q_setState c V number 3)) E hN hK hA G hl.1 (c_Q_setState l D cI a c V number 3 hc) [0, 1, 2, 3, 4, 5, 6] [] [0, 1, 2, 3, 4, 5, 6] rfl rfl rfl rfl rfl rfl (by decide) 0 rfl rfl kz_Q_61 rfl ⟨Nat.le_of_ble_eq_true rfl, Nat.le_of_ble_eq_true rfl⟩ rfl (Nat.le_of_ble_eq_true rfl) ⟨Nat.zero_le _, Nat.zero_le _⟩ d_Q_endAtClosing_44 (fun H locs G => ?_)
      refine W.eq (g2 := F0 m 47 ls []) rfl ?_
      refine lv_goto (tgt := 59) hx hb d_Q_endAtClosing_47 (by decide) ?_
      have hf : f_Q_endAtClosing c V number t = (f_Q_setState c V number 3) := by unfold f_Q_endAtClosing; rw [if_neg c_1, if_pos c_2]
      exact zW.vret E hrt hlk G (by rw [hf]) (by rfl) d_Q_endAtClosing_59
    · rcases Classical.em ((f_Q_stateOf c V number) = 2) with c_3 | c_3
      · refine lv_tableIn (tgt := 50) (off := 45) hx hb d_Q_endAtClosing_5 (by rw [c_3]; decide) (by rw [c_3]; decide) (by rw [c_3]; decide) (by decide) ?_
        refine lv_aload_n hx hb d_Q_endAtClosing_50 rfl (lv_at hl 0 rfl) ?_
        refine lv_iload_n hx hb d_Q_endAtClosing_51 rfl (lv_at hl 1 rfl) ?_
        refine lv_iload_n hx hb d_Q_endAtClosing_52 rfl (lv_at hl 2 rfl) ?_
        refine z_wv (As := [.int number, .int t]) (rest := []) (wr := ([] : List Nat).filterMap (fun i => (wQ a cI (nI c) V)[i]?)) (ws' := wQ a cI (nI c) (f_Q_markBack c V number t)) E hN hK hA G hl.1 (c_Q_markBack l D cI a c V number t hc) [0, 1, 2, 3, 4, 5, 6] [] [0, 1, 2, 3, 4, 5, 6] rfl rfl rfl rfl rfl rfl (by decide) 0 rfl rfl kz_Q_64 rfl ⟨Nat.le_of_ble_eq_true rfl, Nat.le_of_ble_eq_true rfl⟩ rfl (Nat.le_of_ble_eq_true rfl) ⟨Nat.zero_le _, Nat.zero_le _⟩ d_Q_endAtClosing_53 (fun H locs G => ?_)
        refine W.eq (g2 := F0 m 56 ls []) rfl ?_
        refine lv_goto (tgt := 59) hx hb d_Q_endAtClosing_56 (by decide) ?_
        have hf : f_Q_endAtClosing c V number t = (f_Q_markBack c V number t) := by unfold f_Q_endAtClosing; rw [if_neg c_1, if_neg c_2, if_pos c_3]
        exact zW.vret E hrt hlk G (by rw [hf]) (by rfl) d_Q_endAtClosing_59
      · refine lv_tableOut (tgt := 59) hx hb d_Q_endAtClosing_5 (sw_out3 c_1 c_2 c_3) (by decide) ?_
        have hf : f_Q_endAtClosing c V number t = V := by unfold f_Q_endAtClosing; rw [if_neg c_1, if_neg c_2, if_neg c_3]
        exact zW.vret E hrt hlk G (by rw [hf]) (by rfl) d_Q_endAtClosing_59
def f_Q_endAll_L (c : Nat) (t : Int32) : Nat → Nat → (Nat → Nat → Int32) → (Nat → Nat → Int32)
  | 0, k0, V => V
  | d + 1, k0, V => (f_Q_endAll_L c t d (k0 + 1) (f_Q_endAtClosing c V (nI k0) t))
theorem f_Q_endAll_L_0 (c : Nat) (t : Int32) (k0 : Nat) (V : Nat → Nat → Int32) : f_Q_endAll_L c t 0 k0 V = V := rfl
theorem f_Q_endAll_L_s (c : Nat) (t : Int32) (d k0 : Nat) (V : Nat → Nat → Int32) : f_Q_endAll_L c t (d + 1) k0 V = (f_Q_endAll_L c t d (k0 + 1) (f_Q_endAtClosing c V (nI k0) t)) := rfl
def f_Q_endAll (c : Nat) (V : Nat → Nat → Int32) (t : Int32) : (Nat → Nat → Int32) := (f_Q_endAll_L c t c 0 V)
set_option maxHeartbeats 4000000 in
set_option maxRecDepth 100000 in
theorem lp_Q_endAll (l : Launch) (D : va_G) (cI : ClassId) (a : Nat → Nat) (c : Nat) (t : Int32) (hc : c ≤ 300) {p : Program} {e : Env} {s : State} {m : MethodId} {below : List Frame} {meth : Method} {c0 : Code} {A : Nat → Prop} (E : CallFix p m c0 b_Q_endAll 3 s ([.ref (a 0), .int t] : List Value).toArray zB y_Q_endAll.cls) (hrt : meth.sig.returnType = none) (hlk : meth.locks = false) (hN : zN s) (hK : va_K D vwCl [(cI, .int)] s) (hA : ∀ q, s.heap.size ≤ q → A q) :
    ∀ (d k0 : Nat) (V : Nat → Nat → Int32), k0 + d = c → ∀ X : (Nat → Nat → Int32), f_Q_endAll_L c t d k0 V = X → ∀ (H : Heap) (locs : List Loc), zG D A s H locs (wQ a cI (nI c) V) → ∀ ls : Array Slot, lv_has ls 3 [(2, .int (nI k0)), (0, .ref (a 0)), (1, .int t)] → W p l e { frames := 4, cells := 0, slots := 0, locals := 87 } s m ([.ref (a 0), .int t] : List Value).toArray below meth c0 H locs 0 0 (MQ below (zQ D A (wQ a cI (nI c) X) none) ([.ref (a 0), .int t] : List Value).toArray s 0 0 A) (F0 m 2 ls []) := by
  have hx := E.1
  have hb := E.2.1
  intro d
  induction d with
  | zero =>
    intro k0 V hkd X hr H locs G ls hl
    refine lv_iload_n hx hb d_Q_endAll_2 rfl (lv_at hl 0 rfl) ?_
    refine lv_aload_n hx hb d_Q_endAll_3 rfl (lv_at hl 1 rfl) ?_
    refine z_get (v := .int (nI c)) E hK G.1 i_Q 0 6 rfl rfl (by decide) kf_Q_30 rfl d_Q_endAll_4 ?_
    refine lv_icmp_ge (tgt := 22) hx hb d_Q_endAll_7 (by decide) (fun c_1 => ?_) (fun c_1 => absurd (nI_le (by omega) (by omega)) c_1)
    have hf : X = V := by rw [← hr, f_Q_endAll_L_0]
    exact zW.vret E hrt hlk G (by rw [hf]) (by rfl) d_Q_endAll_22
  | succ d ih =>
    intro k0 V hkd X hr H locs G ls hl
    refine lv_iload_n hx hb d_Q_endAll_2 rfl (lv_at hl 0 rfl) ?_
    refine lv_aload_n hx hb d_Q_endAll_3 rfl (lv_at hl 1 rfl) ?_
    refine z_get (v := .int (nI c)) E hK G.1 i_Q 0 6 rfl rfl (by decide) kf_Q_30 rfl d_Q_endAll_4 ?_
    refine lv_icmp_ge (tgt := 22) hx hb d_Q_endAll_7 (by decide) (fun c_2 => absurd c_2 (nI_ge (by omega) (by omega))) (fun c_2 => ?_)
    refine lv_aload_n hx hb d_Q_endAll_10 rfl (lv_at hl 1 rfl) ?_
    refine lv_iload_n hx hb d_Q_endAll_11 rfl (lv_at hl 0 rfl) ?_
    refine lv_iload_n hx hb d_Q_endAll_12 rfl (lv_at hl 2 rfl) ?_
    refine z_wv (As := [.int (nI k0), .int t]) (rest := []) (wr := ([] : List Nat).filterMap (fun i => (wQ a cI (nI c) V)[i]?)) (ws' := wQ a cI (nI c) (f_Q_endAtClosing c V (nI k0) t)) E hN hK hA G hl.1 (c_Q_endAtClosing l D cI a c V (nI k0) t hc) [0, 1, 2, 3, 4, 5, 6] [] [0, 1, 2, 3, 4, 5, 6] rfl rfl rfl rfl rfl rfl (by decide) 0 rfl rfl kz_Q_53 rfl ⟨Nat.le_of_ble_eq_true rfl, Nat.le_of_ble_eq_true rfl⟩ rfl (Nat.le_of_ble_eq_true rfl) ⟨Nat.zero_le _, Nat.zero_le _⟩ d_Q_endAll_13 (fun H locs G => ?_)
    refine W.eq (g2 := F0 m 16 ls []) rfl ?_
    refine lv_iinc (v := nI (k0 + 1)) (lv' := [(2, .int (nI (k0 + 1))), (0, .ref (a 0)), (1, .int t)]) hx hb d_Q_endAll_16 hl (k := 0) rfl (nI_1 _) (by decide) rfl (fun ls hl => ?_)
    refine lv_goto (tgt := 2) hx hb d_Q_endAll_19 (by decide) ?_
    exact ih (k0 + 1) (f_Q_endAtClosing c V (nI k0) t) (by omega) X (by rw [← hr, f_Q_endAll_L_s]) H locs G ls (lv_sub hl [0, 1, 2] rfl)
set_option maxHeartbeats 4000000 in
set_option maxRecDepth 100000 in
theorem c_Q_endAll (l : Launch) (D : va_G) (cI : ClassId) (a : Nat → Nat) (c : Nat) (V : Nat → Nat → Int32) (t : Int32) (hc : c ≤ 300) : zW l D [(cI, .int)] y_Q_endAll b_Q_endAll 3 none 4 87 [.ref (a 0), .int t] (wQ a cI (nI c) V) (wQ a cI (nI c) (f_Q_endAll c V t)) none := by
  refine zW.of (by decide) (Nat.le_of_ble_eq_true rfl) ?_
  intro p e s m below meth c0 ls A E hrt hlk hN hK hA G hl
  have hx := E.1
  have hb := E.2.1
  have hl : lv_has ls 3 [(0, .ref (a 0)), (1, .int t)] := hl
  refine lv_iconst (v := 0) hx hb d_Q_endAll_0 (by decide) ?_
  refine lv_istore_n (lv' := [(2, .int 0), (0, .ref (a 0)), (1, .int t)]) hx hb d_Q_endAll_1 rfl hl (by decide) rfl (fun ls hl => ?_)
  exact lp_Q_endAll l D cI a c t hc E hrt hlk hN hK hA c 0 V (by omega) _ (by rfl) _ _ G ls (by rw [nI_0]; exact lv_sub hl [0, 1, 2] rfl)
end
section
def f_X_isTime (nw : Int32) (t : Int32) : Int32 := (f_isWithin t nw 1000000000)
set_option maxHeartbeats 4000000 in
set_option maxRecDepth 100000 in
theorem c_X_isTime (l : Launch) (D : va_G) (cI : ClassId) (a : Nat → Nat) (nw : Int32) (k : Nat) (n : Nat) (c : Nat) (Z : Nat → Nat → Int32) (P : Nat → Nat → Int32) (U : Nat → Nat → Int32) (V : Nat → Nat → Int32) (t : Int32) (hk : k ≤ 20) (hn : n ≤ 60) (hc : c ≤ 300) : zR l D [(cI, .int)] y_X_isTime b_X_isTime 2 (some .boolean) 1 22 [.ref (a 0), .int t] (wX a cI nw (nI k) (nI n) (nI c) Z P U V) (f_X_isTime nw t) := by
  refine zR.of (by decide) (Nat.le_of_ble_eq_true rfl) ?_
  intro p e s m below meth c0 ls E hrt hlk hN hK hP hl
  have hx := E.1
  have hb := E.2.1
  have hl : lv_has ls 2 [(0, .ref (a 0)), (1, .int t)] := hl
  refine lv_iload_n hx hb d_X_isTime_0 rfl (lv_at hl 1 rfl) ?_
  refine lv_aload_n hx hb d_X_isTime_1 rfl (lv_at hl 0 rfl) ?_
  refine z_get (v := .int nw) E hK hP i_X 0 4 rfl rfl (by decide) kf_X_39 rfl d_X_isTime_2 ?_
  refine lv_ldc (v := 1000000000) hx hb E.2.2.2.1 (E.2.2.2.2 _ kc_X_200) d_X_isTime_5 ?_
  refine z_rs (As := [.int t, .int nw, .int 1000000000]) (rest := []) E hN hK hl.1 (c_isWithin l D [(cI, .int)] t nw 1000000000) kz_X_120 rfl ⟨Nat.le_of_ble_eq_true rfl, Nat.le_of_ble_eq_true rfl⟩ rfl (Nat.le_of_ble_eq_true rfl) ⟨Nat.zero_le _, Nat.zero_le _⟩ d_X_isTime_7 ?_
  exact zR.zret E hrt hlk (nar01 (b01_isWithin _ _ _)) (by rfl) d_X_isTime_10
def f_X_isRightTooLow (P : Nat → Nat → Int32) (U : Nat → Nat → Int32) (person : Int32) (unit : Int32) : Int32 := (if (f_H_restrictionOf U unit) ≤ (f_R_rightOf P person) then 0 else 1)
set_option maxHeartbeats 4000000 in
set_option maxRecDepth 100000 in
theorem c_X_isRightTooLow (l : Launch) (D : va_G) (cI : ClassId) (a : Nat → Nat) (nw : Int32) (k : Nat) (n : Nat) (c : Nat) (Z : Nat → Nat → Int32) (P : Nat → Nat → Int32) (U : Nat → Nat → Int32) (V : Nat → Nat → Int32) (person : Int32) (unit : Int32) (hk : k ≤ 20) (hn : n ≤ 60) (hc : c ≤ 300) : zR l D [(cI, .int)] y_X_isRightTooLow b_X_isRightTooLow 3 (some .boolean) 3 63 [.ref (a 0), .int person, .int unit] (wX a cI nw (nI k) (nI n) (nI c) Z P U V) (f_X_isRightTooLow P U person unit) := by
  refine zR.of (by decide) (Nat.le_of_ble_eq_true rfl) ?_
  intro p e s m below meth c0 ls E hrt hlk hN hK hP hl
  have hx := E.1
  have hb := E.2.1
  have hl : lv_has ls 3 [(0, .ref (a 0)), (1, .int person), (2, .int unit)] := hl
  refine lv_aload_n hx hb d_X_isRightTooLow_0 rfl (lv_at hl 0 rfl) ?_
  refine z_get (v := .ref (a 4)) E hK hP i_X 0 1 rfl rfl (by decide) kf_X_21 rfl d_X_isRightTooLow_1 ?_
  refine lv_iload_n hx hb d_X_isRightTooLow_4 rfl (lv_at hl 1 rfl) ?_
  refine z_rv (As := [.int person]) (rest := []) E hN hK hP hl.1 (c_R_rightOf l D cI (fun j => a (4 + j)) P person ) [4, 5, 6, 7, 8, 9] rfl 0 rfl rfl kz_X_201 rfl ⟨Nat.le_of_ble_eq_true rfl, Nat.le_of_ble_eq_true rfl⟩ rfl (Nat.le_of_ble_eq_true rfl) ⟨Nat.zero_le _, Nat.zero_le _⟩ d_X_isRightTooLow_5 ?_
  refine lv_aload_n hx hb d_X_isRightTooLow_8 rfl (lv_at hl 0 rfl) ?_
  refine z_get (v := .ref (a 10)) E hK hP i_X 0 2 rfl rfl (by decide) kf_X_28 rfl d_X_isRightTooLow_9 ?_
  refine lv_iload_n hx hb d_X_isRightTooLow_12 rfl (lv_at hl 2 rfl) ?_
  refine z_rv (As := [.int unit]) (rest := [.int (f_R_rightOf P person)]) E hN hK hP hl.1 (c_H_restrictionOf l D cI (fun j => a (10 + j)) U unit ) [10, 11, 12, 13, 14] rfl 0 rfl rfl kz_X_156 rfl ⟨Nat.le_of_ble_eq_true rfl, Nat.le_of_ble_eq_true rfl⟩ rfl (Nat.le_of_ble_eq_true rfl) ⟨Nat.zero_le _, Nat.zero_le _⟩ d_X_isRightTooLow_13 ?_
  refine lv_icmp_ge (tgt := 23) hx hb d_X_isRightTooLow_16 (by decide) (fun c_1 => ?_) (fun c_1 => ?_)
  · refine lv_iconst (v := 0) hx hb d_X_isRightTooLow_23 (by decide) ?_
    exact zR.zret E hrt hlk rfl (by unfold f_X_isRightTooLow; rw [if_pos c_1]) d_X_isRightTooLow_24
  · refine lv_iconst (v := 1) hx hb d_X_isRightTooLow_19 (by decide) ?_
    refine lv_goto (tgt := 24) hx hb d_X_isRightTooLow_20 (by decide) ?_
    exact zR.zret E hrt hlk rfl (by unfold f_X_isRightTooLow; rw [if_neg c_1]) d_X_isRightTooLow_24
def f_X_sendFor (c : Nat) (U : Nat → Nat → Int32) (V : Nat → Nat → Int32) (unit : Int32) (number : Int32) : (Nat → Nat → Int32) × (Nat → Nat → Int32) := ((f_H_put U unit 1 number), (f_Q_setState c V number 1))
set_option maxHeartbeats 4000000 in
set_option maxRecDepth 100000 in
theorem c_X_sendFor (l : Launch) (D : va_G) (cI : ClassId) (a : Nat → Nat) (nw : Int32) (k : Nat) (n : Nat) (c : Nat) (Z : Nat → Nat → Int32) (P : Nat → Nat → Int32) (U : Nat → Nat → Int32) (V : Nat → Nat → Int32) (unit : Int32) (number : Int32) (hk : k ≤ 20) (hn : n ≤ 60) (hc : c ≤ 300) : zW l D [(cI, .int)] y_X_sendFor b_X_sendFor 3 none 3 65 [.ref (a 0), .int unit, .int number] (wX a cI nw (nI k) (nI n) (nI c) Z P U V) (wX a cI nw (nI k) (nI n) (nI c) Z P ((f_X_sendFor c U V unit number).1) ((f_X_sendFor c U V unit number).2)) none := by
  refine zW.of (by decide) (Nat.le_of_ble_eq_true rfl) ?_
  intro p e s m below meth c0 ls A E hrt hlk hN hK hA G hl
  have hx := E.1
  have hb := E.2.1
  have hl : lv_has ls 3 [(0, .ref (a 0)), (1, .int unit), (2, .int number)] := hl
  refine lv_aload_n hx hb d_X_sendFor_0 rfl (lv_at hl 0 rfl) ?_
  refine z_get (v := .ref (a 10)) E hK G.1 i_X 0 2 rfl rfl (by decide) kf_X_28 rfl d_X_sendFor_1 ?_
  refine lv_iload_n hx hb d_X_sendFor_4 rfl (lv_at hl 1 rfl) ?_
  refine lv_iconst (v := 1) hx hb d_X_sendFor_5 (by decide) ?_
  refine lv_iload_n hx hb d_X_sendFor_6 rfl (lv_at hl 2 rfl) ?_
  refine z_wv (As := [.int unit, .int 1, .int number]) (rest := []) (wr := ([0, 1, 2, 3, 4, 5, 6, 7, 8, 9, 15, 16, 17, 18, 19, 20, 21] : List Nat).filterMap (fun i => (wX a cI nw (nI k) (nI n) (nI c) Z P U V)[i]?)) (ws' := wX a cI nw (nI k) (nI n) (nI c) Z P (f_H_put U unit 1 number) V) E hN hK hA G hl.1 (c_H_put l D cI (fun j => a (10 + j)) U unit 1 number ) [10, 11, 12, 13, 14] [0, 1, 2, 3, 4, 5, 6, 7, 8, 9, 15, 16, 17, 18, 19, 20, 21] [0, 1, 2, 3, 4, 5, 6, 7, 8, 9, 17, 18, 19, 20, 21, 10, 11, 12, 13, 14, 15, 16] rfl rfl rfl rfl rfl rfl (by decide) 0 rfl rfl kz_X_110 rfl ⟨Nat.le_of_ble_eq_true rfl, Nat.le_of_ble_eq_true rfl⟩ rfl (Nat.le_of_ble_eq_true rfl) ⟨Nat.zero_le _, Nat.zero_le _⟩ d_X_sendFor_7 (fun H locs G => ?_)
  refine W.eq (g2 := F0 m 10 ls []) rfl ?_
  refine lv_aload_n hx hb d_X_sendFor_10 rfl (lv_at hl 0 rfl) ?_
  refine z_get (v := .ref (a 15)) E hK G.1 i_X 0 3 rfl rfl (by decide) kf_X_35 rfl d_X_sendFor_11 ?_
  refine lv_iload_n hx hb d_X_sendFor_14 rfl (lv_at hl 2 rfl) ?_
  refine lv_iconst (v := 1) hx hb d_X_sendFor_15 (by decide) ?_
  refine z_wv (As := [.int number, .int 1]) (rest := []) (wr := ([0, 1, 2, 3, 4, 5, 6, 7, 8, 9, 10, 11, 12, 13, 14] : List Nat).filterMap (fun i => (wX a cI nw (nI k) (nI n) (nI c) Z P (f_H_put U unit 1 number) V)[i]?)) (ws' := wX a cI nw (nI k) (nI n) (nI c) Z P (f_H_put U unit 1 number) (f_Q_setState c V number 1)) E hN hK hA G hl.1 (c_Q_setState l D cI (fun j => a (15 + j)) c V number 1 hc) [15, 16, 17, 18, 19, 20, 21] [0, 1, 2, 3, 4, 5, 6, 7, 8, 9, 10, 11, 12, 13, 14] [0, 1, 2, 3, 4, 5, 6, 7, 8, 9, 10, 11, 12, 13, 14, 15, 16, 17, 18, 19, 20, 21] rfl rfl rfl rfl rfl rfl (by decide) 0 rfl rfl kz_X_204 rfl ⟨Nat.le_of_ble_eq_true rfl, Nat.le_of_ble_eq_true rfl⟩ rfl (Nat.le_of_ble_eq_true rfl) ⟨Nat.zero_le _, Nat.zero_le _⟩ d_X_sendFor_16 (fun H locs G => ?_)
  refine W.eq (g2 := F0 m 19 ls []) rfl ?_
  have hf : f_X_sendFor c U V unit number = ((f_H_put U unit 1 number), (f_Q_setState c V number 1)) := by rfl
  exact zW.vret E hrt hlk G (by rw [hf]) (by rfl) d_X_sendFor_19
def f_X_withdrawFromLowRights_L (c : Nat) (P : Nat → Nat → Int32) (U : Nat → Nat → Int32) (unit : Int32) : Nat → Nat → Int32 → (Nat → Nat → Int32) → Int32 × (Nat → Nat → Int32)
  | 0, k0, x2, V => (x2, V)
  | d + 1, k0, x2, V => (if (f_Q_isOpenFor c V (nI k0) unit) = 0 then (f_X_withdrawFromLowRights_L c P U unit d (k0 + 1) x2 V) else (if (f_X_isRightTooLow P U (f_Q_personOf c V (nI k0)) unit) = 0 then (f_X_withdrawFromLowRights_L c P U unit d (k0 + 1) x2 V) else (f_X_withdrawFromLowRights_L c P U unit d (k0 + 1) (x2 + 1) (f_Q_setState c V (nI k0) 4))))
theorem f_X_withdrawFromLowRights_L_0 (c : Nat) (P : Nat → Nat → Int32) (U : Nat → Nat → Int32) (unit : Int32) (k0 : Nat) (x2 : Int32) (V : Nat → Nat → Int32) : f_X_withdrawFromLowRights_L c P U unit 0 k0 x2 V = (x2, V) := rfl
theorem f_X_withdrawFromLowRights_L_s (c : Nat) (P : Nat → Nat → Int32) (U : Nat → Nat → Int32) (unit : Int32) (d k0 : Nat) (x2 : Int32) (V : Nat → Nat → Int32) : f_X_withdrawFromLowRights_L c P U unit (d + 1) k0 x2 V = (if (f_Q_isOpenFor c V (nI k0) unit) = 0 then (f_X_withdrawFromLowRights_L c P U unit d (k0 + 1) x2 V) else (if (f_X_isRightTooLow P U (f_Q_personOf c V (nI k0)) unit) = 0 then (f_X_withdrawFromLowRights_L c P U unit d (k0 + 1) x2 V) else (f_X_withdrawFromLowRights_L c P U unit d (k0 + 1) (x2 + 1) (f_Q_setState c V (nI k0) 4)))) := rfl
def f_X_withdrawFromLowRights (c : Nat) (P : Nat → Nat → Int32) (U : Nat → Nat → Int32) (V : Nat → Nat → Int32) (unit : Int32) : Int32 × (Nat → Nat → Int32) := (f_X_withdrawFromLowRights_L c P U unit 300 0 0 V)
set_option maxHeartbeats 4000000 in
set_option maxRecDepth 100000 in
theorem lp_X_withdrawFromLowRights (l : Launch) (D : va_G) (cI : ClassId) (a : Nat → Nat) (nw : Int32) (k : Nat) (n : Nat) (c : Nat) (Z : Nat → Nat → Int32) (P : Nat → Nat → Int32) (U : Nat → Nat → Int32) (unit : Int32) (hk : k ≤ 20) (hn : n ≤ 60) (hc : c ≤ 300) {p : Program} {e : Env} {s : State} {m : MethodId} {below : List Frame} {meth : Method} {c0 : Code} {A : Nat → Prop} (E : CallFix p m c0 b_X_withdrawFromLowRights 4 s ([.ref (a 0), .int unit] : List Value).toArray zB y_X_withdrawFromLowRights.cls) (hrt : meth.sig.returnType = (some .int)) (hlk : meth.locks = false) (hN : zN s) (hK : va_K D vwCl [(cI, .int)] s) (hA : ∀ q, s.heap.size ≤ q → A q) :
    ∀ (d k0 : Nat) (x2 : Int32) (V : Nat → Nat → Int32), k0 + d = 300 → ∀ X : Int32 × (Nat → Nat → Int32), f_X_withdrawFromLowRights_L c P U unit d k0 x2 V = X → ∀ (H : Heap) (locs : List Loc), zG D A s H locs (wX a cI nw (nI k) (nI n) (nI c) Z P U V) → ∀ ls : Array Slot, lv_has ls 4 [(3, .int (nI k0)), (2, .int x2), (0, .ref (a 0)), (1, .int unit)] → W p l e { frames := 4, cells := 0, slots := 0, locals := 85 } s m ([.ref (a 0), .int unit] : List Value).toArray below meth c0 H locs 0 0 (MQ below (zQ D A (wX a cI nw (nI k) (nI n) (nI c) Z P U X.2) (some (.int X.1))) ([.ref (a 0), .int unit] : List Value).toArray s 0 0 A) (F0 m 4 ls []) := by
  have hx := E.1
  have hb := E.2.1
  intro d
  induction d with
  | zero =>
    intro k0 x2 V hkd X hr H locs G ls hl
    refine lv_iload_n hx hb d_X_withdrawFromLowRights_4 rfl (lv_at hl 0 rfl) ?_
    refine lv_sipush (v := (nI 300)) hx hb d_X_withdrawFromLowRights_5 (by decide) ?_
    refine lv_icmp_ge (tgt := 57) hx hb d_X_withdrawFromLowRights_8 (by decide) (fun c_1 => ?_) (fun c_1 => absurd (nI_le (by omega) (by omega)) c_1)
    refine lv_iload_n hx hb d_X_withdrawFromLowRights_57 rfl (lv_at hl 1 rfl) ?_
    have hf : X = (x2, V) := by rw [← hr, f_X_withdrawFromLowRights_L_0]
    exact zW.iret E hrt hlk G (by rw [hf]) (by rw [hf]) d_X_withdrawFromLowRights_58
  | succ d ih =>
    intro k0 x2 V hkd X hr H locs G ls hl
    refine lv_iload_n hx hb d_X_withdrawFromLowRights_4 rfl (lv_at hl 0 rfl) ?_
    refine lv_sipush (v := (nI 300)) hx hb d_X_withdrawFromLowRights_5 (by decide) ?_
    refine lv_icmp_ge (tgt := 57) hx hb d_X_withdrawFromLowRights_8 (by decide) (fun c_2 => absurd c_2 (nI_ge (by omega) (by omega))) (fun c_2 => ?_)
    refine lv_aload_n hx hb d_X_withdrawFromLowRights_11 rfl (lv_at hl 2 rfl) ?_
    refine z_get (v := .ref (a 15)) E hK G.1 i_X 0 3 rfl rfl (by decide) kf_X_35 rfl d_X_withdrawFromLowRights_12 ?_
    refine lv_iload_n hx hb d_X_withdrawFromLowRights_15 rfl (lv_at hl 0 rfl) ?_
    refine lv_iload_n hx hb d_X_withdrawFromLowRights_16 rfl (lv_at hl 3 rfl) ?_
    refine z_rv (As := [.int (nI k0), .int unit]) (rest := []) E hN hK G.1 hl.1 (c_Q_isOpenFor l D cI (fun j => a (15 + j)) c V (nI k0) unit hc) [15, 16, 17, 18, 19, 20, 21] rfl 0 rfl rfl kz_X_207 rfl ⟨Nat.le_of_ble_eq_true rfl, Nat.le_of_ble_eq_true rfl⟩ rfl (Nat.le_of_ble_eq_true rfl) ⟨Nat.zero_le _, Nat.zero_le _⟩ d_X_withdrawFromLowRights_17 ?_
    refine lv_if_eq (tgt := 51) hx hb d_X_withdrawFromLowRights_20 (by decide) (fun c_3 => ?_) (fun c_3 => ?_)
    · refine lv_iinc (v := nI (k0 + 1)) (lv' := [(3, .int (nI (k0 + 1))), (2, .int x2), (0, .ref (a 0)), (1, .int unit)]) hx hb d_X_withdrawFromLowRights_51 hl (k := 0) rfl (nI_1 _) (by decide) rfl (fun ls hl => ?_)
      refine lv_goto (tgt := 4) hx hb d_X_withdrawFromLowRights_54 (by decide) ?_
      exact ih (k0 + 1) x2 V (by omega) X (by rw [← hr, f_X_withdrawFromLowRights_L_s, if_pos c_3]) H locs G ls (lv_sub hl [0, 1, 2, 3] rfl)
    · refine lv_aload_n hx hb d_X_withdrawFromLowRights_23 rfl (lv_at hl 2 rfl) ?_
      refine lv_aload_n hx hb d_X_withdrawFromLowRights_24 rfl (lv_at hl 2 rfl) ?_
      refine z_get (v := .ref (a 15)) E hK G.1 i_X 0 3 rfl rfl (by decide) kf_X_35 rfl d_X_withdrawFromLowRights_25 ?_
      refine lv_iload_n hx hb d_X_withdrawFromLowRights_28 rfl (lv_at hl 0 rfl) ?_
      refine z_rv (As := [.int (nI k0)]) (rest := [.ref (a 0)]) E hN hK G.1 hl.1 (c_Q_personOf l D cI (fun j => a (15 + j)) c V (nI k0) hc) [15, 16, 17, 18, 19, 20, 21] rfl 0 rfl rfl kz_X_107 rfl ⟨Nat.le_of_ble_eq_true rfl, Nat.le_of_ble_eq_true rfl⟩ rfl (Nat.le_of_ble_eq_true rfl) ⟨Nat.zero_le _, Nat.zero_le _⟩ d_X_withdrawFromLowRights_29 ?_
      refine lv_iload_n hx hb d_X_withdrawFromLowRights_32 rfl (lv_at hl 3 rfl) ?_
      refine z_rv (As := [.int (f_Q_personOf c V (nI k0)), .int unit]) (rest := []) E hN hK G.1 hl.1 (c_X_isRightTooLow l D cI a nw k n c Z P U V (f_Q_personOf c V (nI k0)) unit hk hn hc) [0, 1, 2, 3, 4, 5, 6, 7, 8, 9, 10, 11, 12, 13, 14, 15, 16, 17, 18, 19, 20, 21] rfl 0 rfl rfl kz_X_73 rfl ⟨Nat.le_of_ble_eq_true rfl, Nat.le_of_ble_eq_true rfl⟩ rfl (Nat.le_of_ble_eq_true rfl) ⟨Nat.zero_le _, Nat.zero_le _⟩ d_X_withdrawFromLowRights_33 ?_
      refine lv_if_eq (tgt := 51) hx hb d_X_withdrawFromLowRights_36 (by decide) (fun c_4 => ?_) (fun c_4 => ?_)
      · refine lv_iinc (v := nI (k0 + 1)) (lv' := [(3, .int (nI (k0 + 1))), (2, .int x2), (0, .ref (a 0)), (1, .int unit)]) hx hb d_X_withdrawFromLowRights_51 hl (k := 0) rfl (nI_1 _) (by decide) rfl (fun ls hl => ?_)
        refine lv_goto (tgt := 4) hx hb d_X_withdrawFromLowRights_54 (by decide) ?_
        exact ih (k0 + 1) x2 V (by omega) X (by rw [← hr, f_X_withdrawFromLowRights_L_s, if_neg c_3, if_pos c_4]) H locs G ls (lv_sub hl [0, 1, 2, 3] rfl)
      · refine lv_aload_n hx hb d_X_withdrawFromLowRights_39 rfl (lv_at hl 2 rfl) ?_
        refine z_get (v := .ref (a 15)) E hK G.1 i_X 0 3 rfl rfl (by decide) kf_X_35 rfl d_X_withdrawFromLowRights_40 ?_
        refine lv_iload_n hx hb d_X_withdrawFromLowRights_43 rfl (lv_at hl 0 rfl) ?_
        refine lv_iconst (v := 4) hx hb d_X_withdrawFromLowRights_44 (by decide) ?_
        refine z_wv (As := [.int (nI k0), .int 4]) (rest := []) (wr := ([0, 1, 2, 3, 4, 5, 6, 7, 8, 9, 10, 11, 12, 13, 14] : List Nat).filterMap (fun i => (wX a cI nw (nI k) (nI n) (nI c) Z P U V)[i]?)) (ws' := wX a cI nw (nI k) (nI n) (nI c) Z P U (f_Q_setState c V (nI k0) 4)) E hN hK hA G hl.1 (c_Q_setState l D cI (fun j => a (15 + j)) c V (nI k0) 4 hc) [15, 16, 17, 18, 19, 20, 21] [0, 1, 2, 3, 4, 5, 6, 7, 8, 9, 10, 11, 12, 13, 14] [0, 1, 2, 3, 4, 5, 6, 7, 8, 9, 10, 11, 12, 13, 14, 15, 16, 17, 18, 19, 20, 21] rfl rfl rfl rfl rfl rfl (by decide) 0 rfl rfl kz_X_204 rfl ⟨Nat.le_of_ble_eq_true rfl, Nat.le_of_ble_eq_true rfl⟩ rfl (Nat.le_of_ble_eq_true rfl) ⟨Nat.zero_le _, Nat.zero_le _⟩ d_X_withdrawFromLowRights_45 (fun H locs G => ?_)
        refine W.eq (g2 := F0 m 48 ls []) rfl ?_
        refine lv_iinc (v := x2 + 1) (lv' := [(2, .int (x2 + 1)), (3, .int (nI k0)), (0, .ref (a 0)), (1, .int unit)]) hx hb d_X_withdrawFromLowRights_48 hl (k := 1) rfl rfl (by decide) rfl (fun ls hl => ?_)
        refine lv_iinc (v := nI (k0 + 1)) (lv' := [(3, .int (nI (k0 + 1))), (2, .int (x2 + 1)), (0, .ref (a 0)), (1, .int unit)]) hx hb d_X_withdrawFromLowRights_51 hl (k := 1) rfl (nI_1 _) (by decide) rfl (fun ls hl => ?_)
        refine lv_goto (tgt := 4) hx hb d_X_withdrawFromLowRights_54 (by decide) ?_
        exact ih (k0 + 1) (x2 + 1) (f_Q_setState c V (nI k0) 4) (by omega) X (by rw [← hr, f_X_withdrawFromLowRights_L_s, if_neg c_3, if_neg c_4]) H locs G ls (lv_sub hl [0, 1, 2, 3] rfl)
set_option maxHeartbeats 4000000 in
set_option maxRecDepth 100000 in
theorem c_X_withdrawFromLowRights (l : Launch) (D : va_G) (cI : ClassId) (a : Nat → Nat) (nw : Int32) (k : Nat) (n : Nat) (c : Nat) (Z : Nat → Nat → Int32) (P : Nat → Nat → Int32) (U : Nat → Nat → Int32) (V : Nat → Nat → Int32) (unit : Int32) (hk : k ≤ 20) (hn : n ≤ 60) (hc : c ≤ 300) : zW l D [(cI, .int)] y_X_withdrawFromLowRights b_X_withdrawFromLowRights 4 (some .int) 4 85 [.ref (a 0), .int unit] (wX a cI nw (nI k) (nI n) (nI c) Z P U V) (wX a cI nw (nI k) (nI n) (nI c) Z P U ((f_X_withdrawFromLowRights c P U V unit).2)) (some (.int (f_X_withdrawFromLowRights c P U V unit).1)) := by
  refine zW.of (by decide) (Nat.le_of_ble_eq_true rfl) ?_
  intro p e s m below meth c0 ls A E hrt hlk hN hK hA G hl
  have hx := E.1
  have hb := E.2.1
  have hl : lv_has ls 4 [(0, .ref (a 0)), (1, .int unit)] := hl
  refine lv_iconst (v := 0) hx hb d_X_withdrawFromLowRights_0 (by decide) ?_
  refine lv_istore_n (lv' := [(2, .int 0), (0, .ref (a 0)), (1, .int unit)]) hx hb d_X_withdrawFromLowRights_1 rfl hl (by decide) rfl (fun ls hl => ?_)
  refine lv_iconst (v := 0) hx hb d_X_withdrawFromLowRights_2 (by decide) ?_
  refine lv_istore_n (lv' := [(3, .int 0), (2, .int 0), (0, .ref (a 0)), (1, .int unit)]) hx hb d_X_withdrawFromLowRights_3 rfl hl (by decide) rfl (fun ls hl => ?_)
  exact lp_X_withdrawFromLowRights l D cI a nw k n c Z P U unit hk hn hc E hrt hlk hN hK hA 300 0 0 V (by omega) _ (by rfl) _ _ G ls (by rw [nI_0]; exact lv_sub hl [0, 1, 2, 3] rfl)
def f_X_come (nw : Int32) (k : Nat) (n : Nat) (c : Nat) (Z : Nat → Nat → Int32) (P : Nat → Nat → Int32) (U : Nat → Nat → Int32) (V : Nat → Nat → Int32) (person : Int32) : Int32 × Int32 × Int32 × Int32 × (Nat → Nat → Int32) × (Nat → Nat → Int32) × (Nat → Nat → Int32) × (Nat → Nat → Int32) := (if (f_isPerson person) = 0 then ((-1), nw, nI n, nI c, Z, P, U, V) else (if (f_S_isPresent k n Z person) = 0 then ((f_S_admit k n Z person).1, nw, (f_S_admit k n Z person).2.1, nI c, (f_S_admit k n Z person).2.2, P, U, V) else ((-3), nw, nI n, nI c, Z, P, U, V)))
set_option maxHeartbeats 4000000 in
set_option maxRecDepth 100000 in
theorem c_X_come (l : Launch) (D : va_G) (cI : ClassId) (a : Nat → Nat) (nw : Int32) (k : Nat) (n : Nat) (c : Nat) (Z : Nat → Nat → Int32) (P : Nat → Nat → Int32) (U : Nat → Nat → Int32) (V : Nat → Nat → Int32) (person : Int32) (hk : k ≤ 20) (hn : n ≤ 60) (hc : c ≤ 300) : zW l D [(cI, .int)] y_X_come b_X_come 2 (some .int) 5 105 [.ref (a 0), .int person] (wX a cI nw (nI k) (nI n) (nI c) Z P U V) (wX a cI ((f_X_come nw k n c Z P U V person).2.1) (nI k) ((f_X_come nw k n c Z P U V person).2.2.1) ((f_X_come nw k n c Z P U V person).2.2.2.1) ((f_X_come nw k n c Z P U V person).2.2.2.2.1) ((f_X_come nw k n c Z P U V person).2.2.2.2.2.1) ((f_X_come nw k n c Z P U V person).2.2.2.2.2.2.1) ((f_X_come nw k n c Z P U V person).2.2.2.2.2.2.2)) (some (.int (f_X_come nw k n c Z P U V person).1)) := by
  refine zW.of (by decide) (Nat.le_of_ble_eq_true rfl) ?_
  intro p e s m below meth c0 ls A E hrt hlk hN hK hA G hl
  have hx := E.1
  have hb := E.2.1
  have hl : lv_has ls 2 [(0, .ref (a 0)), (1, .int person)] := hl
  refine lv_iload_n hx hb d_X_come_0 rfl (lv_at hl 1 rfl) ?_
  refine z_rs (As := [.int person]) (rest := []) E hN hK hl.1 (c_isPerson l D [(cI, .int)] person) kz_X_43 rfl ⟨Nat.le_of_ble_eq_true rfl, Nat.le_of_ble_eq_true rfl⟩ rfl (Nat.le_of_ble_eq_true rfl) ⟨Nat.zero_le _, Nat.zero_le _⟩ d_X_come_1 ?_
  refine lv_if_ne (tgt := 9) hx hb d_X_come_4 (by decide) (fun c_1 => ?_) (fun c_1 => ?_)
  · refine lv_aload_n hx hb d_X_come_9 rfl (lv_at hl 0 rfl) ?_
    refine z_get (v := .ref (a 1)) E hK G.1 i_X 0 0 rfl rfl (by decide) kf_X_12 rfl d_X_come_10 ?_
    refine lv_iload_n hx hb d_X_come_13 rfl (lv_at hl 1 rfl) ?_
    refine z_rv (As := [.int person]) (rest := []) E hN hK G.1 hl.1 (c_S_isPresent l D cI (fun j => a (1 + j)) k n Z person hk hn) [1, 2, 3] rfl 0 rfl rfl kz_X_47 rfl ⟨Nat.le_of_ble_eq_true rfl, Nat.le_of_ble_eq_true rfl⟩ rfl (Nat.le_of_ble_eq_true rfl) ⟨Nat.zero_le _, Nat.zero_le _⟩ d_X_come_14 ?_
    refine lv_if_eq (tgt := 23) hx hb d_X_come_17 (by decide) (fun c_2 => ?_) (fun c_2 => ?_)
    · refine lv_aload_n hx hb d_X_come_23 rfl (lv_at hl 0 rfl) ?_
      refine z_get (v := .ref (a 1)) E hK G.1 i_X 0 0 rfl rfl (by decide) kf_X_12 rfl d_X_come_24 ?_
      refine lv_iload_n hx hb d_X_come_27 rfl (lv_at hl 1 rfl) ?_
      refine z_wv (As := [.int person]) (rest := []) (wr := ([0, 4, 5, 6, 7, 8, 9, 10, 11, 12, 13, 14, 15, 16, 17, 18, 19, 20, 21] : List Nat).filterMap (fun i => (wX a cI nw (nI k) (nI n) (nI c) Z P U V)[i]?)) (ws' := wX a cI nw (nI k) ((f_S_admit k n Z person).2.1) (nI c) ((f_S_admit k n Z person).2.2) P U V) E hN hK hA G hl.1 (c_S_admit l D cI (fun j => a (1 + j)) k n Z person hk hn) [1, 2, 3] [0, 4, 5, 6, 7, 8, 9, 10, 11, 12, 13, 14, 15, 16, 17, 18, 19, 20, 21] [0, 19, 20, 21, 1, 2, 3, 4, 5, 6, 7, 8, 9, 10, 11, 12, 13, 14, 15, 16, 17, 18] rfl rfl rfl rfl rfl rfl (by decide) 0 rfl rfl kz_X_50 rfl ⟨Nat.le_of_ble_eq_true rfl, Nat.le_of_ble_eq_true rfl⟩ rfl (Nat.le_of_ble_eq_true rfl) ⟨Nat.zero_le _, Nat.zero_le _⟩ d_X_come_28 (fun H locs G => ?_)
      refine W.eq (g2 := F0 m 31 ls [.int ((f_S_admit k n Z person).1)]) rfl ?_
      have hf : f_X_come nw k n c Z P U V person = ((f_S_admit k n Z person).1, nw, (f_S_admit k n Z person).2.1, nI c, (f_S_admit k n Z person).2.2, P, U, V) := by unfold f_X_come; rw [if_neg c_1, if_pos c_2]
      exact zW.iret E hrt hlk G (by rw [hf]) (by rw [hf]) d_X_come_31
    · refine lv_bipush (v := (-3)) hx hb d_X_come_20 (by decide) ?_
      have hf : f_X_come nw k n c Z P U V person = ((-3), nw, nI n, nI c, Z, P, U, V) := by unfold f_X_come; rw [if_neg c_1, if_neg c_2]
      exact zW.iret E hrt hlk G (by rw [hf]) (by rw [hf]) d_X_come_22
  · refine lv_iconst (v := (-1)) hx hb d_X_come_7 (by decide) ?_
    have hf : f_X_come nw k n c Z P U V person = ((-1), nw, nI n, nI c, Z, P, U, V) := by unfold f_X_come; rw [if_pos c_1]
    exact zW.iret E hrt hlk G (by rw [hf]) (by rw [hf]) d_X_come_8
def f_X_leave (nw : Int32) (k : Nat) (n : Nat) (c : Nat) (Z : Nat → Nat → Int32) (P : Nat → Nat → Int32) (U : Nat → Nat → Int32) (V : Nat → Nat → Int32) (person : Int32) : Int32 × Int32 × Int32 × Int32 × (Nat → Nat → Int32) × (Nat → Nat → Int32) × (Nat → Nat → Int32) × (Nat → Nat → Int32) := (if (f_isPerson person) = 0 then ((-1), nw, nI n, nI c, Z, P, U, V) else (if (f_S_isPresent k n Z person) = 0 then ((-3), nw, nI n, nI c, Z, P, U, V) else (if (f_Q_countHandedOut c V person) ≤ 0 then ((f_S_release k n Z person).1, nw, (f_S_release k n Z person).2.1, nI c, (f_S_release k n Z person).2.2, P, U, V) else ((-3), nw, nI n, nI c, Z, P, U, V))))
set_option maxHeartbeats 4000000 in
set_option maxRecDepth 100000 in
theorem c_X_leave (l : Launch) (D : va_G) (cI : ClassId) (a : Nat → Nat) (nw : Int32) (k : Nat) (n : Nat) (c : Nat) (Z : Nat → Nat → Int32) (P : Nat → Nat → Int32) (U : Nat → Nat → Int32) (V : Nat → Nat → Int32) (person : Int32) (hk : k ≤ 20) (hn : n ≤ 60) (hc : c ≤ 300) : zW l D [(cI, .int)] y_X_leave b_X_leave 2 (some .int) 5 105 [.ref (a 0), .int person] (wX a cI nw (nI k) (nI n) (nI c) Z P U V) (wX a cI ((f_X_leave nw k n c Z P U V person).2.1) (nI k) ((f_X_leave nw k n c Z P U V person).2.2.1) ((f_X_leave nw k n c Z P U V person).2.2.2.1) ((f_X_leave nw k n c Z P U V person).2.2.2.2.1) ((f_X_leave nw k n c Z P U V person).2.2.2.2.2.1) ((f_X_leave nw k n c Z P U V person).2.2.2.2.2.2.1) ((f_X_leave nw k n c Z P U V person).2.2.2.2.2.2.2)) (some (.int (f_X_leave nw k n c Z P U V person).1)) := by
  refine zW.of (by decide) (Nat.le_of_ble_eq_true rfl) ?_
  intro p e s m below meth c0 ls A E hrt hlk hN hK hA G hl
  have hx := E.1
  have hb := E.2.1
  have hl : lv_has ls 2 [(0, .ref (a 0)), (1, .int person)] := hl
  refine lv_iload_n hx hb d_X_leave_0 rfl (lv_at hl 1 rfl) ?_
  refine z_rs (As := [.int person]) (rest := []) E hN hK hl.1 (c_isPerson l D [(cI, .int)] person) kz_X_43 rfl ⟨Nat.le_of_ble_eq_true rfl, Nat.le_of_ble_eq_true rfl⟩ rfl (Nat.le_of_ble_eq_true rfl) ⟨Nat.zero_le _, Nat.zero_le _⟩ d_X_leave_1 ?_
  refine lv_if_ne (tgt := 9) hx hb d_X_leave_4 (by decide) (fun c_1 => ?_) (fun c_1 => ?_)
  · refine lv_aload_n hx hb d_X_leave_9 rfl (lv_at hl 0 rfl) ?_
    refine z_get (v := .ref (a 1)) E hK G.1 i_X 0 0 rfl rfl (by decide) kf_X_12 rfl d_X_leave_10 ?_
    refine lv_iload_n hx hb d_X_leave_13 rfl (lv_at hl 1 rfl) ?_
    refine z_rv (As := [.int person]) (rest := []) E hN hK G.1 hl.1 (c_S_isPresent l D cI (fun j => a (1 + j)) k n Z person hk hn) [1, 2, 3] rfl 0 rfl rfl kz_X_47 rfl ⟨Nat.le_of_ble_eq_true rfl, Nat.le_of_ble_eq_true rfl⟩ rfl (Nat.le_of_ble_eq_true rfl) ⟨Nat.zero_le _, Nat.zero_le _⟩ d_X_leave_14 ?_
    refine lv_if_eq (tgt := 31) hx hb d_X_leave_17 (by decide) (fun c_2 => ?_) (fun c_2 => ?_)
    · refine lv_bipush (v := (-3)) hx hb d_X_leave_31 (by decide) ?_
      have hf : f_X_leave nw k n c Z P U V person = ((-3), nw, nI n, nI c, Z, P, U, V) := by unfold f_X_leave; rw [if_neg c_1, if_pos c_2]
      exact zW.iret E hrt hlk G (by rw [hf]) (by rw [hf]) d_X_leave_33
    · refine lv_aload_n hx hb d_X_leave_20 rfl (lv_at hl 0 rfl) ?_
      refine z_get (v := .ref (a 15)) E hK G.1 i_X 0 3 rfl rfl (by decide) kf_X_35 rfl d_X_leave_21 ?_
      refine lv_iload_n hx hb d_X_leave_24 rfl (lv_at hl 1 rfl) ?_
      refine z_rv (As := [.int person]) (rest := []) E hN hK G.1 hl.1 (c_Q_countHandedOut l D cI (fun j => a (15 + j)) c V person hc) [15, 16, 17, 18, 19, 20, 21] rfl 0 rfl rfl kz_X_54 rfl ⟨Nat.le_of_ble_eq_true rfl, Nat.le_of_ble_eq_true rfl⟩ rfl (Nat.le_of_ble_eq_true rfl) ⟨Nat.zero_le _, Nat.zero_le _⟩ d_X_leave_25 ?_
      refine lv_if_le (tgt := 34) hx hb d_X_leave_28 (by decide) (fun c_3 => ?_) (fun c_3 => ?_)
      · refine lv_aload_n hx hb d_X_leave_34 rfl (lv_at hl 0 rfl) ?_
        refine z_get (v := .ref (a 1)) E hK G.1 i_X 0 0 rfl rfl (by decide) kf_X_12 rfl d_X_leave_35 ?_
        refine lv_iload_n hx hb d_X_leave_38 rfl (lv_at hl 1 rfl) ?_
        refine z_wv (As := [.int person]) (rest := []) (wr := ([0, 4, 5, 6, 7, 8, 9, 10, 11, 12, 13, 14, 15, 16, 17, 18, 19, 20, 21] : List Nat).filterMap (fun i => (wX a cI nw (nI k) (nI n) (nI c) Z P U V)[i]?)) (ws' := wX a cI nw (nI k) ((f_S_release k n Z person).2.1) (nI c) ((f_S_release k n Z person).2.2) P U V) E hN hK hA G hl.1 (c_S_release l D cI (fun j => a (1 + j)) k n Z person hk hn) [1, 2, 3] [0, 4, 5, 6, 7, 8, 9, 10, 11, 12, 13, 14, 15, 16, 17, 18, 19, 20, 21] [0, 19, 20, 21, 1, 2, 3, 4, 5, 6, 7, 8, 9, 10, 11, 12, 13, 14, 15, 16, 17, 18] rfl rfl rfl rfl rfl rfl (by decide) 0 rfl rfl kz_X_57 rfl ⟨Nat.le_of_ble_eq_true rfl, Nat.le_of_ble_eq_true rfl⟩ rfl (Nat.le_of_ble_eq_true rfl) ⟨Nat.zero_le _, Nat.zero_le _⟩ d_X_leave_39 (fun H locs G => ?_)
        refine W.eq (g2 := F0 m 42 ls [.int ((f_S_release k n Z person).1)]) rfl ?_
        have hf : f_X_leave nw k n c Z P U V person = ((f_S_release k n Z person).1, nw, (f_S_release k n Z person).2.1, nI c, (f_S_release k n Z person).2.2, P, U, V) := by unfold f_X_leave; rw [if_neg c_1, if_neg c_2, if_pos c_3]
        exact zW.iret E hrt hlk G (by rw [hf]) (by rw [hf]) d_X_leave_42
      · refine lv_bipush (v := (-3)) hx hb d_X_leave_31 (by decide) ?_
        have hf : f_X_leave nw k n c Z P U V person = ((-3), nw, nI n, nI c, Z, P, U, V) := by unfold f_X_leave; rw [if_neg c_1, if_neg c_2, if_neg c_3]
        exact zW.iret E hrt hlk G (by rw [hf]) (by rw [hf]) d_X_leave_33
  · refine lv_iconst (v := (-1)) hx hb d_X_leave_7 (by decide) ?_
    have hf : f_X_leave nw k n c Z P U V person = ((-1), nw, nI n, nI c, Z, P, U, V) := by unfold f_X_leave; rw [if_pos c_1]
    exact zW.iret E hrt hlk G (by rw [hf]) (by rw [hf]) d_X_leave_8
def f_X_ask (nw : Int32) (k : Nat) (n : Nat) (c : Nat) (Z : Nat → Nat → Int32) (P : Nat → Nat → Int32) (U : Nat → Nat → Int32) (V : Nat → Nat → Int32) (person : Int32) (unit : Int32) (t : Int32) : Int32 × Int32 × Int32 × Int32 × (Nat → Nat → Int32) × (Nat → Nat → Int32) × (Nat → Nat → Int32) × (Nat → Nat → Int32) := (if (f_isPerson person) = 0 then ((-1), nw, nI n, nI c, Z, P, U, V) else (if (f_isUnit unit) = 0 then ((-1), nw, nI n, nI c, Z, P, U, V) else (if (f_X_isTime nw t) = 0 then ((-2), nw, nI n, nI c, Z, P, U, V) else (if (f_S_isSeated k Z person) = 0 then ((-3), nw, nI n, nI c, Z, P, U, V) else (if (f_Q_isRunning c V person unit) = 0 then (if (f_X_isRightTooLow P U person unit) = 0 then (if (f_R_requestLimitOf P person) ≤ (f_Q_countRunning c V person) then ((-4), nw, nI n, nI c, Z, P, U, V) else (if (f_Q_isFull c) = 0 then ((f_Q_add c V person unit t).1, t, nI n, (f_Q_add c V person unit t).2.1, Z, P, U, (f_Q_add c V person unit t).2.2) else ((-4), nw, nI n, nI c, Z, P, U, V))) else ((-5), nw, nI n, nI c, Z, P, U, V)) else ((-3), nw, nI n, nI c, Z, P, U, V))))))
set_option maxHeartbeats 4000000 in
set_option maxRecDepth 100000 in
theorem c_X_ask (l : Launch) (D : va_G) (cI : ClassId) (a : Nat → Nat) (nw : Int32) (k : Nat) (n : Nat) (c : Nat) (Z : Nat → Nat → Int32) (P : Nat → Nat → Int32) (U : Nat → Nat → Int32) (V : Nat → Nat → Int32) (person : Int32) (unit : Int32) (t : Int32) (hk : k ≤ 20) (hn : n ≤ 60) (hc : c ≤ 300) : zW l D [(cI, .int)] y_X_ask b_X_ask 4 (some .int) 4 88 [.ref (a 0), .int person, .int unit, .int t] (wX a cI nw (nI k) (nI n) (nI c) Z P U V) (wX a cI ((f_X_ask nw k n c Z P U V person unit t).2.1) (nI k) ((f_X_ask nw k n c Z P U V person unit t).2.2.1) ((f_X_ask nw k n c Z P U V person unit t).2.2.2.1) ((f_X_ask nw k n c Z P U V person unit t).2.2.2.2.1) ((f_X_ask nw k n c Z P U V person unit t).2.2.2.2.2.1) ((f_X_ask nw k n c Z P U V person unit t).2.2.2.2.2.2.1) ((f_X_ask nw k n c Z P U V person unit t).2.2.2.2.2.2.2)) (some (.int (f_X_ask nw k n c Z P U V person unit t).1)) := by
  refine zW.of (by decide) (Nat.le_of_ble_eq_true rfl) ?_
  intro p e s m below meth c0 ls A E hrt hlk hN hK hA G hl
  have hx := E.1
  have hb := E.2.1
  have hl : lv_has ls 4 [(0, .ref (a 0)), (1, .int person), (2, .int unit), (3, .int t)] := hl
  refine lv_iload_n hx hb d_X_ask_0 rfl (lv_at hl 1 rfl) ?_
  refine z_rs (As := [.int person]) (rest := []) E hN hK hl.1 (c_isPerson l D [(cI, .int)] person) kz_X_43 rfl ⟨Nat.le_of_ble_eq_true rfl, Nat.le_of_ble_eq_true rfl⟩ rfl (Nat.le_of_ble_eq_true rfl) ⟨Nat.zero_le _, Nat.zero_le _⟩ d_X_ask_1 ?_
  refine lv_if_eq (tgt := 14) hx hb d_X_ask_4 (by decide) (fun c_1 => ?_) (fun c_1 => ?_)
  · refine lv_iconst (v := (-1)) hx hb d_X_ask_14 (by decide) ?_
    have hf : f_X_ask nw k n c Z P U V person unit t = ((-1), nw, nI n, nI c, Z, P, U, V) := by unfold f_X_ask; rw [if_pos c_1]
    exact zW.iret E hrt hlk G (by rw [hf]) (by rw [hf]) d_X_ask_15
  · refine lv_iload_n hx hb d_X_ask_7 rfl (lv_at hl 2 rfl) ?_
    refine z_rs (As := [.int unit]) (rest := []) E hN hK hl.1 (c_isUnit l D [(cI, .int)] unit) kz_X_60 rfl ⟨Nat.le_of_ble_eq_true rfl, Nat.le_of_ble_eq_true rfl⟩ rfl (Nat.le_of_ble_eq_true rfl) ⟨Nat.zero_le _, Nat.zero_le _⟩ d_X_ask_8 ?_
    refine lv_if_ne (tgt := 16) hx hb d_X_ask_11 (by decide) (fun c_2 => ?_) (fun c_2 => ?_)
    · refine lv_aload_n hx hb d_X_ask_16 rfl (lv_at hl 0 rfl) ?_
      refine lv_iload_n hx hb d_X_ask_17 rfl (lv_at hl 3 rfl) ?_
      refine z_rv (As := [.int t]) (rest := []) E hN hK G.1 hl.1 (c_X_isTime l D cI a nw k n c Z P U V t hk hn hc) [0, 1, 2, 3, 4, 5, 6, 7, 8, 9, 10, 11, 12, 13, 14, 15, 16, 17, 18, 19, 20, 21] rfl 0 rfl rfl kz_X_63 rfl ⟨Nat.le_of_ble_eq_true rfl, Nat.le_of_ble_eq_true rfl⟩ rfl (Nat.le_of_ble_eq_true rfl) ⟨Nat.zero_le _, Nat.zero_le _⟩ d_X_ask_18 ?_
      refine lv_if_ne (tgt := 27) hx hb d_X_ask_21 (by decide) (fun c_3 => ?_) (fun c_3 => ?_)
      · refine lv_aload_n hx hb d_X_ask_27 rfl (lv_at hl 0 rfl) ?_
        refine z_get (v := .ref (a 1)) E hK G.1 i_X 0 0 rfl rfl (by decide) kf_X_12 rfl d_X_ask_28 ?_
        refine lv_iload_n hx hb d_X_ask_31 rfl (lv_at hl 1 rfl) ?_
        refine z_rv (As := [.int person]) (rest := []) E hN hK G.1 hl.1 (c_S_isSeated l D cI (fun j => a (1 + j)) k n Z person hk hn) [1, 2, 3] rfl 0 rfl rfl kz_X_66 rfl ⟨Nat.le_of_ble_eq_true rfl, Nat.le_of_ble_eq_true rfl⟩ rfl (Nat.le_of_ble_eq_true rfl) ⟨Nat.zero_le _, Nat.zero_le _⟩ d_X_ask_32 ?_
        refine lv_if_eq (tgt := 50) hx hb d_X_ask_35 (by decide) (fun c_4 => ?_) (fun c_4 => ?_)
        · refine lv_bipush (v := (-3)) hx hb d_X_ask_50 (by decide) ?_
          have hf : f_X_ask nw k n c Z P U V person unit t = ((-3), nw, nI n, nI c, Z, P, U, V) := by unfold f_X_ask; rw [if_neg c_1, if_neg c_2, if_neg c_3, if_pos c_4]
          exact zW.iret E hrt hlk G (by rw [hf]) (by rw [hf]) d_X_ask_52
        · refine lv_aload_n hx hb d_X_ask_38 rfl (lv_at hl 0 rfl) ?_
          refine z_get (v := .ref (a 15)) E hK G.1 i_X 0 3 rfl rfl (by decide) kf_X_35 rfl d_X_ask_39 ?_
          refine lv_iload_n hx hb d_X_ask_42 rfl (lv_at hl 1 rfl) ?_
          refine lv_iload_n hx hb d_X_ask_43 rfl (lv_at hl 2 rfl) ?_
          refine z_rv (As := [.int person, .int unit]) (rest := []) E hN hK G.1 hl.1 (c_Q_isRunning l D cI (fun j => a (15 + j)) c V person unit hc) [15, 16, 17, 18, 19, 20, 21] rfl 0 rfl rfl kz_X_69 rfl ⟨Nat.le_of_ble_eq_true rfl, Nat.le_of_ble_eq_true rfl⟩ rfl (Nat.le_of_ble_eq_true rfl) ⟨Nat.zero_le _, Nat.zero_le _⟩ d_X_ask_44 ?_
          refine lv_if_eq (tgt := 53) hx hb d_X_ask_47 (by decide) (fun c_5 => ?_) (fun c_5 => ?_)
          · refine lv_aload_n hx hb d_X_ask_53 rfl (lv_at hl 0 rfl) ?_
            refine lv_iload_n hx hb d_X_ask_54 rfl (lv_at hl 1 rfl) ?_
            refine lv_iload_n hx hb d_X_ask_55 rfl (lv_at hl 2 rfl) ?_
            refine z_rv (As := [.int person, .int unit]) (rest := []) E hN hK G.1 hl.1 (c_X_isRightTooLow l D cI a nw k n c Z P U V person unit hk hn hc) [0, 1, 2, 3, 4, 5, 6, 7, 8, 9, 10, 11, 12, 13, 14, 15, 16, 17, 18, 19, 20, 21] rfl 0 rfl rfl kz_X_73 rfl ⟨Nat.le_of_ble_eq_true rfl, Nat.le_of_ble_eq_true rfl⟩ rfl (Nat.le_of_ble_eq_true rfl) ⟨Nat.zero_le _, Nat.zero_le _⟩ d_X_ask_56 ?_
            refine lv_if_eq (tgt := 65) hx hb d_X_ask_59 (by decide) (fun c_6 => ?_) (fun c_6 => ?_)
            · refine lv_aload_n hx hb d_X_ask_65 rfl (lv_at hl 0 rfl) ?_
              refine z_get (v := .ref (a 15)) E hK G.1 i_X 0 3 rfl rfl (by decide) kf_X_35 rfl d_X_ask_66 ?_
              refine lv_iload_n hx hb d_X_ask_69 rfl (lv_at hl 1 rfl) ?_
              refine z_rv (As := [.int person]) (rest := []) E hN hK G.1 hl.1 (c_Q_countRunning l D cI (fun j => a (15 + j)) c V person hc) [15, 16, 17, 18, 19, 20, 21] rfl 0 rfl rfl kz_X_76 rfl ⟨Nat.le_of_ble_eq_true rfl, Nat.le_of_ble_eq_true rfl⟩ rfl (Nat.le_of_ble_eq_true rfl) ⟨Nat.zero_le _, Nat.zero_le _⟩ d_X_ask_70 ?_
              refine lv_aload_n hx hb d_X_ask_73 rfl (lv_at hl 0 rfl) ?_
              refine z_get (v := .ref (a 4)) E hK G.1 i_X 0 1 rfl rfl (by decide) kf_X_21 rfl d_X_ask_74 ?_
              refine lv_iload_n hx hb d_X_ask_77 rfl (lv_at hl 1 rfl) ?_
              refine z_rv (As := [.int person]) (rest := [.int (f_Q_countRunning c V person)]) E hN hK G.1 hl.1 (c_R_requestLimitOf l D cI (fun j => a (4 + j)) P person ) [4, 5, 6, 7, 8, 9] rfl 0 rfl rfl kz_X_79 rfl ⟨Nat.le_of_ble_eq_true rfl, Nat.le_of_ble_eq_true rfl⟩ rfl (Nat.le_of_ble_eq_true rfl) ⟨Nat.zero_le _, Nat.zero_le _⟩ d_X_ask_78 ?_
              refine lv_icmp_ge (tgt := 94) hx hb d_X_ask_81 (by decide) (fun c_7 => ?_) (fun c_7 => ?_)
              · refine lv_bipush (v := (-4)) hx hb d_X_ask_94 (by decide) ?_
                have hf : f_X_ask nw k n c Z P U V person unit t = ((-4), nw, nI n, nI c, Z, P, U, V) := by unfold f_X_ask; rw [if_neg c_1, if_neg c_2, if_neg c_3, if_neg c_4, if_pos c_5, if_pos c_6, if_pos c_7]
                exact zW.iret E hrt hlk G (by rw [hf]) (by rw [hf]) d_X_ask_96
              · refine lv_aload_n hx hb d_X_ask_84 rfl (lv_at hl 0 rfl) ?_
                refine z_get (v := .ref (a 15)) E hK G.1 i_X 0 3 rfl rfl (by decide) kf_X_35 rfl d_X_ask_85 ?_
                refine z_rv (As := []) (rest := []) E hN hK G.1 hl.1 (c_Q_isFull l D cI (fun j => a (15 + j)) c V  hc) [15, 16, 17, 18, 19, 20, 21] rfl 0 rfl rfl kz_X_82 rfl ⟨Nat.le_of_ble_eq_true rfl, Nat.le_of_ble_eq_true rfl⟩ rfl (Nat.le_of_ble_eq_true rfl) ⟨Nat.zero_le _, Nat.zero_le _⟩ d_X_ask_88 ?_
                refine lv_if_eq (tgt := 97) hx hb d_X_ask_91 (by decide) (fun c_8 => ?_) (fun c_8 => ?_)
                · refine lv_aload_n hx hb d_X_ask_97 rfl (lv_at hl 0 rfl) ?_
                  refine lv_iload_n hx hb d_X_ask_98 rfl (lv_at hl 3 rfl) ?_
                  refine z_put (ty := .int) (ws' := wX a cI t (nI k) (nI n) (nI c) Z P U V) E hK G i_X t_X t_X_ok n_X 0 4 rfl rfl (by decide) kf_X_39 rfl rfl rfl rfl (Nat.le_of_ble_eq_true rfl) rfl d_X_ask_99 (fun H locs G => ?_)
                  refine lv_aload_n hx hb d_X_ask_102 rfl (lv_at hl 0 rfl) ?_
                  refine z_get (v := .ref (a 15)) E hK G.1 i_X 0 3 rfl rfl (by decide) kf_X_35 rfl d_X_ask_103 ?_
                  refine lv_iload_n hx hb d_X_ask_106 rfl (lv_at hl 1 rfl) ?_
                  refine lv_iload_n hx hb d_X_ask_107 rfl (lv_at hl 2 rfl) ?_
                  refine lv_iload_n hx hb d_X_ask_108 rfl (lv_at hl 3 rfl) ?_
                  refine z_wv (As := [.int person, .int unit, .int t]) (rest := []) (wr := ([0, 1, 2, 3, 4, 5, 6, 7, 8, 9, 10, 11, 12, 13, 14] : List Nat).filterMap (fun i => (wX a cI t (nI k) (nI n) (nI c) Z P U V)[i]?)) (ws' := wX a cI t (nI k) (nI n) ((f_Q_add c V person unit t).2.1) Z P U ((f_Q_add c V person unit t).2.2)) E hN hK hA G hl.1 (c_Q_add l D cI (fun j => a (15 + j)) c V person unit t hc) [15, 16, 17, 18, 19, 20, 21] [0, 1, 2, 3, 4, 5, 6, 7, 8, 9, 10, 11, 12, 13, 14] [0, 1, 2, 3, 4, 5, 6, 7, 8, 9, 10, 11, 12, 13, 14, 15, 16, 17, 18, 19, 20, 21] rfl rfl rfl rfl rfl rfl (by decide) 0 rfl rfl kz_X_86 rfl ⟨Nat.le_of_ble_eq_true rfl, Nat.le_of_ble_eq_true rfl⟩ rfl (Nat.le_of_ble_eq_true rfl) ⟨Nat.zero_le _, Nat.zero_le _⟩ d_X_ask_109 (fun H locs G => ?_)
                  refine W.eq (g2 := F0 m 112 ls [.int ((f_Q_add c V person unit t).1)]) rfl ?_
                  have hf : f_X_ask nw k n c Z P U V person unit t = ((f_Q_add c V person unit t).1, t, nI n, (f_Q_add c V person unit t).2.1, Z, P, U, (f_Q_add c V person unit t).2.2) := by unfold f_X_ask; rw [if_neg c_1, if_neg c_2, if_neg c_3, if_neg c_4, if_pos c_5, if_pos c_6, if_neg c_7, if_pos c_8]
                  exact zW.iret E hrt hlk G (by rw [hf]) (by rw [hf]) d_X_ask_112
                · refine lv_bipush (v := (-4)) hx hb d_X_ask_94 (by decide) ?_
                  have hf : f_X_ask nw k n c Z P U V person unit t = ((-4), nw, nI n, nI c, Z, P, U, V) := by unfold f_X_ask; rw [if_neg c_1, if_neg c_2, if_neg c_3, if_neg c_4, if_pos c_5, if_pos c_6, if_neg c_7, if_neg c_8]
                  exact zW.iret E hrt hlk G (by rw [hf]) (by rw [hf]) d_X_ask_96
            · refine lv_bipush (v := (-5)) hx hb d_X_ask_62 (by decide) ?_
              have hf : f_X_ask nw k n c Z P U V person unit t = ((-5), nw, nI n, nI c, Z, P, U, V) := by unfold f_X_ask; rw [if_neg c_1, if_neg c_2, if_neg c_3, if_neg c_4, if_pos c_5, if_neg c_6]
              exact zW.iret E hrt hlk G (by rw [hf]) (by rw [hf]) d_X_ask_64
          · refine lv_bipush (v := (-3)) hx hb d_X_ask_50 (by decide) ?_
            have hf : f_X_ask nw k n c Z P U V person unit t = ((-3), nw, nI n, nI c, Z, P, U, V) := by unfold f_X_ask; rw [if_neg c_1, if_neg c_2, if_neg c_3, if_neg c_4, if_neg c_5]
            exact zW.iret E hrt hlk G (by rw [hf]) (by rw [hf]) d_X_ask_52
      · refine lv_bipush (v := (-2)) hx hb d_X_ask_24 (by decide) ?_
        have hf : f_X_ask nw k n c Z P U V person unit t = ((-2), nw, nI n, nI c, Z, P, U, V) := by unfold f_X_ask; rw [if_neg c_1, if_neg c_2, if_pos c_3]
        exact zW.iret E hrt hlk G (by rw [hf]) (by rw [hf]) d_X_ask_26
    · refine lv_iconst (v := (-1)) hx hb d_X_ask_14 (by decide) ?_
      have hf : f_X_ask nw k n c Z P U V person unit t = ((-1), nw, nI n, nI c, Z, P, U, V) := by unfold f_X_ask; rw [if_neg c_1, if_pos c_2]
      exact zW.iret E hrt hlk G (by rw [hf]) (by rw [hf]) d_X_ask_15
def f_X_fetch (nw : Int32) (n : Nat) (c : Nat) (Z : Nat → Nat → Int32) (P : Nat → Nat → Int32) (U : Nat → Nat → Int32) (V : Nat → Nat → Int32) (unit : Int32) (t : Int32) : Int32 × Int32 × Int32 × Int32 × (Nat → Nat → Int32) × (Nat → Nat → Int32) × (Nat → Nat → Int32) × (Nat → Nat → Int32) := (if (f_isUnit unit) = 0 then ((-1), nw, nI n, nI c, Z, P, U, V) else (if (f_X_isTime nw t) = 0 then ((-2), nw, nI n, nI c, Z, P, U, V) else (if (f_H_placeOf U unit) = 0 then (if (f_Q_openOf c V unit 0) = (-1) then ((-3), nw, nI n, nI c, Z, P, U, V) else (if (f_H_conditionOf U unit) ≤ 2 then (f_Q_openOf c V unit 0, t, nI n, nI c, Z, P, (f_X_sendFor c U V unit (f_Q_openOf c V unit 0)).1, (f_X_sendFor c U V unit (f_Q_openOf c V unit 0)).2) else ((-3), nw, nI n, nI c, Z, P, U, V))) else ((-3), nw, nI n, nI c, Z, P, U, V))))
set_option maxHeartbeats 4000000 in
set_option maxRecDepth 100000 in
theorem c_X_fetch (l : Launch) (D : va_G) (cI : ClassId) (a : Nat → Nat) (nw : Int32) (k : Nat) (n : Nat) (c : Nat) (Z : Nat → Nat → Int32) (P : Nat → Nat → Int32) (U : Nat → Nat → Int32) (V : Nat → Nat → Int32) (unit : Int32) (t : Int32) (hk : k ≤ 20) (hn : n ≤ 60) (hc : c ≤ 300) : zW l D [(cI, .int)] y_X_fetch b_X_fetch 4 (some .int) 4 89 [.ref (a 0), .int unit, .int t] (wX a cI nw (nI k) (nI n) (nI c) Z P U V) (wX a cI ((f_X_fetch nw n c Z P U V unit t).2.1) (nI k) ((f_X_fetch nw n c Z P U V unit t).2.2.1) ((f_X_fetch nw n c Z P U V unit t).2.2.2.1) ((f_X_fetch nw n c Z P U V unit t).2.2.2.2.1) ((f_X_fetch nw n c Z P U V unit t).2.2.2.2.2.1) ((f_X_fetch nw n c Z P U V unit t).2.2.2.2.2.2.1) ((f_X_fetch nw n c Z P U V unit t).2.2.2.2.2.2.2)) (some (.int (f_X_fetch nw n c Z P U V unit t).1)) := by
  refine zW.of (by decide) (Nat.le_of_ble_eq_true rfl) ?_
  intro p e s m below meth c0 ls A E hrt hlk hN hK hA G hl
  have hx := E.1
  have hb := E.2.1
  have hl : lv_has ls 4 [(0, .ref (a 0)), (1, .int unit), (2, .int t)] := hl
  refine lv_iload_n hx hb d_X_fetch_0 rfl (lv_at hl 1 rfl) ?_
  refine z_rs (As := [.int unit]) (rest := []) E hN hK hl.1 (c_isUnit l D [(cI, .int)] unit) kz_X_60 rfl ⟨Nat.le_of_ble_eq_true rfl, Nat.le_of_ble_eq_true rfl⟩ rfl (Nat.le_of_ble_eq_true rfl) ⟨Nat.zero_le _, Nat.zero_le _⟩ d_X_fetch_1 ?_
  refine lv_if_ne (tgt := 9) hx hb d_X_fetch_4 (by decide) (fun c_1 => ?_) (fun c_1 => ?_)
  · refine lv_aload_n hx hb d_X_fetch_9 rfl (lv_at hl 0 rfl) ?_
    refine lv_iload_n hx hb d_X_fetch_10 rfl (lv_at hl 2 rfl) ?_
    refine z_rv (As := [.int t]) (rest := []) E hN hK G.1 hl.1 (c_X_isTime l D cI a nw k n c Z P U V t hk hn hc) [0, 1, 2, 3, 4, 5, 6, 7, 8, 9, 10, 11, 12, 13, 14, 15, 16, 17, 18, 19, 20, 21] rfl 0 rfl rfl kz_X_63 rfl ⟨Nat.le_of_ble_eq_true rfl, Nat.le_of_ble_eq_true rfl⟩ rfl (Nat.le_of_ble_eq_true rfl) ⟨Nat.zero_le _, Nat.zero_le _⟩ d_X_fetch_11 ?_
    refine lv_if_ne (tgt := 20) hx hb d_X_fetch_14 (by decide) (fun c_2 => ?_) (fun c_2 => ?_)
    · refine lv_aload_n hx hb d_X_fetch_20 rfl (lv_at hl 0 rfl) ?_
      refine z_get (v := .ref (a 15)) E hK G.1 i_X 0 3 rfl rfl (by decide) kf_X_35 rfl d_X_fetch_21 ?_
      refine lv_iload_n hx hb d_X_fetch_24 rfl (lv_at hl 1 rfl) ?_
      refine lv_iconst (v := 0) hx hb d_X_fetch_25 (by decide) ?_
      refine z_rv (As := [.int unit, .int 0]) (rest := []) E hN hK G.1 hl.1 (c_Q_openOf l D cI (fun j => a (15 + j)) c V unit 0 hc) [15, 16, 17, 18, 19, 20, 21] rfl 0 rfl rfl kz_X_90 rfl ⟨Nat.le_of_ble_eq_true rfl, Nat.le_of_ble_eq_true rfl⟩ rfl (Nat.le_of_ble_eq_true rfl) ⟨Nat.zero_le _, Nat.zero_le _⟩ d_X_fetch_26 ?_
      refine lv_istore_n (lv' := [(3, .int (f_Q_openOf c V unit 0)), (0, .ref (a 0)), (1, .int unit), (2, .int t)]) hx hb d_X_fetch_29 rfl hl (by decide) rfl (fun ls hl => ?_)
      refine lv_aload_n hx hb d_X_fetch_30 rfl (lv_at hl 1 rfl) ?_
      refine z_get (v := .ref (a 10)) E hK G.1 i_X 0 2 rfl rfl (by decide) kf_X_28 rfl d_X_fetch_31 ?_
      refine lv_iload_n hx hb d_X_fetch_34 rfl (lv_at hl 2 rfl) ?_
      refine z_rv (As := [.int unit]) (rest := []) E hN hK G.1 hl.1 (c_H_placeOf l D cI (fun j => a (10 + j)) U unit ) [10, 11, 12, 13, 14] rfl 0 rfl rfl kz_X_94 rfl ⟨Nat.le_of_ble_eq_true rfl, Nat.le_of_ble_eq_true rfl⟩ rfl (Nat.le_of_ble_eq_true rfl) ⟨Nat.zero_le _, Nat.zero_le _⟩ d_X_fetch_35 ?_
      refine lv_if_ne (tgt := 58) hx hb d_X_fetch_38 (by decide) (fun c_3 => ?_) (fun c_3 => ?_)
      · refine lv_bipush (v := (-3)) hx hb d_X_fetch_58 (by decide) ?_
        have hf : f_X_fetch nw n c Z P U V unit t = ((-3), nw, nI n, nI c, Z, P, U, V) := by unfold f_X_fetch; rw [if_neg c_1, if_neg c_2, if_neg c_3]
        exact zW.iret E hrt hlk G (by rw [hf]) (by rw [hf]) d_X_fetch_60
      · refine lv_iload_n hx hb d_X_fetch_41 rfl (lv_at hl 0 rfl) ?_
        refine lv_iconst (v := (-1)) hx hb d_X_fetch_42 (by decide) ?_
        refine lv_icmp_eq (tgt := 58) hx hb d_X_fetch_43 (by decide) (fun c_4 => ?_) (fun c_4 => ?_)
        · refine lv_bipush (v := (-3)) hx hb d_X_fetch_58 (by decide) ?_
          have hf : f_X_fetch nw n c Z P U V unit t = ((-3), nw, nI n, nI c, Z, P, U, V) := by unfold f_X_fetch; rw [if_neg c_1, if_neg c_2, if_pos c_3, if_pos c_4]
          exact zW.iret E hrt hlk G (by rw [hf]) (by rw [hf]) d_X_fetch_60
        · refine lv_aload_n hx hb d_X_fetch_46 rfl (lv_at hl 1 rfl) ?_
          refine z_get (v := .ref (a 10)) E hK G.1 i_X 0 2 rfl rfl (by decide) kf_X_28 rfl d_X_fetch_47 ?_
          refine lv_iload_n hx hb d_X_fetch_50 rfl (lv_at hl 2 rfl) ?_
          refine z_rv (As := [.int unit]) (rest := []) E hN hK G.1 hl.1 (c_H_conditionOf l D cI (fun j => a (10 + j)) U unit ) [10, 11, 12, 13, 14] rfl 0 rfl rfl kz_X_97 rfl ⟨Nat.le_of_ble_eq_true rfl, Nat.le_of_ble_eq_true rfl⟩ rfl (Nat.le_of_ble_eq_true rfl) ⟨Nat.zero_le _, Nat.zero_le _⟩ d_X_fetch_51 ?_
          refine lv_iconst (v := 2) hx hb d_X_fetch_54 (by decide) ?_
          refine lv_icmp_le (tgt := 61) hx hb d_X_fetch_55 (by decide) (fun c_5 => ?_) (fun c_5 => ?_)
          · refine lv_aload_n hx hb d_X_fetch_61 rfl (lv_at hl 1 rfl) ?_
            refine lv_iload_n hx hb d_X_fetch_62 rfl (lv_at hl 3 rfl) ?_
            refine z_put (ty := .int) (ws' := wX a cI t (nI k) (nI n) (nI c) Z P U V) E hK G i_X t_X t_X_ok n_X 0 4 rfl rfl (by decide) kf_X_39 rfl rfl rfl rfl (Nat.le_of_ble_eq_true rfl) rfl d_X_fetch_63 (fun H locs G => ?_)
            refine lv_aload_n hx hb d_X_fetch_66 rfl (lv_at hl 1 rfl) ?_
            refine lv_iload_n hx hb d_X_fetch_67 rfl (lv_at hl 2 rfl) ?_
            refine lv_iload_n hx hb d_X_fetch_68 rfl (lv_at hl 0 rfl) ?_
            refine z_wv (As := [.int unit, .int (f_Q_openOf c V unit 0)]) (rest := []) (wr := ([] : List Nat).filterMap (fun i => (wX a cI t (nI k) (nI n) (nI c) Z P U V)[i]?)) (ws' := wX a cI t (nI k) (nI n) (nI c) Z P ((f_X_sendFor c U V unit (f_Q_openOf c V unit 0)).1) ((f_X_sendFor c U V unit (f_Q_openOf c V unit 0)).2)) E hN hK hA G hl.1 (c_X_sendFor l D cI a t k n c Z P U V unit (f_Q_openOf c V unit 0) hk hn hc) [0, 1, 2, 3, 4, 5, 6, 7, 8, 9, 10, 11, 12, 13, 14, 15, 16, 17, 18, 19, 20, 21] [] [0, 1, 2, 3, 4, 5, 6, 7, 8, 9, 10, 11, 12, 13, 14, 15, 16, 17, 18, 19, 20, 21] rfl rfl rfl rfl rfl rfl (by decide) 0 rfl rfl kz_X_100 rfl ⟨Nat.le_of_ble_eq_true rfl, Nat.le_of_ble_eq_true rfl⟩ rfl (Nat.le_of_ble_eq_true rfl) ⟨Nat.zero_le _, Nat.zero_le _⟩ d_X_fetch_69 (fun H locs G => ?_)
            refine W.eq (g2 := F0 m 72 ls []) rfl ?_
            refine lv_iload_n hx hb d_X_fetch_72 rfl (lv_at hl 0 rfl) ?_
            have hf : f_X_fetch nw n c Z P U V unit t = (f_Q_openOf c V unit 0, t, nI n, nI c, Z, P, (f_X_sendFor c U V unit (f_Q_openOf c V unit 0)).1, (f_X_sendFor c U V unit (f_Q_openOf c V unit 0)).2) := by unfold f_X_fetch; rw [if_neg c_1, if_neg c_2, if_pos c_3, if_neg c_4, if_pos c_5]
            exact zW.iret E hrt hlk G (by rw [hf]) (by rw [hf]) d_X_fetch_73
          · refine lv_bipush (v := (-3)) hx hb d_X_fetch_58 (by decide) ?_
            have hf : f_X_fetch nw n c Z P U V unit t = ((-3), nw, nI n, nI c, Z, P, U, V) := by unfold f_X_fetch; rw [if_neg c_1, if_neg c_2, if_pos c_3, if_neg c_4, if_neg c_5]
            exact zW.iret E hrt hlk G (by rw [hf]) (by rw [hf]) d_X_fetch_60
    · refine lv_bipush (v := (-2)) hx hb d_X_fetch_17 (by decide) ?_
      have hf : f_X_fetch nw n c Z P U V unit t = ((-2), nw, nI n, nI c, Z, P, U, V) := by unfold f_X_fetch; rw [if_neg c_1, if_pos c_2]
      exact zW.iret E hrt hlk G (by rw [hf]) (by rw [hf]) d_X_fetch_19
  · refine lv_iconst (v := (-1)) hx hb d_X_fetch_7 (by decide) ?_
    have hf : f_X_fetch nw n c Z P U V unit t = ((-1), nw, nI n, nI c, Z, P, U, V) := by unfold f_X_fetch; rw [if_pos c_1]
    exact zW.iret E hrt hlk G (by rw [hf]) (by rw [hf]) d_X_fetch_8
def f_X_handOut (nw : Int32) (k : Nat) (n : Nat) (c : Nat) (Z : Nat → Nat → Int32) (P : Nat → Nat → Int32) (U : Nat → Nat → Int32) (V : Nat → Nat → Int32) (unit : Int32) (t : Int32) : Int32 × Int32 × Int32 × Int32 × (Nat → Nat → Int32) × (Nat → Nat → Int32) × (Nat → Nat → Int32) × (Nat → Nat → Int32) := (if (f_isUnit unit) = 0 then ((-1), nw, nI n, nI c, Z, P, U, V) else (if (f_X_isTime nw t) = 0 then ((-2), nw, nI n, nI c, Z, P, U, V) else (if (f_H_placeOf U unit) = 1 then (if (f_S_isSeated k Z (f_Q_personOf c V (f_H_requestOf U unit))) = 0 then ((-3), nw, nI n, nI c, Z, P, U, V) else (if (f_X_isRightTooLow P U (f_Q_personOf c V (f_H_requestOf U unit)) unit) = 0 then (f_Q_personOf c V (f_H_requestOf U unit), t, nI n, nI c, Z, P, (f_H_put U unit 2 (f_H_requestOf U unit)), (f_Q_markHandedOut c V (f_H_requestOf U unit) t)) else ((-5), nw, nI n, nI c, Z, P, U, V))) else ((-3), nw, nI n, nI c, Z, P, U, V))))
set_option maxHeartbeats 4000000 in
set_option maxRecDepth 100000 in
theorem c_X_handOut (l : Launch) (D : va_G) (cI : ClassId) (a : Nat → Nat) (nw : Int32) (k : Nat) (n : Nat) (c : Nat) (Z : Nat → Nat → Int32) (P : Nat → Nat → Int32) (U : Nat → Nat → Int32) (V : Nat → Nat → Int32) (unit : Int32) (t : Int32) (hk : k ≤ 20) (hn : n ≤ 60) (hc : c ≤ 300) : zW l D [(cI, .int)] y_X_handOut b_X_handOut 5 (some .int) 4 85 [.ref (a 0), .int unit, .int t] (wX a cI nw (nI k) (nI n) (nI c) Z P U V) (wX a cI ((f_X_handOut nw k n c Z P U V unit t).2.1) (nI k) ((f_X_handOut nw k n c Z P U V unit t).2.2.1) ((f_X_handOut nw k n c Z P U V unit t).2.2.2.1) ((f_X_handOut nw k n c Z P U V unit t).2.2.2.2.1) ((f_X_handOut nw k n c Z P U V unit t).2.2.2.2.2.1) ((f_X_handOut nw k n c Z P U V unit t).2.2.2.2.2.2.1) ((f_X_handOut nw k n c Z P U V unit t).2.2.2.2.2.2.2)) (some (.int (f_X_handOut nw k n c Z P U V unit t).1)) := by
  refine zW.of (by decide) (Nat.le_of_ble_eq_true rfl) ?_
  intro p e s m below meth c0 ls A E hrt hlk hN hK hA G hl
  have hx := E.1
  have hb := E.2.1
  have hl : lv_has ls 5 [(0, .ref (a 0)), (1, .int unit), (2, .int t)] := hl
  refine lv_iload_n hx hb d_X_handOut_0 rfl (lv_at hl 1 rfl) ?_
  refine z_rs (As := [.int unit]) (rest := []) E hN hK hl.1 (c_isUnit l D [(cI, .int)] unit) kz_X_60 rfl ⟨Nat.le_of_ble_eq_true rfl, Nat.le_of_ble_eq_true rfl⟩ rfl (Nat.le_of_ble_eq_true rfl) ⟨Nat.zero_le _, Nat.zero_le _⟩ d_X_handOut_1 ?_
  refine lv_if_ne (tgt := 9) hx hb d_X_handOut_4 (by decide) (fun c_1 => ?_) (fun c_1 => ?_)
  · refine lv_aload_n hx hb d_X_handOut_9 rfl (lv_at hl 0 rfl) ?_
    refine lv_iload_n hx hb d_X_handOut_10 rfl (lv_at hl 2 rfl) ?_
    refine z_rv (As := [.int t]) (rest := []) E hN hK G.1 hl.1 (c_X_isTime l D cI a nw k n c Z P U V t hk hn hc) [0, 1, 2, 3, 4, 5, 6, 7, 8, 9, 10, 11, 12, 13, 14, 15, 16, 17, 18, 19, 20, 21] rfl 0 rfl rfl kz_X_63 rfl ⟨Nat.le_of_ble_eq_true rfl, Nat.le_of_ble_eq_true rfl⟩ rfl (Nat.le_of_ble_eq_true rfl) ⟨Nat.zero_le _, Nat.zero_le _⟩ d_X_handOut_11 ?_
    refine lv_if_ne (tgt := 20) hx hb d_X_handOut_14 (by decide) (fun c_2 => ?_) (fun c_2 => ?_)
    · refine lv_aload_n hx hb d_X_handOut_20 rfl (lv_at hl 0 rfl) ?_
      refine z_get (v := .ref (a 10)) E hK G.1 i_X 0 2 rfl rfl (by decide) kf_X_28 rfl d_X_handOut_21 ?_
      refine lv_iload_n hx hb d_X_handOut_24 rfl (lv_at hl 1 rfl) ?_
      refine z_rv (As := [.int unit]) (rest := []) E hN hK G.1 hl.1 (c_H_requestOf l D cI (fun j => a (10 + j)) U unit ) [10, 11, 12, 13, 14] rfl 0 rfl rfl kz_X_104 rfl ⟨Nat.le_of_ble_eq_true rfl, Nat.le_of_ble_eq_true rfl⟩ rfl (Nat.le_of_ble_eq_true rfl) ⟨Nat.zero_le _, Nat.zero_le _⟩ d_X_handOut_25 ?_
      refine lv_istore_n (lv' := [(3, .int (f_H_requestOf U unit)), (0, .ref (a 0)), (1, .int unit), (2, .int t)]) hx hb d_X_handOut_28 rfl hl (by decide) rfl (fun ls hl => ?_)
      refine lv_aload_n hx hb d_X_handOut_29 rfl (lv_at hl 1 rfl) ?_
      refine z_get (v := .ref (a 15)) E hK G.1 i_X 0 3 rfl rfl (by decide) kf_X_35 rfl d_X_handOut_30 ?_
      refine lv_iload_n hx hb d_X_handOut_33 rfl (lv_at hl 0 rfl) ?_
      refine z_rv (As := [.int (f_H_requestOf U unit)]) (rest := []) E hN hK G.1 hl.1 (c_Q_personOf l D cI (fun j => a (15 + j)) c V (f_H_requestOf U unit) hc) [15, 16, 17, 18, 19, 20, 21] rfl 0 rfl rfl kz_X_107 rfl ⟨Nat.le_of_ble_eq_true rfl, Nat.le_of_ble_eq_true rfl⟩ rfl (Nat.le_of_ble_eq_true rfl) ⟨Nat.zero_le _, Nat.zero_le _⟩ d_X_handOut_34 ?_
      refine lv_istore (lv' := [(4, .int (f_Q_personOf c V (f_H_requestOf U unit))), (3, .int (f_H_requestOf U unit)), (0, .ref (a 0)), (1, .int unit), (2, .int t)]) hx hb d_X_handOut_37 hl (by decide) rfl (fun ls hl => ?_)
      refine lv_aload_n hx hb d_X_handOut_39 rfl (lv_at hl 2 rfl) ?_
      refine z_get (v := .ref (a 10)) E hK G.1 i_X 0 2 rfl rfl (by decide) kf_X_28 rfl d_X_handOut_40 ?_
      refine lv_iload_n hx hb d_X_handOut_43 rfl (lv_at hl 3 rfl) ?_
      refine z_rv (As := [.int unit]) (rest := []) E hN hK G.1 hl.1 (c_H_placeOf l D cI (fun j => a (10 + j)) U unit ) [10, 11, 12, 13, 14] rfl 0 rfl rfl kz_X_94 rfl ⟨Nat.le_of_ble_eq_true rfl, Nat.le_of_ble_eq_true rfl⟩ rfl (Nat.le_of_ble_eq_true rfl) ⟨Nat.zero_le _, Nat.zero_le _⟩ d_X_handOut_44 ?_
      refine lv_iconst (v := 1) hx hb d_X_handOut_47 (by decide) ?_
      refine lv_icmp_ne (tgt := 63) hx hb d_X_handOut_48 (by decide) (fun c_3 => ?_) (fun c_3 => ?_)
      · refine lv_bipush (v := (-3)) hx hb d_X_handOut_63 (by decide) ?_
        have hf : f_X_handOut nw k n c Z P U V unit t = ((-3), nw, nI n, nI c, Z, P, U, V) := by unfold f_X_handOut; rw [if_neg c_1, if_neg c_2, if_neg c_3]
        exact zW.iret E hrt hlk G (by rw [hf]) (by rw [hf]) d_X_handOut_65
      · refine lv_aload_n hx hb d_X_handOut_51 rfl (lv_at hl 2 rfl) ?_
        refine z_get (v := .ref (a 1)) E hK G.1 i_X 0 0 rfl rfl (by decide) kf_X_12 rfl d_X_handOut_52 ?_
        refine lv_iload hx hb d_X_handOut_55 (lv_at hl 0 rfl) ?_
        refine z_rv (As := [.int (f_Q_personOf c V (f_H_requestOf U unit))]) (rest := []) E hN hK G.1 hl.1 (c_S_isSeated l D cI (fun j => a (1 + j)) k n Z (f_Q_personOf c V (f_H_requestOf U unit)) hk hn) [1, 2, 3] rfl 0 rfl rfl kz_X_66 rfl ⟨Nat.le_of_ble_eq_true rfl, Nat.le_of_ble_eq_true rfl⟩ rfl (Nat.le_of_ble_eq_true rfl) ⟨Nat.zero_le _, Nat.zero_le _⟩ d_X_handOut_57 ?_
        refine lv_if_ne (tgt := 66) hx hb d_X_handOut_60 (by decide) (fun c_4 => ?_) (fun c_4 => ?_)
        · refine lv_aload_n hx hb d_X_handOut_66 rfl (lv_at hl 2 rfl) ?_
          refine lv_iload hx hb d_X_handOut_67 (lv_at hl 0 rfl) ?_
          refine lv_iload_n hx hb d_X_handOut_69 rfl (lv_at hl 3 rfl) ?_
          refine z_rv (As := [.int (f_Q_personOf c V (f_H_requestOf U unit)), .int unit]) (rest := []) E hN hK G.1 hl.1 (c_X_isRightTooLow l D cI a nw k n c Z P U V (f_Q_personOf c V (f_H_requestOf U unit)) unit hk hn hc) [0, 1, 2, 3, 4, 5, 6, 7, 8, 9, 10, 11, 12, 13, 14, 15, 16, 17, 18, 19, 20, 21] rfl 0 rfl rfl kz_X_73 rfl ⟨Nat.le_of_ble_eq_true rfl, Nat.le_of_ble_eq_true rfl⟩ rfl (Nat.le_of_ble_eq_true rfl) ⟨Nat.zero_le _, Nat.zero_le _⟩ d_X_handOut_70 ?_
          refine lv_if_eq (tgt := 79) hx hb d_X_handOut_73 (by decide) (fun c_5 => ?_) (fun c_5 => ?_)
          · refine lv_aload_n hx hb d_X_handOut_79 rfl (lv_at hl 2 rfl) ?_
            refine lv_iload_n hx hb d_X_handOut_80 rfl (lv_at hl 4 rfl) ?_
            refine z_put (ty := .int) (ws' := wX a cI t (nI k) (nI n) (nI c) Z P U V) E hK G i_X t_X t_X_ok n_X 0 4 rfl rfl (by decide) kf_X_39 rfl rfl rfl rfl (Nat.le_of_ble_eq_true rfl) rfl d_X_handOut_81 (fun H locs G => ?_)
            refine lv_aload_n hx hb d_X_handOut_84 rfl (lv_at hl 2 rfl) ?_
            refine z_get (v := .ref (a 10)) E hK G.1 i_X 0 2 rfl rfl (by decide) kf_X_28 rfl d_X_handOut_85 ?_
            refine lv_iload_n hx hb d_X_handOut_88 rfl (lv_at hl 3 rfl) ?_
            refine lv_iconst (v := 2) hx hb d_X_handOut_89 (by decide) ?_
            refine lv_iload_n hx hb d_X_handOut_90 rfl (lv_at hl 1 rfl) ?_
            refine z_wv (As := [.int unit, .int 2, .int (f_H_requestOf U unit)]) (rest := []) (wr := ([0, 1, 2, 3, 4, 5, 6, 7, 8, 9, 15, 16, 17, 18, 19, 20, 21] : List Nat).filterMap (fun i => (wX a cI t (nI k) (nI n) (nI c) Z P U V)[i]?)) (ws' := wX a cI t (nI k) (nI n) (nI c) Z P (f_H_put U unit 2 (f_H_requestOf U unit)) V) E hN hK hA G hl.1 (c_H_put l D cI (fun j => a (10 + j)) U unit 2 (f_H_requestOf U unit) ) [10, 11, 12, 13, 14] [0, 1, 2, 3, 4, 5, 6, 7, 8, 9, 15, 16, 17, 18, 19, 20, 21] [0, 1, 2, 3, 4, 5, 6, 7, 8, 9, 17, 18, 19, 20, 21, 10, 11, 12, 13, 14, 15, 16] rfl rfl rfl rfl rfl rfl (by decide) 0 rfl rfl kz_X_110 rfl ⟨Nat.le_of_ble_eq_true rfl, Nat.le_of_ble_eq_true rfl⟩ rfl (Nat.le_of_ble_eq_true rfl) ⟨Nat.zero_le _, Nat.zero_le _⟩ d_X_handOut_91 (fun H locs G => ?_)
            refine W.eq (g2 := F0 m 94 ls []) rfl ?_
            refine lv_aload_n hx hb d_X_handOut_94 rfl (lv_at hl 2 rfl) ?_
            refine z_get (v := .ref (a 15)) E hK G.1 i_X 0 3 rfl rfl (by decide) kf_X_35 rfl d_X_handOut_95 ?_
            refine lv_iload_n hx hb d_X_handOut_98 rfl (lv_at hl 1 rfl) ?_
            refine lv_iload_n hx hb d_X_handOut_99 rfl (lv_at hl 4 rfl) ?_
            refine z_wv (As := [.int (f_H_requestOf U unit), .int t]) (rest := []) (wr := ([0, 1, 2, 3, 4, 5, 6, 7, 8, 9, 10, 11, 12, 13, 14] : List Nat).filterMap (fun i => (wX a cI t (nI k) (nI n) (nI c) Z P (f_H_put U unit 2 (f_H_requestOf U unit)) V)[i]?)) (ws' := wX a cI t (nI k) (nI n) (nI c) Z P (f_H_put U unit 2 (f_H_requestOf U unit)) (f_Q_markHandedOut c V (f_H_requestOf U unit) t)) E hN hK hA G hl.1 (c_Q_markHandedOut l D cI (fun j => a (15 + j)) c V (f_H_requestOf U unit) t hc) [15, 16, 17, 18, 19, 20, 21] [0, 1, 2, 3, 4, 5, 6, 7, 8, 9, 10, 11, 12, 13, 14] [0, 1, 2, 3, 4, 5, 6, 7, 8, 9, 10, 11, 12, 13, 14, 15, 16, 17, 18, 19, 20, 21] rfl rfl rfl rfl rfl rfl (by decide) 0 rfl rfl kz_X_114 rfl ⟨Nat.le_of_ble_eq_true rfl, Nat.le_of_ble_eq_true rfl⟩ rfl (Nat.le_of_ble_eq_true rfl) ⟨Nat.zero_le _, Nat.zero_le _⟩ d_X_handOut_100 (fun H locs G => ?_)
            refine W.eq (g2 := F0 m 103 ls []) rfl ?_
            refine lv_iload hx hb d_X_handOut_103 (lv_at hl 0 rfl) ?_
            have hf : f_X_handOut nw k n c Z P U V unit t = (f_Q_personOf c V (f_H_requestOf U unit), t, nI n, nI c, Z, P, (f_H_put U unit 2 (f_H_requestOf U unit)), (f_Q_markHandedOut c V (f_H_requestOf U unit) t)) := by unfold f_X_handOut; rw [if_neg c_1, if_neg c_2, if_pos c_3, if_neg c_4, if_pos c_5]
            exact zW.iret E hrt hlk G (by rw [hf]) (by rw [hf]) d_X_handOut_105
          · refine lv_bipush (v := (-5)) hx hb d_X_handOut_76 (by decide) ?_
            have hf : f_X_handOut nw k n c Z P U V unit t = ((-5), nw, nI n, nI c, Z, P, U, V) := by unfold f_X_handOut; rw [if_neg c_1, if_neg c_2, if_pos c_3, if_neg c_4, if_neg c_5]
            exact zW.iret E hrt hlk G (by rw [hf]) (by rw [hf]) d_X_handOut_78
        · refine lv_bipush (v := (-3)) hx hb d_X_handOut_63 (by decide) ?_
          have hf : f_X_handOut nw k n c Z P U V unit t = ((-3), nw, nI n, nI c, Z, P, U, V) := by unfold f_X_handOut; rw [if_neg c_1, if_neg c_2, if_pos c_3, if_pos c_4]
          exact zW.iret E hrt hlk G (by rw [hf]) (by rw [hf]) d_X_handOut_65
    · refine lv_bipush (v := (-2)) hx hb d_X_handOut_17 (by decide) ?_
      have hf : f_X_handOut nw k n c Z P U V unit t = ((-2), nw, nI n, nI c, Z, P, U, V) := by unfold f_X_handOut; rw [if_neg c_1, if_pos c_2]
      exact zW.iret E hrt hlk G (by rw [hf]) (by rw [hf]) d_X_handOut_19
  · refine lv_iconst (v := (-1)) hx hb d_X_handOut_7 (by decide) ?_
    have hf : f_X_handOut nw k n c Z P U V unit t = ((-1), nw, nI n, nI c, Z, P, U, V) := by unfold f_X_handOut; rw [if_pos c_1]
    exact zW.iret E hrt hlk G (by rw [hf]) (by rw [hf]) d_X_handOut_8
def f_X_back (nw : Int32) (n : Nat) (c : Nat) (Z : Nat → Nat → Int32) (P : Nat → Nat → Int32) (U : Nat → Nat → Int32) (V : Nat → Nat → Int32) (unit : Int32) (t : Int32) : Int32 × Int32 × Int32 × Int32 × (Nat → Nat → Int32) × (Nat → Nat → Int32) × (Nat → Nat → Int32) × (Nat → Nat → Int32) := (if (f_isUnit unit) = 0 then ((-1), nw, nI n, nI c, Z, P, U, V) else (if (f_X_isTime nw t) = 0 then ((-2), nw, nI n, nI c, Z, P, U, V) else (if (f_H_placeOf U unit) = 2 then (f_H_requestOf U unit, t, nI n, nI c, Z, P, (f_H_put U unit 3 (f_H_requestOf U unit)), (f_Q_markBack c V (f_H_requestOf U unit) t)) else ((-3), nw, nI n, nI c, Z, P, U, V))))
set_option maxHeartbeats 4000000 in
set_option maxRecDepth 100000 in
theorem c_X_back (l : Launch) (D : va_G) (cI : ClassId) (a : Nat → Nat) (nw : Int32) (k : Nat) (n : Nat) (c : Nat) (Z : Nat → Nat → Int32) (P : Nat → Nat → Int32) (U : Nat → Nat → Int32) (V : Nat → Nat → Int32) (unit : Int32) (t : Int32) (hk : k ≤ 20) (hn : n ≤ 60) (hc : c ≤ 300) : zW l D [(cI, .int)] y_X_back b_X_back 4 (some .int) 3 65 [.ref (a 0), .int unit, .int t] (wX a cI nw (nI k) (nI n) (nI c) Z P U V) (wX a cI ((f_X_back nw n c Z P U V unit t).2.1) (nI k) ((f_X_back nw n c Z P U V unit t).2.2.1) ((f_X_back nw n c Z P U V unit t).2.2.2.1) ((f_X_back nw n c Z P U V unit t).2.2.2.2.1) ((f_X_back nw n c Z P U V unit t).2.2.2.2.2.1) ((f_X_back nw n c Z P U V unit t).2.2.2.2.2.2.1) ((f_X_back nw n c Z P U V unit t).2.2.2.2.2.2.2)) (some (.int (f_X_back nw n c Z P U V unit t).1)) := by
  refine zW.of (by decide) (Nat.le_of_ble_eq_true rfl) ?_
  intro p e s m below meth c0 ls A E hrt hlk hN hK hA G hl
  have hx := E.1
  have hb := E.2.1
  have hl : lv_has ls 4 [(0, .ref (a 0)), (1, .int unit), (2, .int t)] := hl
  refine lv_iload_n hx hb d_X_back_0 rfl (lv_at hl 1 rfl) ?_
  refine z_rs (As := [.int unit]) (rest := []) E hN hK hl.1 (c_isUnit l D [(cI, .int)] unit) kz_X_60 rfl ⟨Nat.le_of_ble_eq_true rfl, Nat.le_of_ble_eq_true rfl⟩ rfl (Nat.le_of_ble_eq_true rfl) ⟨Nat.zero_le _, Nat.zero_le _⟩ d_X_back_1 ?_
  refine lv_if_ne (tgt := 9) hx hb d_X_back_4 (by decide) (fun c_1 => ?_) (fun c_1 => ?_)
  · refine lv_aload_n hx hb d_X_back_9 rfl (lv_at hl 0 rfl) ?_
    refine lv_iload_n hx hb d_X_back_10 rfl (lv_at hl 2 rfl) ?_
    refine z_rv (As := [.int t]) (rest := []) E hN hK G.1 hl.1 (c_X_isTime l D cI a nw k n c Z P U V t hk hn hc) [0, 1, 2, 3, 4, 5, 6, 7, 8, 9, 10, 11, 12, 13, 14, 15, 16, 17, 18, 19, 20, 21] rfl 0 rfl rfl kz_X_63 rfl ⟨Nat.le_of_ble_eq_true rfl, Nat.le_of_ble_eq_true rfl⟩ rfl (Nat.le_of_ble_eq_true rfl) ⟨Nat.zero_le _, Nat.zero_le _⟩ d_X_back_11 ?_
    refine lv_if_ne (tgt := 20) hx hb d_X_back_14 (by decide) (fun c_2 => ?_) (fun c_2 => ?_)
    · refine lv_aload_n hx hb d_X_back_20 rfl (lv_at hl 0 rfl) ?_
      refine z_get (v := .ref (a 10)) E hK G.1 i_X 0 2 rfl rfl (by decide) kf_X_28 rfl d_X_back_21 ?_
      refine lv_iload_n hx hb d_X_back_24 rfl (lv_at hl 1 rfl) ?_
      refine z_rv (As := [.int unit]) (rest := []) E hN hK G.1 hl.1 (c_H_placeOf l D cI (fun j => a (10 + j)) U unit ) [10, 11, 12, 13, 14] rfl 0 rfl rfl kz_X_94 rfl ⟨Nat.le_of_ble_eq_true rfl, Nat.le_of_ble_eq_true rfl⟩ rfl (Nat.le_of_ble_eq_true rfl) ⟨Nat.zero_le _, Nat.zero_le _⟩ d_X_back_25 ?_
      refine lv_iconst (v := 2) hx hb d_X_back_28 (by decide) ?_
      refine lv_icmp_eq (tgt := 35) hx hb d_X_back_29 (by decide) (fun c_3 => ?_) (fun c_3 => ?_)
      · refine lv_aload_n hx hb d_X_back_35 rfl (lv_at hl 0 rfl) ?_
        refine lv_iload_n hx hb d_X_back_36 rfl (lv_at hl 2 rfl) ?_
        refine z_put (ty := .int) (ws' := wX a cI t (nI k) (nI n) (nI c) Z P U V) E hK G i_X t_X t_X_ok n_X 0 4 rfl rfl (by decide) kf_X_39 rfl rfl rfl rfl (Nat.le_of_ble_eq_true rfl) rfl d_X_back_37 (fun H locs G => ?_)
        refine lv_aload_n hx hb d_X_back_40 rfl (lv_at hl 0 rfl) ?_
        refine z_get (v := .ref (a 10)) E hK G.1 i_X 0 2 rfl rfl (by decide) kf_X_28 rfl d_X_back_41 ?_
        refine lv_iload_n hx hb d_X_back_44 rfl (lv_at hl 1 rfl) ?_
        refine z_rv (As := [.int unit]) (rest := []) E hN hK G.1 hl.1 (c_H_requestOf l D cI (fun j => a (10 + j)) U unit ) [10, 11, 12, 13, 14] rfl 0 rfl rfl kz_X_104 rfl ⟨Nat.le_of_ble_eq_true rfl, Nat.le_of_ble_eq_true rfl⟩ rfl (Nat.le_of_ble_eq_true rfl) ⟨Nat.zero_le _, Nat.zero_le _⟩ d_X_back_45 ?_
        refine lv_istore_n (lv' := [(3, .int (f_H_requestOf U unit)), (0, .ref (a 0)), (1, .int unit), (2, .int t)]) hx hb d_X_back_48 rfl hl (by decide) rfl (fun ls hl => ?_)
        refine lv_aload_n hx hb d_X_back_49 rfl (lv_at hl 1 rfl) ?_
        refine z_get (v := .ref (a 10)) E hK G.1 i_X 0 2 rfl rfl (by decide) kf_X_28 rfl d_X_back_50 ?_
        refine lv_iload_n hx hb d_X_back_53 rfl (lv_at hl 2 rfl) ?_
        refine lv_iconst (v := 3) hx hb d_X_back_54 (by decide) ?_
        refine lv_iload_n hx hb d_X_back_55 rfl (lv_at hl 0 rfl) ?_
        refine z_wv (As := [.int unit, .int 3, .int (f_H_requestOf U unit)]) (rest := []) (wr := ([0, 1, 2, 3, 4, 5, 6, 7, 8, 9, 15, 16, 17, 18, 19, 20, 21] : List Nat).filterMap (fun i => (wX a cI t (nI k) (nI n) (nI c) Z P U V)[i]?)) (ws' := wX a cI t (nI k) (nI n) (nI c) Z P (f_H_put U unit 3 (f_H_requestOf U unit)) V) E hN hK hA G hl.1 (c_H_put l D cI (fun j => a (10 + j)) U unit 3 (f_H_requestOf U unit) ) [10, 11, 12, 13, 14] [0, 1, 2, 3, 4, 5, 6, 7, 8, 9, 15, 16, 17, 18, 19, 20, 21] [0, 1, 2, 3, 4, 5, 6, 7, 8, 9, 17, 18, 19, 20, 21, 10, 11, 12, 13, 14, 15, 16] rfl rfl rfl rfl rfl rfl (by decide) 0 rfl rfl kz_X_110 rfl ⟨Nat.le_of_ble_eq_true rfl, Nat.le_of_ble_eq_true rfl⟩ rfl (Nat.le_of_ble_eq_true rfl) ⟨Nat.zero_le _, Nat.zero_le _⟩ d_X_back_56 (fun H locs G => ?_)
        refine W.eq (g2 := F0 m 59 ls []) rfl ?_
        refine lv_aload_n hx hb d_X_back_59 rfl (lv_at hl 1 rfl) ?_
        refine z_get (v := .ref (a 15)) E hK G.1 i_X 0 3 rfl rfl (by decide) kf_X_35 rfl d_X_back_60 ?_
        refine lv_iload_n hx hb d_X_back_63 rfl (lv_at hl 0 rfl) ?_
        refine lv_iload_n hx hb d_X_back_64 rfl (lv_at hl 3 rfl) ?_
        refine z_wv (As := [.int (f_H_requestOf U unit), .int t]) (rest := []) (wr := ([0, 1, 2, 3, 4, 5, 6, 7, 8, 9, 10, 11, 12, 13, 14] : List Nat).filterMap (fun i => (wX a cI t (nI k) (nI n) (nI c) Z P (f_H_put U unit 3 (f_H_requestOf U unit)) V)[i]?)) (ws' := wX a cI t (nI k) (nI n) (nI c) Z P (f_H_put U unit 3 (f_H_requestOf U unit)) (f_Q_markBack c V (f_H_requestOf U unit) t)) E hN hK hA G hl.1 (c_Q_markBack l D cI (fun j => a (15 + j)) c V (f_H_requestOf U unit) t hc) [15, 16, 17, 18, 19, 20, 21] [0, 1, 2, 3, 4, 5, 6, 7, 8, 9, 10, 11, 12, 13, 14] [0, 1, 2, 3, 4, 5, 6, 7, 8, 9, 10, 11, 12, 13, 14, 15, 16, 17, 18, 19, 20, 21] rfl rfl rfl rfl rfl rfl (by decide) 0 rfl rfl kz_X_117 rfl ⟨Nat.le_of_ble_eq_true rfl, Nat.le_of_ble_eq_true rfl⟩ rfl (Nat.le_of_ble_eq_true rfl) ⟨Nat.zero_le _, Nat.zero_le _⟩ d_X_back_65 (fun H locs G => ?_)
        refine W.eq (g2 := F0 m 68 ls []) rfl ?_
        refine lv_iload_n hx hb d_X_back_68 rfl (lv_at hl 0 rfl) ?_
        have hf : f_X_back nw n c Z P U V unit t = (f_H_requestOf U unit, t, nI n, nI c, Z, P, (f_H_put U unit 3 (f_H_requestOf U unit)), (f_Q_markBack c V (f_H_requestOf U unit) t)) := by unfold f_X_back; rw [if_neg c_1, if_neg c_2, if_pos c_3]
        exact zW.iret E hrt hlk G (by rw [hf]) (by rw [hf]) d_X_back_69
      · refine lv_bipush (v := (-3)) hx hb d_X_back_32 (by decide) ?_
        have hf : f_X_back nw n c Z P U V unit t = ((-3), nw, nI n, nI c, Z, P, U, V) := by unfold f_X_back; rw [if_neg c_1, if_neg c_2, if_neg c_3]
        exact zW.iret E hrt hlk G (by rw [hf]) (by rw [hf]) d_X_back_34
    · refine lv_bipush (v := (-2)) hx hb d_X_back_17 (by decide) ?_
      have hf : f_X_back nw n c Z P U V unit t = ((-2), nw, nI n, nI c, Z, P, U, V) := by unfold f_X_back; rw [if_neg c_1, if_pos c_2]
      exact zW.iret E hrt hlk G (by rw [hf]) (by rw [hf]) d_X_back_19
  · refine lv_iconst (v := (-1)) hx hb d_X_back_7 (by decide) ?_
    have hf : f_X_back nw n c Z P U V unit t = ((-1), nw, nI n, nI c, Z, P, U, V) := by unfold f_X_back; rw [if_pos c_1]
    exact zW.iret E hrt hlk G (by rw [hf]) (by rw [hf]) d_X_back_8
def f_X_look (nw : Int32) (n : Nat) (c : Nat) (Z : Nat → Nat → Int32) (P : Nat → Nat → Int32) (U : Nat → Nat → Int32) (V : Nat → Nat → Int32) (unit : Int32) (condition : Int32) : Int32 × Int32 × Int32 × Int32 × (Nat → Nat → Int32) × (Nat → Nat → Int32) × (Nat → Nat → Int32) × (Nat → Nat → Int32) := (if (f_isUnit unit) = 0 then ((-1), nw, nI n, nI c, Z, P, U, V) else (if (f_isWithin condition (f_H_conditionOf U unit) 3) = 0 then ((-2), nw, nI n, nI c, Z, P, U, V) else (if (f_H_placeOf U unit) = 3 then (if 1 < condition then (1000, nw, nI n, nI c, Z, P, (f_H_put (f_H_setCondition U unit condition) unit 0 (-1)), V) else (if (f_Q_openOf c V unit 0) = (-1) then (1000, nw, nI n, nI c, Z, P, (f_H_put (f_H_setCondition U unit condition) unit 0 (-1)), V) else (f_Q_openOf c V unit 0, nw, nI n, nI c, Z, P, (f_X_sendFor c (f_H_setCondition U unit condition) V unit (f_Q_openOf c V unit 0)).1, (f_X_sendFor c (f_H_setCondition U unit condition) V unit (f_Q_openOf c V unit 0)).2))) else ((-3), nw, nI n, nI c, Z, P, U, V))))
set_option maxHeartbeats 4000000 in
set_option maxRecDepth 100000 in
theorem c_X_look (l : Launch) (D : va_G) (cI : ClassId) (a : Nat → Nat) (nw : Int32) (k : Nat) (n : Nat) (c : Nat) (Z : Nat → Nat → Int32) (P : Nat → Nat → Int32) (U : Nat → Nat → Int32) (V : Nat → Nat → Int32) (unit : Int32) (condition : Int32) (hk : k ≤ 20) (hn : n ≤ 60) (hc : c ≤ 300) : zW l D [(cI, .int)] y_X_look b_X_look 4 (some .int) 4 89 [.ref (a 0), .int unit, .int condition] (wX a cI nw (nI k) (nI n) (nI c) Z P U V) (wX a cI ((f_X_look nw n c Z P U V unit condition).2.1) (nI k) ((f_X_look nw n c Z P U V unit condition).2.2.1) ((f_X_look nw n c Z P U V unit condition).2.2.2.1) ((f_X_look nw n c Z P U V unit condition).2.2.2.2.1) ((f_X_look nw n c Z P U V unit condition).2.2.2.2.2.1) ((f_X_look nw n c Z P U V unit condition).2.2.2.2.2.2.1) ((f_X_look nw n c Z P U V unit condition).2.2.2.2.2.2.2)) (some (.int (f_X_look nw n c Z P U V unit condition).1)) := by
  refine zW.of (by decide) (Nat.le_of_ble_eq_true rfl) ?_
  intro p e s m below meth c0 ls A E hrt hlk hN hK hA G hl
  have hx := E.1
  have hb := E.2.1
  have hl : lv_has ls 4 [(0, .ref (a 0)), (1, .int unit), (2, .int condition)] := hl
  refine lv_iload_n hx hb d_X_look_0 rfl (lv_at hl 1 rfl) ?_
  refine z_rs (As := [.int unit]) (rest := []) E hN hK hl.1 (c_isUnit l D [(cI, .int)] unit) kz_X_60 rfl ⟨Nat.le_of_ble_eq_true rfl, Nat.le_of_ble_eq_true rfl⟩ rfl (Nat.le_of_ble_eq_true rfl) ⟨Nat.zero_le _, Nat.zero_le _⟩ d_X_look_1 ?_
  refine lv_if_ne (tgt := 9) hx hb d_X_look_4 (by decide) (fun c_1 => ?_) (fun c_1 => ?_)
  · refine lv_iload_n hx hb d_X_look_9 rfl (lv_at hl 2 rfl) ?_
    refine lv_aload_n hx hb d_X_look_10 rfl (lv_at hl 0 rfl) ?_
    refine z_get (v := .ref (a 10)) E hK G.1 i_X 0 2 rfl rfl (by decide) kf_X_28 rfl d_X_look_11 ?_
    refine lv_iload_n hx hb d_X_look_14 rfl (lv_at hl 1 rfl) ?_
    refine z_rv (As := [.int unit]) (rest := [.int condition]) E hN hK G.1 hl.1 (c_H_conditionOf l D cI (fun j => a (10 + j)) U unit ) [10, 11, 12, 13, 14] rfl 0 rfl rfl kz_X_97 rfl ⟨Nat.le_of_ble_eq_true rfl, Nat.le_of_ble_eq_true rfl⟩ rfl (Nat.le_of_ble_eq_true rfl) ⟨Nat.zero_le _, Nat.zero_le _⟩ d_X_look_15 ?_
    refine lv_iconst (v := 3) hx hb d_X_look_18 (by decide) ?_
    refine z_rs (As := [.int condition, .int (f_H_conditionOf U unit), .int 3]) (rest := []) E hN hK hl.1 (c_isWithin l D [(cI, .int)] condition (f_H_conditionOf U unit) 3) kz_X_120 rfl ⟨Nat.le_of_ble_eq_true rfl, Nat.le_of_ble_eq_true rfl⟩ rfl (Nat.le_of_ble_eq_true rfl) ⟨Nat.zero_le _, Nat.zero_le _⟩ d_X_look_19 ?_
    refine lv_if_ne (tgt := 28) hx hb d_X_look_22 (by decide) (fun c_2 => ?_) (fun c_2 => ?_)
    · refine lv_aload_n hx hb d_X_look_28 rfl (lv_at hl 0 rfl) ?_
      refine z_get (v := .ref (a 10)) E hK G.1 i_X 0 2 rfl rfl (by decide) kf_X_28 rfl d_X_look_29 ?_
      refine lv_iload_n hx hb d_X_look_32 rfl (lv_at hl 1 rfl) ?_
      refine z_rv (As := [.int unit]) (rest := []) E hN hK G.1 hl.1 (c_H_placeOf l D cI (fun j => a (10 + j)) U unit ) [10, 11, 12, 13, 14] rfl 0 rfl rfl kz_X_94 rfl ⟨Nat.le_of_ble_eq_true rfl, Nat.le_of_ble_eq_true rfl⟩ rfl (Nat.le_of_ble_eq_true rfl) ⟨Nat.zero_le _, Nat.zero_le _⟩ d_X_look_33 ?_
      refine lv_iconst (v := 3) hx hb d_X_look_36 (by decide) ?_
      refine lv_icmp_eq (tgt := 43) hx hb d_X_look_37 (by decide) (fun c_3 => ?_) (fun c_3 => ?_)
      · refine lv_aload_n hx hb d_X_look_43 rfl (lv_at hl 0 rfl) ?_
        refine z_get (v := .ref (a 10)) E hK G.1 i_X 0 2 rfl rfl (by decide) kf_X_28 rfl d_X_look_44 ?_
        refine lv_iload_n hx hb d_X_look_47 rfl (lv_at hl 1 rfl) ?_
        refine lv_iload_n hx hb d_X_look_48 rfl (lv_at hl 2 rfl) ?_
        refine z_wv (As := [.int unit, .int condition]) (rest := []) (wr := ([0, 1, 2, 3, 4, 5, 6, 7, 8, 9, 15, 16, 17, 18, 19, 20, 21] : List Nat).filterMap (fun i => (wX a cI nw (nI k) (nI n) (nI c) Z P U V)[i]?)) (ws' := wX a cI nw (nI k) (nI n) (nI c) Z P (f_H_setCondition U unit condition) V) E hN hK hA G hl.1 (c_H_setCondition l D cI (fun j => a (10 + j)) U unit condition ) [10, 11, 12, 13, 14] [0, 1, 2, 3, 4, 5, 6, 7, 8, 9, 15, 16, 17, 18, 19, 20, 21] [0, 1, 2, 3, 4, 5, 6, 7, 8, 9, 17, 18, 19, 20, 21, 10, 11, 12, 13, 14, 15, 16] rfl rfl rfl rfl rfl rfl (by decide) 0 rfl rfl kz_X_124 rfl ⟨Nat.le_of_ble_eq_true rfl, Nat.le_of_ble_eq_true rfl⟩ rfl (Nat.le_of_ble_eq_true rfl) ⟨Nat.zero_le _, Nat.zero_le _⟩ d_X_look_49 (fun H locs G => ?_)
        refine W.eq (g2 := F0 m 52 ls []) rfl ?_
        refine lv_aload_n hx hb d_X_look_52 rfl (lv_at hl 0 rfl) ?_
        refine z_get (v := .ref (a 15)) E hK G.1 i_X 0 3 rfl rfl (by decide) kf_X_35 rfl d_X_look_53 ?_
        refine lv_iload_n hx hb d_X_look_56 rfl (lv_at hl 1 rfl) ?_
        refine lv_iconst (v := 0) hx hb d_X_look_57 (by decide) ?_
        refine z_rv (As := [.int unit, .int 0]) (rest := []) E hN hK G.1 hl.1 (c_Q_openOf l D cI (fun j => a (15 + j)) c V unit 0 hc) [15, 16, 17, 18, 19, 20, 21] rfl 0 rfl rfl kz_X_90 rfl ⟨Nat.le_of_ble_eq_true rfl, Nat.le_of_ble_eq_true rfl⟩ rfl (Nat.le_of_ble_eq_true rfl) ⟨Nat.zero_le _, Nat.zero_le _⟩ d_X_look_58 ?_
        refine lv_istore_n (lv' := [(3, .int (f_Q_openOf c V unit 0)), (0, .ref (a 0)), (1, .int unit), (2, .int condition)]) hx hb d_X_look_61 rfl hl (by decide) rfl (fun ls hl => ?_)
        refine lv_iload_n hx hb d_X_look_62 rfl (lv_at hl 3 rfl) ?_
        refine lv_iconst (v := 1) hx hb d_X_look_63 (by decide) ?_
        refine lv_icmp_gt (tgt := 72) hx hb d_X_look_64 (by decide) (fun c_4 => ?_) (fun c_4 => ?_)
        · refine lv_aload_n hx hb d_X_look_72 rfl (lv_at hl 1 rfl) ?_
          refine z_get (v := .ref (a 10)) E hK G.1 i_X 0 2 rfl rfl (by decide) kf_X_28 rfl d_X_look_73 ?_
          refine lv_iload_n hx hb d_X_look_76 rfl (lv_at hl 2 rfl) ?_
          refine lv_iconst (v := 0) hx hb d_X_look_77 (by decide) ?_
          refine lv_iconst (v := (-1)) hx hb d_X_look_78 (by decide) ?_
          refine z_wv (As := [.int unit, .int 0, .int (-1)]) (rest := []) (wr := ([0, 1, 2, 3, 4, 5, 6, 7, 8, 9, 15, 16, 17, 18, 19, 20, 21] : List Nat).filterMap (fun i => (wX a cI nw (nI k) (nI n) (nI c) Z P (f_H_setCondition U unit condition) V)[i]?)) (ws' := wX a cI nw (nI k) (nI n) (nI c) Z P (f_H_put (f_H_setCondition U unit condition) unit 0 (-1)) V) E hN hK hA G hl.1 (c_H_put l D cI (fun j => a (10 + j)) (f_H_setCondition U unit condition) unit 0 (-1) ) [10, 11, 12, 13, 14] [0, 1, 2, 3, 4, 5, 6, 7, 8, 9, 15, 16, 17, 18, 19, 20, 21] [0, 1, 2, 3, 4, 5, 6, 7, 8, 9, 17, 18, 19, 20, 21, 10, 11, 12, 13, 14, 15, 16] rfl rfl rfl rfl rfl rfl (by decide) 0 rfl rfl kz_X_110 rfl ⟨Nat.le_of_ble_eq_true rfl, Nat.le_of_ble_eq_true rfl⟩ rfl (Nat.le_of_ble_eq_true rfl) ⟨Nat.zero_le _, Nat.zero_le _⟩ d_X_look_79 (fun H locs G => ?_)
          refine W.eq (g2 := F0 m 82 ls []) rfl ?_
          refine lv_sipush (v := 1000) hx hb d_X_look_82 (by decide) ?_
          have hf : f_X_look nw n c Z P U V unit condition = (1000, nw, nI n, nI c, Z, P, (f_H_put (f_H_setCondition U unit condition) unit 0 (-1)), V) := by unfold f_X_look; rw [if_neg c_1, if_neg c_2, if_pos c_3, if_pos c_4]
          exact zW.iret E hrt hlk G (by rw [hf]) (by rw [hf]) d_X_look_85
        · refine lv_iload_n hx hb d_X_look_67 rfl (lv_at hl 0 rfl) ?_
          refine lv_iconst (v := (-1)) hx hb d_X_look_68 (by decide) ?_
          refine lv_icmp_ne (tgt := 86) hx hb d_X_look_69 (by decide) (fun c_5 => ?_) (fun c_5 => ?_)
          · refine lv_aload_n hx hb d_X_look_86 rfl (lv_at hl 1 rfl) ?_
            refine lv_iload_n hx hb d_X_look_87 rfl (lv_at hl 2 rfl) ?_
            refine lv_iload_n hx hb d_X_look_88 rfl (lv_at hl 0 rfl) ?_
            refine z_wv (As := [.int unit, .int (f_Q_openOf c V unit 0)]) (rest := []) (wr := ([] : List Nat).filterMap (fun i => (wX a cI nw (nI k) (nI n) (nI c) Z P (f_H_setCondition U unit condition) V)[i]?)) (ws' := wX a cI nw (nI k) (nI n) (nI c) Z P ((f_X_sendFor c (f_H_setCondition U unit condition) V unit (f_Q_openOf c V unit 0)).1) ((f_X_sendFor c (f_H_setCondition U unit condition) V unit (f_Q_openOf c V unit 0)).2)) E hN hK hA G hl.1 (c_X_sendFor l D cI a nw k n c Z P (f_H_setCondition U unit condition) V unit (f_Q_openOf c V unit 0) hk hn hc) [0, 1, 2, 3, 4, 5, 6, 7, 8, 9, 10, 11, 12, 13, 14, 15, 16, 17, 18, 19, 20, 21] [] [0, 1, 2, 3, 4, 5, 6, 7, 8, 9, 10, 11, 12, 13, 14, 15, 16, 17, 18, 19, 20, 21] rfl rfl rfl rfl rfl rfl (by decide) 0 rfl rfl kz_X_100 rfl ⟨Nat.le_of_ble_eq_true rfl, Nat.le_of_ble_eq_true rfl⟩ rfl (Nat.le_of_ble_eq_true rfl) ⟨Nat.zero_le _, Nat.zero_le _⟩ d_X_look_89 (fun H locs G => ?_)
            refine W.eq (g2 := F0 m 92 ls []) rfl ?_
            refine lv_iload_n hx hb d_X_look_92 rfl (lv_at hl 0 rfl) ?_
            have hf : f_X_look nw n c Z P U V unit condition = (f_Q_openOf c V unit 0, nw, nI n, nI c, Z, P, (f_X_sendFor c (f_H_setCondition U unit condition) V unit (f_Q_openOf c V unit 0)).1, (f_X_sendFor c (f_H_setCondition U unit condition) V unit (f_Q_openOf c V unit 0)).2) := by unfold f_X_look; rw [if_neg c_1, if_neg c_2, if_pos c_3, if_neg c_4, if_neg c_5]
            exact zW.iret E hrt hlk G (by rw [hf]) (by rw [hf]) d_X_look_93
          · refine lv_aload_n hx hb d_X_look_72 rfl (lv_at hl 1 rfl) ?_
            refine z_get (v := .ref (a 10)) E hK G.1 i_X 0 2 rfl rfl (by decide) kf_X_28 rfl d_X_look_73 ?_
            refine lv_iload_n hx hb d_X_look_76 rfl (lv_at hl 2 rfl) ?_
            refine lv_iconst (v := 0) hx hb d_X_look_77 (by decide) ?_
            refine lv_iconst (v := (-1)) hx hb d_X_look_78 (by decide) ?_
            refine z_wv (As := [.int unit, .int 0, .int (-1)]) (rest := []) (wr := ([0, 1, 2, 3, 4, 5, 6, 7, 8, 9, 15, 16, 17, 18, 19, 20, 21] : List Nat).filterMap (fun i => (wX a cI nw (nI k) (nI n) (nI c) Z P (f_H_setCondition U unit condition) V)[i]?)) (ws' := wX a cI nw (nI k) (nI n) (nI c) Z P (f_H_put (f_H_setCondition U unit condition) unit 0 (-1)) V) E hN hK hA G hl.1 (c_H_put l D cI (fun j => a (10 + j)) (f_H_setCondition U unit condition) unit 0 (-1) ) [10, 11, 12, 13, 14] [0, 1, 2, 3, 4, 5, 6, 7, 8, 9, 15, 16, 17, 18, 19, 20, 21] [0, 1, 2, 3, 4, 5, 6, 7, 8, 9, 17, 18, 19, 20, 21, 10, 11, 12, 13, 14, 15, 16] rfl rfl rfl rfl rfl rfl (by decide) 0 rfl rfl kz_X_110 rfl ⟨Nat.le_of_ble_eq_true rfl, Nat.le_of_ble_eq_true rfl⟩ rfl (Nat.le_of_ble_eq_true rfl) ⟨Nat.zero_le _, Nat.zero_le _⟩ d_X_look_79 (fun H locs G => ?_)
            refine W.eq (g2 := F0 m 82 ls []) rfl ?_
            refine lv_sipush (v := 1000) hx hb d_X_look_82 (by decide) ?_
            have hf : f_X_look nw n c Z P U V unit condition = (1000, nw, nI n, nI c, Z, P, (f_H_put (f_H_setCondition U unit condition) unit 0 (-1)), V) := by unfold f_X_look; rw [if_neg c_1, if_neg c_2, if_pos c_3, if_neg c_4, if_pos c_5]
            exact zW.iret E hrt hlk G (by rw [hf]) (by rw [hf]) d_X_look_85
      · refine lv_bipush (v := (-3)) hx hb d_X_look_40 (by decide) ?_
        have hf : f_X_look nw n c Z P U V unit condition = ((-3), nw, nI n, nI c, Z, P, U, V) := by unfold f_X_look; rw [if_neg c_1, if_neg c_2, if_neg c_3]
        exact zW.iret E hrt hlk G (by rw [hf]) (by rw [hf]) d_X_look_42
    · refine lv_bipush (v := (-2)) hx hb d_X_look_25 (by decide) ?_
      have hf : f_X_look nw n c Z P U V unit condition = ((-2), nw, nI n, nI c, Z, P, U, V) := by unfold f_X_look; rw [if_neg c_1, if_pos c_2]
      exact zW.iret E hrt hlk G (by rw [hf]) (by rw [hf]) d_X_look_27
  · refine lv_iconst (v := (-1)) hx hb d_X_look_7 (by decide) ?_
    have hf : f_X_look nw n c Z P U V unit condition = ((-1), nw, nI n, nI c, Z, P, U, V) := by unfold f_X_look; rw [if_pos c_1]
    exact zW.iret E hrt hlk G (by rw [hf]) (by rw [hf]) d_X_look_8
def f_X_mend (nw : Int32) (n : Nat) (c : Nat) (Z : Nat → Nat → Int32) (P : Nat → Nat → Int32) (U : Nat → Nat → Int32) (V : Nat → Nat → Int32) (unit : Int32) : Int32 × Int32 × Int32 × Int32 × (Nat → Nat → Int32) × (Nat → Nat → Int32) × (Nat → Nat → Int32) × (Nat → Nat → Int32) := (if (f_isUnit unit) = 0 then ((-1), nw, nI n, nI c, Z, P, U, V) else (if (f_H_placeOf U unit) = 0 then (1, nw, nI n, nI c, Z, P, (f_H_setCondition U unit 0), V) else ((-3), nw, nI n, nI c, Z, P, U, V)))
set_option maxHeartbeats 4000000 in
set_option maxRecDepth 100000 in
theorem c_X_mend (l : Launch) (D : va_G) (cI : ClassId) (a : Nat → Nat) (nw : Int32) (k : Nat) (n : Nat) (c : Nat) (Z : Nat → Nat → Int32) (P : Nat → Nat → Int32) (U : Nat → Nat → Int32) (V : Nat → Nat → Int32) (unit : Int32) (hk : k ≤ 20) (hn : n ≤ 60) (hc : c ≤ 300) : zW l D [(cI, .int)] y_X_mend b_X_mend 2 (some .int) 3 64 [.ref (a 0), .int unit] (wX a cI nw (nI k) (nI n) (nI c) Z P U V) (wX a cI ((f_X_mend nw n c Z P U V unit).2.1) (nI k) ((f_X_mend nw n c Z P U V unit).2.2.1) ((f_X_mend nw n c Z P U V unit).2.2.2.1) ((f_X_mend nw n c Z P U V unit).2.2.2.2.1) ((f_X_mend nw n c Z P U V unit).2.2.2.2.2.1) ((f_X_mend nw n c Z P U V unit).2.2.2.2.2.2.1) ((f_X_mend nw n c Z P U V unit).2.2.2.2.2.2.2)) (some (.int (f_X_mend nw n c Z P U V unit).1)) := by
  refine zW.of (by decide) (Nat.le_of_ble_eq_true rfl) ?_
  intro p e s m below meth c0 ls A E hrt hlk hN hK hA G hl
  have hx := E.1
  have hb := E.2.1
  have hl : lv_has ls 2 [(0, .ref (a 0)), (1, .int unit)] := hl
  refine lv_iload_n hx hb d_X_mend_0 rfl (lv_at hl 1 rfl) ?_
  refine z_rs (As := [.int unit]) (rest := []) E hN hK hl.1 (c_isUnit l D [(cI, .int)] unit) kz_X_60 rfl ⟨Nat.le_of_ble_eq_true rfl, Nat.le_of_ble_eq_true rfl⟩ rfl (Nat.le_of_ble_eq_true rfl) ⟨Nat.zero_le _, Nat.zero_le _⟩ d_X_mend_1 ?_
  refine lv_if_ne (tgt := 9) hx hb d_X_mend_4 (by decide) (fun c_1 => ?_) (fun c_1 => ?_)
  · refine lv_aload_n hx hb d_X_mend_9 rfl (lv_at hl 0 rfl) ?_
    refine z_get (v := .ref (a 10)) E hK G.1 i_X 0 2 rfl rfl (by decide) kf_X_28 rfl d_X_mend_10 ?_
    refine lv_iload_n hx hb d_X_mend_13 rfl (lv_at hl 1 rfl) ?_
    refine z_rv (As := [.int unit]) (rest := []) E hN hK G.1 hl.1 (c_H_placeOf l D cI (fun j => a (10 + j)) U unit ) [10, 11, 12, 13, 14] rfl 0 rfl rfl kz_X_94 rfl ⟨Nat.le_of_ble_eq_true rfl, Nat.le_of_ble_eq_true rfl⟩ rfl (Nat.le_of_ble_eq_true rfl) ⟨Nat.zero_le _, Nat.zero_le _⟩ d_X_mend_14 ?_
    refine lv_if_eq (tgt := 23) hx hb d_X_mend_17 (by decide) (fun c_2 => ?_) (fun c_2 => ?_)
    · refine lv_aload_n hx hb d_X_mend_23 rfl (lv_at hl 0 rfl) ?_
      refine z_get (v := .ref (a 10)) E hK G.1 i_X 0 2 rfl rfl (by decide) kf_X_28 rfl d_X_mend_24 ?_
      refine lv_iload_n hx hb d_X_mend_27 rfl (lv_at hl 1 rfl) ?_
      refine lv_iconst (v := 0) hx hb d_X_mend_28 (by decide) ?_
      refine z_wv (As := [.int unit, .int 0]) (rest := []) (wr := ([0, 1, 2, 3, 4, 5, 6, 7, 8, 9, 15, 16, 17, 18, 19, 20, 21] : List Nat).filterMap (fun i => (wX a cI nw (nI k) (nI n) (nI c) Z P U V)[i]?)) (ws' := wX a cI nw (nI k) (nI n) (nI c) Z P (f_H_setCondition U unit 0) V) E hN hK hA G hl.1 (c_H_setCondition l D cI (fun j => a (10 + j)) U unit 0 ) [10, 11, 12, 13, 14] [0, 1, 2, 3, 4, 5, 6, 7, 8, 9, 15, 16, 17, 18, 19, 20, 21] [0, 1, 2, 3, 4, 5, 6, 7, 8, 9, 17, 18, 19, 20, 21, 10, 11, 12, 13, 14, 15, 16] rfl rfl rfl rfl rfl rfl (by decide) 0 rfl rfl kz_X_124 rfl ⟨Nat.le_of_ble_eq_true rfl, Nat.le_of_ble_eq_true rfl⟩ rfl (Nat.le_of_ble_eq_true rfl) ⟨Nat.zero_le _, Nat.zero_le _⟩ d_X_mend_29 (fun H locs G => ?_)
      refine W.eq (g2 := F0 m 32 ls []) rfl ?_
      refine lv_iconst (v := 1) hx hb d_X_mend_32 (by decide) ?_
      have hf : f_X_mend nw n c Z P U V unit = (1, nw, nI n, nI c, Z, P, (f_H_setCondition U unit 0), V) := by unfold f_X_mend; rw [if_neg c_1, if_pos c_2]
      exact zW.iret E hrt hlk G (by rw [hf]) (by rw [hf]) d_X_mend_33
    · refine lv_bipush (v := (-3)) hx hb d_X_mend_20 (by decide) ?_
      have hf : f_X_mend nw n c Z P U V unit = ((-3), nw, nI n, nI c, Z, P, U, V) := by unfold f_X_mend; rw [if_neg c_1, if_neg c_2]
      exact zW.iret E hrt hlk G (by rw [hf]) (by rw [hf]) d_X_mend_22
  · refine lv_iconst (v := (-1)) hx hb d_X_mend_7 (by decide) ?_
    have hf : f_X_mend nw n c Z P U V unit = ((-1), nw, nI n, nI c, Z, P, U, V) := by unfold f_X_mend; rw [if_pos c_1]
    exact zW.iret E hrt hlk G (by rw [hf]) (by rw [hf]) d_X_mend_8
def f_X_restrict (nw : Int32) (n : Nat) (c : Nat) (Z : Nat → Nat → Int32) (P : Nat → Nat → Int32) (U : Nat → Nat → Int32) (V : Nat → Nat → Int32) (unit : Int32) (restriction : Int32) : Int32 × Int32 × Int32 × Int32 × (Nat → Nat → Int32) × (Nat → Nat → Int32) × (Nat → Nat → Int32) × (Nat → Nat → Int32) := (if (f_isUnit unit) = 0 then ((-1), nw, nI n, nI c, Z, P, U, V) else (if (f_isWithin restriction 0 3) = 0 then ((-2), nw, nI n, nI c, Z, P, U, V) else ((f_X_withdrawFromLowRights c P (f_H_setRestriction U unit restriction) V unit).1, nw, nI n, nI c, Z, P, (f_H_setRestriction U unit restriction), (f_X_withdrawFromLowRights c P (f_H_setRestriction U unit restriction) V unit).2)))
set_option maxHeartbeats 4000000 in
set_option maxRecDepth 100000 in
theorem c_X_restrict (l : Launch) (D : va_G) (cI : ClassId) (a : Nat → Nat) (nw : Int32) (k : Nat) (n : Nat) (c : Nat) (Z : Nat → Nat → Int32) (P : Nat → Nat → Int32) (U : Nat → Nat → Int32) (V : Nat → Nat → Int32) (unit : Int32) (restriction : Int32) (hk : k ≤ 20) (hn : n ≤ 60) (hc : c ≤ 300) : zW l D [(cI, .int)] y_X_restrict b_X_restrict 3 (some .int) 5 108 [.ref (a 0), .int unit, .int restriction] (wX a cI nw (nI k) (nI n) (nI c) Z P U V) (wX a cI ((f_X_restrict nw n c Z P U V unit restriction).2.1) (nI k) ((f_X_restrict nw n c Z P U V unit restriction).2.2.1) ((f_X_restrict nw n c Z P U V unit restriction).2.2.2.1) ((f_X_restrict nw n c Z P U V unit restriction).2.2.2.2.1) ((f_X_restrict nw n c Z P U V unit restriction).2.2.2.2.2.1) ((f_X_restrict nw n c Z P U V unit restriction).2.2.2.2.2.2.1) ((f_X_restrict nw n c Z P U V unit restriction).2.2.2.2.2.2.2)) (some (.int (f_X_restrict nw n c Z P U V unit restriction).1)) := by
  refine zW.of (by decide) (Nat.le_of_ble_eq_true rfl) ?_
  intro p e s m below meth c0 ls A E hrt hlk hN hK hA G hl
  have hx := E.1
  have hb := E.2.1
  have hl : lv_has ls 3 [(0, .ref (a 0)), (1, .int unit), (2, .int restriction)] := hl
  refine lv_iload_n hx hb d_X_restrict_0 rfl (lv_at hl 1 rfl) ?_
  refine z_rs (As := [.int unit]) (rest := []) E hN hK hl.1 (c_isUnit l D [(cI, .int)] unit) kz_X_60 rfl ⟨Nat.le_of_ble_eq_true rfl, Nat.le_of_ble_eq_true rfl⟩ rfl (Nat.le_of_ble_eq_true rfl) ⟨Nat.zero_le _, Nat.zero_le _⟩ d_X_restrict_1 ?_
  refine lv_if_ne (tgt := 9) hx hb d_X_restrict_4 (by decide) (fun c_1 => ?_) (fun c_1 => ?_)
  · refine lv_iload_n hx hb d_X_restrict_9 rfl (lv_at hl 2 rfl) ?_
    refine lv_iconst (v := 0) hx hb d_X_restrict_10 (by decide) ?_
    refine lv_iconst (v := 3) hx hb d_X_restrict_11 (by decide) ?_
    refine z_rs (As := [.int restriction, .int 0, .int 3]) (rest := []) E hN hK hl.1 (c_isWithin l D [(cI, .int)] restriction 0 3) kz_X_120 rfl ⟨Nat.le_of_ble_eq_true rfl, Nat.le_of_ble_eq_true rfl⟩ rfl (Nat.le_of_ble_eq_true rfl) ⟨Nat.zero_le _, Nat.zero_le _⟩ d_X_restrict_12 ?_
    refine lv_if_ne (tgt := 21) hx hb d_X_restrict_15 (by decide) (fun c_2 => ?_) (fun c_2 => ?_)
    · refine lv_aload_n hx hb d_X_restrict_21 rfl (lv_at hl 0 rfl) ?_
      refine z_get (v := .ref (a 10)) E hK G.1 i_X 0 2 rfl rfl (by decide) kf_X_28 rfl d_X_restrict_22 ?_
      refine lv_iload_n hx hb d_X_restrict_25 rfl (lv_at hl 1 rfl) ?_
      refine lv_iload_n hx hb d_X_restrict_26 rfl (lv_at hl 2 rfl) ?_
      refine z_wv (As := [.int unit, .int restriction]) (rest := []) (wr := ([0, 1, 2, 3, 4, 5, 6, 7, 8, 9, 15, 16, 17, 18, 19, 20, 21] : List Nat).filterMap (fun i => (wX a cI nw (nI k) (nI n) (nI c) Z P U V)[i]?)) (ws' := wX a cI nw (nI k) (nI n) (nI c) Z P (f_H_setRestriction U unit restriction) V) E hN hK hA G hl.1 (c_H_setRestriction l D cI (fun j => a (10 + j)) U unit restriction ) [10, 11, 12, 13, 14] [0, 1, 2, 3, 4, 5, 6, 7, 8, 9, 15, 16, 17, 18, 19, 20, 21] [0, 1, 2, 3, 4, 5, 6, 7, 8, 9, 17, 18, 19, 20, 21, 10, 11, 12, 13, 14, 15, 16] rfl rfl rfl rfl rfl rfl (by decide) 0 rfl rfl kz_X_127 rfl ⟨Nat.le_of_ble_eq_true rfl, Nat.le_of_ble_eq_true rfl⟩ rfl (Nat.le_of_ble_eq_true rfl) ⟨Nat.zero_le _, Nat.zero_le _⟩ d_X_restrict_27 (fun H locs G => ?_)
      refine W.eq (g2 := F0 m 30 ls []) rfl ?_
      refine lv_aload_n hx hb d_X_restrict_30 rfl (lv_at hl 0 rfl) ?_
      refine lv_iload_n hx hb d_X_restrict_31 rfl (lv_at hl 1 rfl) ?_
      refine z_wv (As := [.int unit]) (rest := []) (wr := ([] : List Nat).filterMap (fun i => (wX a cI nw (nI k) (nI n) (nI c) Z P (f_H_setRestriction U unit restriction) V)[i]?)) (ws' := wX a cI nw (nI k) (nI n) (nI c) Z P (f_H_setRestriction U unit restriction) ((f_X_withdrawFromLowRights c P (f_H_setRestriction U unit restriction) V unit).2)) E hN hK hA G hl.1 (c_X_withdrawFromLowRights l D cI a nw k n c Z P (f_H_setRestriction U unit restriction) V unit hk hn hc) [0, 1, 2, 3, 4, 5, 6, 7, 8, 9, 10, 11, 12, 13, 14, 15, 16, 17, 18, 19, 20, 21] [] [0, 1, 2, 3, 4, 5, 6, 7, 8, 9, 10, 11, 12, 13, 14, 15, 16, 17, 18, 19, 20, 21] rfl rfl rfl rfl rfl rfl (by decide) 0 rfl rfl kz_X_130 rfl ⟨Nat.le_of_ble_eq_true rfl, Nat.le_of_ble_eq_true rfl⟩ rfl (Nat.le_of_ble_eq_true rfl) ⟨Nat.zero_le _, Nat.zero_le _⟩ d_X_restrict_32 (fun H locs G => ?_)
      refine W.eq (g2 := F0 m 35 ls [.int ((f_X_withdrawFromLowRights c P (f_H_setRestriction U unit restriction) V unit).1)]) rfl ?_
      have hf : f_X_restrict nw n c Z P U V unit restriction = ((f_X_withdrawFromLowRights c P (f_H_setRestriction U unit restriction) V unit).1, nw, nI n, nI c, Z, P, (f_H_setRestriction U unit restriction), (f_X_withdrawFromLowRights c P (f_H_setRestriction U unit restriction) V unit).2) := by unfold f_X_restrict; rw [if_neg c_1, if_neg c_2]
      exact zW.iret E hrt hlk G (by rw [hf]) (by rw [hf]) d_X_restrict_35
    · refine lv_bipush (v := (-2)) hx hb d_X_restrict_18 (by decide) ?_
      have hf : f_X_restrict nw n c Z P U V unit restriction = ((-2), nw, nI n, nI c, Z, P, U, V) := by unfold f_X_restrict; rw [if_neg c_1, if_pos c_2]
      exact zW.iret E hrt hlk G (by rw [hf]) (by rw [hf]) d_X_restrict_20
  · refine lv_iconst (v := (-1)) hx hb d_X_restrict_7 (by decide) ?_
    have hf : f_X_restrict nw n c Z P U V unit restriction = ((-1), nw, nI n, nI c, Z, P, U, V) := by unfold f_X_restrict; rw [if_pos c_1]
    exact zW.iret E hrt hlk G (by rw [hf]) (by rw [hf]) d_X_restrict_8
def f_X_right (nw : Int32) (n : Nat) (c : Nat) (Z : Nat → Nat → Int32) (P : Nat → Nat → Int32) (U : Nat → Nat → Int32) (V : Nat → Nat → Int32) (person : Int32) (right : Int32) : Int32 × Int32 × Int32 × Int32 × (Nat → Nat → Int32) × (Nat → Nat → Int32) × (Nat → Nat → Int32) × (Nat → Nat → Int32) := (if (f_isPerson person) = 0 then ((-1), nw, nI n, nI c, Z, P, U, V) else (if (f_isWithin right 0 3) = 0 then ((-2), nw, nI n, nI c, Z, P, U, V) else (1, nw, nI n, nI c, Z, (f_R_setRight P person right), U, V)))
set_option maxHeartbeats 4000000 in
set_option maxRecDepth 100000 in
theorem c_X_right (l : Launch) (D : va_G) (cI : ClassId) (a : Nat → Nat) (nw : Int32) (k : Nat) (n : Nat) (c : Nat) (Z : Nat → Nat → Int32) (P : Nat → Nat → Int32) (U : Nat → Nat → Int32) (V : Nat → Nat → Int32) (person : Int32) (right : Int32) (hk : k ≤ 20) (hn : n ≤ 60) (hc : c ≤ 300) : zW l D [(cI, .int)] y_X_right b_X_right 3 (some .int) 3 64 [.ref (a 0), .int person, .int right] (wX a cI nw (nI k) (nI n) (nI c) Z P U V) (wX a cI ((f_X_right nw n c Z P U V person right).2.1) (nI k) ((f_X_right nw n c Z P U V person right).2.2.1) ((f_X_right nw n c Z P U V person right).2.2.2.1) ((f_X_right nw n c Z P U V person right).2.2.2.2.1) ((f_X_right nw n c Z P U V person right).2.2.2.2.2.1) ((f_X_right nw n c Z P U V person right).2.2.2.2.2.2.1) ((f_X_right nw n c Z P U V person right).2.2.2.2.2.2.2)) (some (.int (f_X_right nw n c Z P U V person right).1)) := by
  refine zW.of (by decide) (Nat.le_of_ble_eq_true rfl) ?_
  intro p e s m below meth c0 ls A E hrt hlk hN hK hA G hl
  have hx := E.1
  have hb := E.2.1
  have hl : lv_has ls 3 [(0, .ref (a 0)), (1, .int person), (2, .int right)] := hl
  refine lv_iload_n hx hb d_X_right_0 rfl (lv_at hl 1 rfl) ?_
  refine z_rs (As := [.int person]) (rest := []) E hN hK hl.1 (c_isPerson l D [(cI, .int)] person) kz_X_43 rfl ⟨Nat.le_of_ble_eq_true rfl, Nat.le_of_ble_eq_true rfl⟩ rfl (Nat.le_of_ble_eq_true rfl) ⟨Nat.zero_le _, Nat.zero_le _⟩ d_X_right_1 ?_
  refine lv_if_ne (tgt := 9) hx hb d_X_right_4 (by decide) (fun c_1 => ?_) (fun c_1 => ?_)
  · refine lv_iload_n hx hb d_X_right_9 rfl (lv_at hl 2 rfl) ?_
    refine lv_iconst (v := 0) hx hb d_X_right_10 (by decide) ?_
    refine lv_iconst (v := 3) hx hb d_X_right_11 (by decide) ?_
    refine z_rs (As := [.int right, .int 0, .int 3]) (rest := []) E hN hK hl.1 (c_isWithin l D [(cI, .int)] right 0 3) kz_X_120 rfl ⟨Nat.le_of_ble_eq_true rfl, Nat.le_of_ble_eq_true rfl⟩ rfl (Nat.le_of_ble_eq_true rfl) ⟨Nat.zero_le _, Nat.zero_le _⟩ d_X_right_12 ?_
    refine lv_if_ne (tgt := 21) hx hb d_X_right_15 (by decide) (fun c_2 => ?_) (fun c_2 => ?_)
    · refine lv_aload_n hx hb d_X_right_21 rfl (lv_at hl 0 rfl) ?_
      refine z_get (v := .ref (a 4)) E hK G.1 i_X 0 1 rfl rfl (by decide) kf_X_21 rfl d_X_right_22 ?_
      refine lv_iload_n hx hb d_X_right_25 rfl (lv_at hl 1 rfl) ?_
      refine lv_iload_n hx hb d_X_right_26 rfl (lv_at hl 2 rfl) ?_
      refine z_wv (As := [.int person, .int right]) (rest := []) (wr := ([0, 1, 2, 3, 10, 11, 12, 13, 14, 15, 16, 17, 18, 19, 20, 21] : List Nat).filterMap (fun i => (wX a cI nw (nI k) (nI n) (nI c) Z P U V)[i]?)) (ws' := wX a cI nw (nI k) (nI n) (nI c) Z (f_R_setRight P person right) U V) E hN hK hA G hl.1 (c_R_setRight l D cI (fun j => a (4 + j)) P person right ) [4, 5, 6, 7, 8, 9] [0, 1, 2, 3, 10, 11, 12, 13, 14, 15, 16, 17, 18, 19, 20, 21] [0, 1, 2, 3, 16, 17, 18, 19, 20, 21, 4, 5, 6, 7, 8, 9, 10, 11, 12, 13, 14, 15] rfl rfl rfl rfl rfl rfl (by decide) 0 rfl rfl kz_X_133 rfl ⟨Nat.le_of_ble_eq_true rfl, Nat.le_of_ble_eq_true rfl⟩ rfl (Nat.le_of_ble_eq_true rfl) ⟨Nat.zero_le _, Nat.zero_le _⟩ d_X_right_27 (fun H locs G => ?_)
      refine W.eq (g2 := F0 m 30 ls []) rfl ?_
      refine lv_iconst (v := 1) hx hb d_X_right_30 (by decide) ?_
      have hf : f_X_right nw n c Z P U V person right = (1, nw, nI n, nI c, Z, (f_R_setRight P person right), U, V) := by unfold f_X_right; rw [if_neg c_1, if_neg c_2]
      exact zW.iret E hrt hlk G (by rw [hf]) (by rw [hf]) d_X_right_31
    · refine lv_bipush (v := (-2)) hx hb d_X_right_18 (by decide) ?_
      have hf : f_X_right nw n c Z P U V person right = ((-2), nw, nI n, nI c, Z, P, U, V) := by unfold f_X_right; rw [if_neg c_1, if_pos c_2]
      exact zW.iret E hrt hlk G (by rw [hf]) (by rw [hf]) d_X_right_20
  · refine lv_iconst (v := (-1)) hx hb d_X_right_7 (by decide) ?_
    have hf : f_X_right nw n c Z P U V person right = ((-1), nw, nI n, nI c, Z, P, U, V) := by unfold f_X_right; rw [if_pos c_1]
    exact zW.iret E hrt hlk G (by rw [hf]) (by rw [hf]) d_X_right_8
def f_X_limit (nw : Int32) (n : Nat) (c : Nat) (Z : Nat → Nat → Int32) (P : Nat → Nat → Int32) (U : Nat → Nat → Int32) (V : Nat → Nat → Int32) (person : Int32) (requests : Int32) (pages : Int32) : Int32 × Int32 × Int32 × Int32 × (Nat → Nat → Int32) × (Nat → Nat → Int32) × (Nat → Nat → Int32) × (Nat → Nat → Int32) := (if (f_isPerson person) = 0 then ((-1), nw, nI n, nI c, Z, P, U, V) else (if (f_isWithin requests 0 9) = 0 then ((-2), nw, nI n, nI c, Z, P, U, V) else (if (f_isWithin pages 0 500) = 0 then ((-2), nw, nI n, nI c, Z, P, U, V) else (1, nw, nI n, nI c, Z, (f_R_setLimits P person requests pages), U, V))))
set_option maxHeartbeats 4000000 in
set_option maxRecDepth 100000 in
theorem c_X_limit (l : Launch) (D : va_G) (cI : ClassId) (a : Nat → Nat) (nw : Int32) (k : Nat) (n : Nat) (c : Nat) (Z : Nat → Nat → Int32) (P : Nat → Nat → Int32) (U : Nat → Nat → Int32) (V : Nat → Nat → Int32) (person : Int32) (requests : Int32) (pages : Int32) (hk : k ≤ 20) (hn : n ≤ 60) (hc : c ≤ 300) : zW l D [(cI, .int)] y_X_limit b_X_limit 4 (some .int) 3 65 [.ref (a 0), .int person, .int requests, .int pages] (wX a cI nw (nI k) (nI n) (nI c) Z P U V) (wX a cI ((f_X_limit nw n c Z P U V person requests pages).2.1) (nI k) ((f_X_limit nw n c Z P U V person requests pages).2.2.1) ((f_X_limit nw n c Z P U V person requests pages).2.2.2.1) ((f_X_limit nw n c Z P U V person requests pages).2.2.2.2.1) ((f_X_limit nw n c Z P U V person requests pages).2.2.2.2.2.1) ((f_X_limit nw n c Z P U V person requests pages).2.2.2.2.2.2.1) ((f_X_limit nw n c Z P U V person requests pages).2.2.2.2.2.2.2)) (some (.int (f_X_limit nw n c Z P U V person requests pages).1)) := by
  refine zW.of (by decide) (Nat.le_of_ble_eq_true rfl) ?_
  intro p e s m below meth c0 ls A E hrt hlk hN hK hA G hl
  have hx := E.1
  have hb := E.2.1
  have hl : lv_has ls 4 [(0, .ref (a 0)), (1, .int person), (2, .int requests), (3, .int pages)] := hl
  refine lv_iload_n hx hb d_X_limit_0 rfl (lv_at hl 1 rfl) ?_
  refine z_rs (As := [.int person]) (rest := []) E hN hK hl.1 (c_isPerson l D [(cI, .int)] person) kz_X_43 rfl ⟨Nat.le_of_ble_eq_true rfl, Nat.le_of_ble_eq_true rfl⟩ rfl (Nat.le_of_ble_eq_true rfl) ⟨Nat.zero_le _, Nat.zero_le _⟩ d_X_limit_1 ?_
  refine lv_if_ne (tgt := 9) hx hb d_X_limit_4 (by decide) (fun c_1 => ?_) (fun c_1 => ?_)
  · refine lv_iload_n hx hb d_X_limit_9 rfl (lv_at hl 2 rfl) ?_
    refine lv_iconst (v := 0) hx hb d_X_limit_10 (by decide) ?_
    refine lv_bipush (v := 9) hx hb d_X_limit_11 (by decide) ?_
    refine z_rs (As := [.int requests, .int 0, .int 9]) (rest := []) E hN hK hl.1 (c_isWithin l D [(cI, .int)] requests 0 9) kz_X_120 rfl ⟨Nat.le_of_ble_eq_true rfl, Nat.le_of_ble_eq_true rfl⟩ rfl (Nat.le_of_ble_eq_true rfl) ⟨Nat.zero_le _, Nat.zero_le _⟩ d_X_limit_13 ?_
    refine lv_if_eq (tgt := 30) hx hb d_X_limit_16 (by decide) (fun c_2 => ?_) (fun c_2 => ?_)
    · refine lv_bipush (v := (-2)) hx hb d_X_limit_30 (by decide) ?_
      have hf : f_X_limit nw n c Z P U V person requests pages = ((-2), nw, nI n, nI c, Z, P, U, V) := by unfold f_X_limit; rw [if_neg c_1, if_pos c_2]
      exact zW.iret E hrt hlk G (by rw [hf]) (by rw [hf]) d_X_limit_32
    · refine lv_iload_n hx hb d_X_limit_19 rfl (lv_at hl 3 rfl) ?_
      refine lv_iconst (v := 0) hx hb d_X_limit_20 (by decide) ?_
      refine lv_sipush (v := 500) hx hb d_X_limit_21 (by decide) ?_
      refine z_rs (As := [.int pages, .int 0, .int 500]) (rest := []) E hN hK hl.1 (c_isWithin l D [(cI, .int)] pages 0 500) kz_X_120 rfl ⟨Nat.le_of_ble_eq_true rfl, Nat.le_of_ble_eq_true rfl⟩ rfl (Nat.le_of_ble_eq_true rfl) ⟨Nat.zero_le _, Nat.zero_le _⟩ d_X_limit_24 ?_
      refine lv_if_ne (tgt := 33) hx hb d_X_limit_27 (by decide) (fun c_3 => ?_) (fun c_3 => ?_)
      · refine lv_aload_n hx hb d_X_limit_33 rfl (lv_at hl 0 rfl) ?_
        refine z_get (v := .ref (a 4)) E hK G.1 i_X 0 1 rfl rfl (by decide) kf_X_21 rfl d_X_limit_34 ?_
        refine lv_iload_n hx hb d_X_limit_37 rfl (lv_at hl 1 rfl) ?_
        refine lv_iload_n hx hb d_X_limit_38 rfl (lv_at hl 2 rfl) ?_
        refine lv_iload_n hx hb d_X_limit_39 rfl (lv_at hl 3 rfl) ?_
        refine z_wv (As := [.int person, .int requests, .int pages]) (rest := []) (wr := ([0, 1, 2, 3, 10, 11, 12, 13, 14, 15, 16, 17, 18, 19, 20, 21] : List Nat).filterMap (fun i => (wX a cI nw (nI k) (nI n) (nI c) Z P U V)[i]?)) (ws' := wX a cI nw (nI k) (nI n) (nI c) Z (f_R_setLimits P person requests pages) U V) E hN hK hA G hl.1 (c_R_setLimits l D cI (fun j => a (4 + j)) P person requests pages ) [4, 5, 6, 7, 8, 9] [0, 1, 2, 3, 10, 11, 12, 13, 14, 15, 16, 17, 18, 19, 20, 21] [0, 1, 2, 3, 16, 17, 18, 19, 20, 21, 4, 5, 6, 7, 8, 9, 10, 11, 12, 13, 14, 15] rfl rfl rfl rfl rfl rfl (by decide) 0 rfl rfl kz_X_136 rfl ⟨Nat.le_of_ble_eq_true rfl, Nat.le_of_ble_eq_true rfl⟩ rfl (Nat.le_of_ble_eq_true rfl) ⟨Nat.zero_le _, Nat.zero_le _⟩ d_X_limit_40 (fun H locs G => ?_)
        refine W.eq (g2 := F0 m 43 ls []) rfl ?_
        refine lv_iconst (v := 1) hx hb d_X_limit_43 (by decide) ?_
        have hf : f_X_limit nw n c Z P U V person requests pages = (1, nw, nI n, nI c, Z, (f_R_setLimits P person requests pages), U, V) := by unfold f_X_limit; rw [if_neg c_1, if_neg c_2, if_neg c_3]
        exact zW.iret E hrt hlk G (by rw [hf]) (by rw [hf]) d_X_limit_44
      · refine lv_bipush (v := (-2)) hx hb d_X_limit_30 (by decide) ?_
        have hf : f_X_limit nw n c Z P U V person requests pages = ((-2), nw, nI n, nI c, Z, P, U, V) := by unfold f_X_limit; rw [if_neg c_1, if_neg c_2, if_pos c_3]
        exact zW.iret E hrt hlk G (by rw [hf]) (by rw [hf]) d_X_limit_32
  · refine lv_iconst (v := (-1)) hx hb d_X_limit_7 (by decide) ?_
    have hf : f_X_limit nw n c Z P U V person requests pages = ((-1), nw, nI n, nI c, Z, P, U, V) := by unfold f_X_limit; rw [if_pos c_1]
    exact zW.iret E hrt hlk G (by rw [hf]) (by rw [hf]) d_X_limit_8
def f_X_copy (nw : Int32) (n : Nat) (c : Nat) (Z : Nat → Nat → Int32) (P : Nat → Nat → Int32) (U : Nat → Nat → Int32) (V : Nat → Nat → Int32) (unit : Int32) (pages : Int32) (t : Int32) : Int32 × Int32 × Int32 × Int32 × (Nat → Nat → Int32) × (Nat → Nat → Int32) × (Nat → Nat → Int32) × (Nat → Nat → Int32) := (if (f_isUnit unit) = 0 then ((-1), nw, nI n, nI c, Z, P, U, V) else (if (f_isWithin pages 1 500) = 0 then ((-2), nw, nI n, nI c, Z, P, U, V) else (if (f_X_isTime nw t) = 0 then ((-2), nw, nI n, nI c, Z, P, U, V) else (if (f_H_placeOf U unit) = 2 then (if (f_H_conditionOf U unit) ≤ 1 then (if pages ≤ (f_R_pagesLeft P (f_Q_personOf c V (f_H_requestOf U unit)) (t / 86400)) then (f_R_pagesLeft (f_R_addCopied P (f_Q_personOf c V (f_H_requestOf U unit)) (t / 86400) pages) (f_Q_personOf c V (f_H_requestOf U unit)) (t / 86400), t, nI n, nI c, Z, (f_R_addCopied P (f_Q_personOf c V (f_H_requestOf U unit)) (t / 86400) pages), U, V) else ((-4), nw, nI n, nI c, Z, P, U, V)) else ((-3), nw, nI n, nI c, Z, P, U, V)) else ((-3), nw, nI n, nI c, Z, P, U, V)))))
set_option maxHeartbeats 4000000 in
set_option maxRecDepth 100000 in
theorem c_X_copy (l : Launch) (D : va_G) (cI : ClassId) (a : Nat → Nat) (nw : Int32) (k : Nat) (n : Nat) (c : Nat) (Z : Nat → Nat → Int32) (P : Nat → Nat → Int32) (U : Nat → Nat → Int32) (V : Nat → Nat → Int32) (unit : Int32) (pages : Int32) (t : Int32) (hk : k ≤ 20) (hn : n ≤ 60) (hc : c ≤ 300) : zW l D [(cI, .int)] y_X_copy b_X_copy 6 (some .int) 4 87 [.ref (a 0), .int unit, .int pages, .int t] (wX a cI nw (nI k) (nI n) (nI c) Z P U V) (wX a cI ((f_X_copy nw n c Z P U V unit pages t).2.1) (nI k) ((f_X_copy nw n c Z P U V unit pages t).2.2.1) ((f_X_copy nw n c Z P U V unit pages t).2.2.2.1) ((f_X_copy nw n c Z P U V unit pages t).2.2.2.2.1) ((f_X_copy nw n c Z P U V unit pages t).2.2.2.2.2.1) ((f_X_copy nw n c Z P U V unit pages t).2.2.2.2.2.2.1) ((f_X_copy nw n c Z P U V unit pages t).2.2.2.2.2.2.2)) (some (.int (f_X_copy nw n c Z P U V unit pages t).1)) := by
  refine zW.of (by decide) (Nat.le_of_ble_eq_true rfl) ?_
  intro p e s m below meth c0 ls A E hrt hlk hN hK hA G hl
  have hx := E.1
  have hb := E.2.1
  have hl : lv_has ls 6 [(0, .ref (a 0)), (1, .int unit), (2, .int pages), (3, .int t)] := hl
  refine lv_iload_n hx hb d_X_copy_0 rfl (lv_at hl 1 rfl) ?_
  refine z_rs (As := [.int unit]) (rest := []) E hN hK hl.1 (c_isUnit l D [(cI, .int)] unit) kz_X_60 rfl ⟨Nat.le_of_ble_eq_true rfl, Nat.le_of_ble_eq_true rfl⟩ rfl (Nat.le_of_ble_eq_true rfl) ⟨Nat.zero_le _, Nat.zero_le _⟩ d_X_copy_1 ?_
  refine lv_if_ne (tgt := 9) hx hb d_X_copy_4 (by decide) (fun c_1 => ?_) (fun c_1 => ?_)
  · refine lv_iload_n hx hb d_X_copy_9 rfl (lv_at hl 2 rfl) ?_
    refine lv_iconst (v := 1) hx hb d_X_copy_10 (by decide) ?_
    refine lv_sipush (v := 500) hx hb d_X_copy_11 (by decide) ?_
    refine z_rs (As := [.int pages, .int 1, .int 500]) (rest := []) E hN hK hl.1 (c_isWithin l D [(cI, .int)] pages 1 500) kz_X_120 rfl ⟨Nat.le_of_ble_eq_true rfl, Nat.le_of_ble_eq_true rfl⟩ rfl (Nat.le_of_ble_eq_true rfl) ⟨Nat.zero_le _, Nat.zero_le _⟩ d_X_copy_14 ?_
    refine lv_if_eq (tgt := 28) hx hb d_X_copy_17 (by decide) (fun c_2 => ?_) (fun c_2 => ?_)
    · refine lv_bipush (v := (-2)) hx hb d_X_copy_28 (by decide) ?_
      have hf : f_X_copy nw n c Z P U V unit pages t = ((-2), nw, nI n, nI c, Z, P, U, V) := by unfold f_X_copy; rw [if_neg c_1, if_pos c_2]
      exact zW.iret E hrt hlk G (by rw [hf]) (by rw [hf]) d_X_copy_30
    · refine lv_aload_n hx hb d_X_copy_20 rfl (lv_at hl 0 rfl) ?_
      refine lv_iload_n hx hb d_X_copy_21 rfl (lv_at hl 3 rfl) ?_
      refine z_rv (As := [.int t]) (rest := []) E hN hK G.1 hl.1 (c_X_isTime l D cI a nw k n c Z P U V t hk hn hc) [0, 1, 2, 3, 4, 5, 6, 7, 8, 9, 10, 11, 12, 13, 14, 15, 16, 17, 18, 19, 20, 21] rfl 0 rfl rfl kz_X_63 rfl ⟨Nat.le_of_ble_eq_true rfl, Nat.le_of_ble_eq_true rfl⟩ rfl (Nat.le_of_ble_eq_true rfl) ⟨Nat.zero_le _, Nat.zero_le _⟩ d_X_copy_22 ?_
      refine lv_if_ne (tgt := 31) hx hb d_X_copy_25 (by decide) (fun c_3 => ?_) (fun c_3 => ?_)
      · refine lv_aload_n hx hb d_X_copy_31 rfl (lv_at hl 0 rfl) ?_
        refine z_get (v := .ref (a 10)) E hK G.1 i_X 0 2 rfl rfl (by decide) kf_X_28 rfl d_X_copy_32 ?_
        refine lv_iload_n hx hb d_X_copy_35 rfl (lv_at hl 1 rfl) ?_
        refine z_rv (As := [.int unit]) (rest := []) E hN hK G.1 hl.1 (c_H_placeOf l D cI (fun j => a (10 + j)) U unit ) [10, 11, 12, 13, 14] rfl 0 rfl rfl kz_X_94 rfl ⟨Nat.le_of_ble_eq_true rfl, Nat.le_of_ble_eq_true rfl⟩ rfl (Nat.le_of_ble_eq_true rfl) ⟨Nat.zero_le _, Nat.zero_le _⟩ d_X_copy_36 ?_
        refine lv_iconst (v := 2) hx hb d_X_copy_39 (by decide) ?_
        refine lv_icmp_ne (tgt := 55) hx hb d_X_copy_40 (by decide) (fun c_4 => ?_) (fun c_4 => ?_)
        · refine lv_bipush (v := (-3)) hx hb d_X_copy_55 (by decide) ?_
          have hf : f_X_copy nw n c Z P U V unit pages t = ((-3), nw, nI n, nI c, Z, P, U, V) := by unfold f_X_copy; rw [if_neg c_1, if_neg c_2, if_neg c_3, if_neg c_4]
          exact zW.iret E hrt hlk G (by rw [hf]) (by rw [hf]) d_X_copy_57
        · refine lv_aload_n hx hb d_X_copy_43 rfl (lv_at hl 0 rfl) ?_
          refine z_get (v := .ref (a 10)) E hK G.1 i_X 0 2 rfl rfl (by decide) kf_X_28 rfl d_X_copy_44 ?_
          refine lv_iload_n hx hb d_X_copy_47 rfl (lv_at hl 1 rfl) ?_
          refine z_rv (As := [.int unit]) (rest := []) E hN hK G.1 hl.1 (c_H_conditionOf l D cI (fun j => a (10 + j)) U unit ) [10, 11, 12, 13, 14] rfl 0 rfl rfl kz_X_97 rfl ⟨Nat.le_of_ble_eq_true rfl, Nat.le_of_ble_eq_true rfl⟩ rfl (Nat.le_of_ble_eq_true rfl) ⟨Nat.zero_le _, Nat.zero_le _⟩ d_X_copy_48 ?_
          refine lv_iconst (v := 1) hx hb d_X_copy_51 (by decide) ?_
          refine lv_icmp_le (tgt := 58) hx hb d_X_copy_52 (by decide) (fun c_5 => ?_) (fun c_5 => ?_)
          · refine lv_aload_n hx hb d_X_copy_58 rfl (lv_at hl 0 rfl) ?_
            refine z_get (v := .ref (a 15)) E hK G.1 i_X 0 3 rfl rfl (by decide) kf_X_35 rfl d_X_copy_59 ?_
            refine lv_aload_n hx hb d_X_copy_62 rfl (lv_at hl 0 rfl) ?_
            refine z_get (v := .ref (a 10)) E hK G.1 i_X 0 2 rfl rfl (by decide) kf_X_28 rfl d_X_copy_63 ?_
            refine lv_iload_n hx hb d_X_copy_66 rfl (lv_at hl 1 rfl) ?_
            refine z_rv (As := [.int unit]) (rest := [.ref (a 15)]) E hN hK G.1 hl.1 (c_H_requestOf l D cI (fun j => a (10 + j)) U unit ) [10, 11, 12, 13, 14] rfl 0 rfl rfl kz_X_104 rfl ⟨Nat.le_of_ble_eq_true rfl, Nat.le_of_ble_eq_true rfl⟩ rfl (Nat.le_of_ble_eq_true rfl) ⟨Nat.zero_le _, Nat.zero_le _⟩ d_X_copy_67 ?_
            refine z_rv (As := [.int (f_H_requestOf U unit)]) (rest := []) E hN hK G.1 hl.1 (c_Q_personOf l D cI (fun j => a (15 + j)) c V (f_H_requestOf U unit) hc) [15, 16, 17, 18, 19, 20, 21] rfl 0 rfl rfl kz_X_107 rfl ⟨Nat.le_of_ble_eq_true rfl, Nat.le_of_ble_eq_true rfl⟩ rfl (Nat.le_of_ble_eq_true rfl) ⟨Nat.zero_le _, Nat.zero_le _⟩ d_X_copy_70 ?_
            refine lv_istore (lv' := [(4, .int (f_Q_personOf c V (f_H_requestOf U unit))), (0, .ref (a 0)), (1, .int unit), (2, .int pages), (3, .int t)]) hx hb d_X_copy_73 hl (by decide) rfl (fun ls hl => ?_)
            refine lv_iload_n hx hb d_X_copy_75 rfl (lv_at hl 4 rfl) ?_
            refine lv_ldc (v := 86400) hx hb E.2.2.2.1 (E.2.2.2.2 _ kc_X_139) d_X_copy_76 ?_
            refine lv_idiv hx hb d_X_copy_78 (by decide) ?_
            refine lv_istore (lv' := [(5, .int (t / 86400)), (4, .int (f_Q_personOf c V (f_H_requestOf U unit))), (0, .ref (a 0)), (1, .int unit), (2, .int pages), (3, .int t)]) hx hb d_X_copy_79 hl (by decide) rfl (fun ls hl => ?_)
            refine lv_iload_n hx hb d_X_copy_81 rfl (lv_at hl 4 rfl) ?_
            refine lv_aload_n hx hb d_X_copy_82 rfl (lv_at hl 2 rfl) ?_
            refine z_get (v := .ref (a 4)) E hK G.1 i_X 0 1 rfl rfl (by decide) kf_X_21 rfl d_X_copy_83 ?_
            refine lv_iload hx hb d_X_copy_86 (lv_at hl 1 rfl) ?_
            refine lv_iload hx hb d_X_copy_88 (lv_at hl 0 rfl) ?_
            refine z_rv (As := [.int (f_Q_personOf c V (f_H_requestOf U unit)), .int (t / 86400)]) (rest := [.int pages]) E hN hK G.1 hl.1 (c_R_pagesLeft l D cI (fun j => a (4 + j)) P (f_Q_personOf c V (f_H_requestOf U unit)) (t / 86400) ) [4, 5, 6, 7, 8, 9] rfl 0 rfl rfl kz_X_140 rfl ⟨Nat.le_of_ble_eq_true rfl, Nat.le_of_ble_eq_true rfl⟩ rfl (Nat.le_of_ble_eq_true rfl) ⟨Nat.zero_le _, Nat.zero_le _⟩ d_X_copy_90 ?_
            refine lv_icmp_le (tgt := 99) hx hb d_X_copy_93 (by decide) (fun c_6 => ?_) (fun c_6 => ?_)
            · refine lv_aload_n hx hb d_X_copy_99 rfl (lv_at hl 2 rfl) ?_
              refine lv_iload_n hx hb d_X_copy_100 rfl (lv_at hl 5 rfl) ?_
              refine z_put (ty := .int) (ws' := wX a cI t (nI k) (nI n) (nI c) Z P U V) E hK G i_X t_X t_X_ok n_X 0 4 rfl rfl (by decide) kf_X_39 rfl rfl rfl rfl (Nat.le_of_ble_eq_true rfl) rfl d_X_copy_101 (fun H locs G => ?_)
              refine lv_aload_n hx hb d_X_copy_104 rfl (lv_at hl 2 rfl) ?_
              refine z_get (v := .ref (a 4)) E hK G.1 i_X 0 1 rfl rfl (by decide) kf_X_21 rfl d_X_copy_105 ?_
              refine lv_iload hx hb d_X_copy_108 (lv_at hl 1 rfl) ?_
              refine lv_iload hx hb d_X_copy_110 (lv_at hl 0 rfl) ?_
              refine lv_iload_n hx hb d_X_copy_112 rfl (lv_at hl 4 rfl) ?_
              refine z_wv (As := [.int (f_Q_personOf c V (f_H_requestOf U unit)), .int (t / 86400), .int pages]) (rest := []) (wr := ([0, 1, 2, 3, 10, 11, 12, 13, 14, 15, 16, 17, 18, 19, 20, 21] : List Nat).filterMap (fun i => (wX a cI t (nI k) (nI n) (nI c) Z P U V)[i]?)) (ws' := wX a cI t (nI k) (nI n) (nI c) Z (f_R_addCopied P (f_Q_personOf c V (f_H_requestOf U unit)) (t / 86400) pages) U V) E hN hK hA G hl.1 (c_R_addCopied l D cI (fun j => a (4 + j)) P (f_Q_personOf c V (f_H_requestOf U unit)) (t / 86400) pages ) [4, 5, 6, 7, 8, 9] [0, 1, 2, 3, 10, 11, 12, 13, 14, 15, 16, 17, 18, 19, 20, 21] [0, 1, 2, 3, 16, 17, 18, 19, 20, 21, 4, 5, 6, 7, 8, 9, 10, 11, 12, 13, 14, 15] rfl rfl rfl rfl rfl rfl (by decide) 0 rfl rfl kz_X_143 rfl ⟨Nat.le_of_ble_eq_true rfl, Nat.le_of_ble_eq_true rfl⟩ rfl (Nat.le_of_ble_eq_true rfl) ⟨Nat.zero_le _, Nat.zero_le _⟩ d_X_copy_113 (fun H locs G => ?_)
              refine W.eq (g2 := F0 m 116 ls []) rfl ?_
              refine lv_aload_n hx hb d_X_copy_116 rfl (lv_at hl 2 rfl) ?_
              refine z_get (v := .ref (a 4)) E hK G.1 i_X 0 1 rfl rfl (by decide) kf_X_21 rfl d_X_copy_117 ?_
              refine lv_iload hx hb d_X_copy_120 (lv_at hl 1 rfl) ?_
              refine lv_iload hx hb d_X_copy_122 (lv_at hl 0 rfl) ?_
              refine z_rv (As := [.int (f_Q_personOf c V (f_H_requestOf U unit)), .int (t / 86400)]) (rest := []) E hN hK G.1 hl.1 (c_R_pagesLeft l D cI (fun j => a (4 + j)) (f_R_addCopied P (f_Q_personOf c V (f_H_requestOf U unit)) (t / 86400) pages) (f_Q_personOf c V (f_H_requestOf U unit)) (t / 86400) ) [4, 5, 6, 7, 8, 9] rfl 0 rfl rfl kz_X_140 rfl ⟨Nat.le_of_ble_eq_true rfl, Nat.le_of_ble_eq_true rfl⟩ rfl (Nat.le_of_ble_eq_true rfl) ⟨Nat.zero_le _, Nat.zero_le _⟩ d_X_copy_124 ?_
              have hf : f_X_copy nw n c Z P U V unit pages t = (f_R_pagesLeft (f_R_addCopied P (f_Q_personOf c V (f_H_requestOf U unit)) (t / 86400) pages) (f_Q_personOf c V (f_H_requestOf U unit)) (t / 86400), t, nI n, nI c, Z, (f_R_addCopied P (f_Q_personOf c V (f_H_requestOf U unit)) (t / 86400) pages), U, V) := by unfold f_X_copy; rw [if_neg c_1, if_neg c_2, if_neg c_3, if_pos c_4, if_pos c_5, if_pos c_6]
              exact zW.iret E hrt hlk G (by rw [hf]) (by rw [hf]) d_X_copy_127
            · refine lv_bipush (v := (-4)) hx hb d_X_copy_96 (by decide) ?_
              have hf : f_X_copy nw n c Z P U V unit pages t = ((-4), nw, nI n, nI c, Z, P, U, V) := by unfold f_X_copy; rw [if_neg c_1, if_neg c_2, if_neg c_3, if_pos c_4, if_pos c_5, if_neg c_6]
              exact zW.iret E hrt hlk G (by rw [hf]) (by rw [hf]) d_X_copy_98
          · refine lv_bipush (v := (-3)) hx hb d_X_copy_55 (by decide) ?_
            have hf : f_X_copy nw n c Z P U V unit pages t = ((-3), nw, nI n, nI c, Z, P, U, V) := by unfold f_X_copy; rw [if_neg c_1, if_neg c_2, if_neg c_3, if_pos c_4, if_neg c_5]
            exact zW.iret E hrt hlk G (by rw [hf]) (by rw [hf]) d_X_copy_57
      · refine lv_bipush (v := (-2)) hx hb d_X_copy_28 (by decide) ?_
        have hf : f_X_copy nw n c Z P U V unit pages t = ((-2), nw, nI n, nI c, Z, P, U, V) := by unfold f_X_copy; rw [if_neg c_1, if_neg c_2, if_pos c_3]
        exact zW.iret E hrt hlk G (by rw [hf]) (by rw [hf]) d_X_copy_30
  · refine lv_iconst (v := (-1)) hx hb d_X_copy_7 (by decide) ?_
    have hf : f_X_copy nw n c Z P U V unit pages t = ((-1), nw, nI n, nI c, Z, P, U, V) := by unfold f_X_copy; rw [if_pos c_1]
    exact zW.iret E hrt hlk G (by rw [hf]) (by rw [hf]) d_X_copy_8
def f_X_close (nw : Int32) (n : Nat) (c : Nat) (Z : Nat → Nat → Int32) (P : Nat → Nat → Int32) (U : Nat → Nat → Int32) (V : Nat → Nat → Int32) (t : Int32) : Int32 × Int32 × Int32 × Int32 × (Nat → Nat → Int32) × (Nat → Nat → Int32) × (Nat → Nat → Int32) × (Nat → Nat → Int32) := (if (f_X_isTime nw t) = 0 then ((-2), nw, nI n, nI c, Z, P, U, V) else ((f_H_storeAll U).1, t, (f_S_clear Z).1, nI c, (f_S_clear Z).2, P, (f_H_storeAll U).2, (f_Q_endAll c V t)))
set_option maxHeartbeats 4000000 in
set_option maxRecDepth 100000 in
theorem c_X_close (l : Launch) (D : va_G) (cI : ClassId) (a : Nat → Nat) (nw : Int32) (k : Nat) (n : Nat) (c : Nat) (Z : Nat → Nat → Int32) (P : Nat → Nat → Int32) (U : Nat → Nat → Int32) (V : Nat → Nat → Int32) (t : Int32) (hk : k ≤ 20) (hn : n ≤ 60) (hc : c ≤ 300) : zW l D [(cI, .int)] y_X_close b_X_close 2 (some .int) 5 109 [.ref (a 0), .int t] (wX a cI nw (nI k) (nI n) (nI c) Z P U V) (wX a cI ((f_X_close nw n c Z P U V t).2.1) (nI k) ((f_X_close nw n c Z P U V t).2.2.1) ((f_X_close nw n c Z P U V t).2.2.2.1) ((f_X_close nw n c Z P U V t).2.2.2.2.1) ((f_X_close nw n c Z P U V t).2.2.2.2.2.1) ((f_X_close nw n c Z P U V t).2.2.2.2.2.2.1) ((f_X_close nw n c Z P U V t).2.2.2.2.2.2.2)) (some (.int (f_X_close nw n c Z P U V t).1)) := by
  refine zW.of (by decide) (Nat.le_of_ble_eq_true rfl) ?_
  intro p e s m below meth c0 ls A E hrt hlk hN hK hA G hl
  have hx := E.1
  have hb := E.2.1
  have hl : lv_has ls 2 [(0, .ref (a 0)), (1, .int t)] := hl
  refine lv_aload_n hx hb d_X_close_0 rfl (lv_at hl 0 rfl) ?_
  refine lv_iload_n hx hb d_X_close_1 rfl (lv_at hl 1 rfl) ?_
  refine z_rv (As := [.int t]) (rest := []) E hN hK G.1 hl.1 (c_X_isTime l D cI a nw k n c Z P U V t hk hn hc) [0, 1, 2, 3, 4, 5, 6, 7, 8, 9, 10, 11, 12, 13, 14, 15, 16, 17, 18, 19, 20, 21] rfl 0 rfl rfl kz_X_63 rfl ⟨Nat.le_of_ble_eq_true rfl, Nat.le_of_ble_eq_true rfl⟩ rfl (Nat.le_of_ble_eq_true rfl) ⟨Nat.zero_le _, Nat.zero_le _⟩ d_X_close_2 ?_
  refine lv_if_ne (tgt := 11) hx hb d_X_close_5 (by decide) (fun c_1 => ?_) (fun c_1 => ?_)
  · refine lv_aload_n hx hb d_X_close_11 rfl (lv_at hl 0 rfl) ?_
    refine lv_iload_n hx hb d_X_close_12 rfl (lv_at hl 1 rfl) ?_
    refine z_put (ty := .int) (ws' := wX a cI t (nI k) (nI n) (nI c) Z P U V) E hK G i_X t_X t_X_ok n_X 0 4 rfl rfl (by decide) kf_X_39 rfl rfl rfl rfl (Nat.le_of_ble_eq_true rfl) rfl d_X_close_13 (fun H locs G => ?_)
    refine lv_aload_n hx hb d_X_close_16 rfl (lv_at hl 0 rfl) ?_
    refine z_get (v := .ref (a 15)) E hK G.1 i_X 0 3 rfl rfl (by decide) kf_X_35 rfl d_X_close_17 ?_
    refine lv_iload_n hx hb d_X_close_20 rfl (lv_at hl 1 rfl) ?_
    refine z_wv (As := [.int t]) (rest := []) (wr := ([0, 1, 2, 3, 4, 5, 6, 7, 8, 9, 10, 11, 12, 13, 14] : List Nat).filterMap (fun i => (wX a cI t (nI k) (nI n) (nI c) Z P U V)[i]?)) (ws' := wX a cI t (nI k) (nI n) (nI c) Z P U (f_Q_endAll c V t)) E hN hK hA G hl.1 (c_Q_endAll l D cI (fun j => a (15 + j)) c V t hc) [15, 16, 17, 18, 19, 20, 21] [0, 1, 2, 3, 4, 5, 6, 7, 8, 9, 10, 11, 12, 13, 14] [0, 1, 2, 3, 4, 5, 6, 7, 8, 9, 10, 11, 12, 13, 14, 15, 16, 17, 18, 19, 20, 21] rfl rfl rfl rfl rfl rfl (by decide) 0 rfl rfl kz_X_146 rfl ⟨Nat.le_of_ble_eq_true rfl, Nat.le_of_ble_eq_true rfl⟩ rfl (Nat.le_of_ble_eq_true rfl) ⟨Nat.zero_le _, Nat.zero_le _⟩ d_X_close_21 (fun H locs G => ?_)
    refine W.eq (g2 := F0 m 24 ls []) rfl ?_
    refine lv_aload_n hx hb d_X_close_24 rfl (lv_at hl 0 rfl) ?_
    refine z_get (v := .ref (a 1)) E hK G.1 i_X 0 0 rfl rfl (by decide) kf_X_12 rfl d_X_close_25 ?_
    refine z_wv (As := []) (rest := []) (wr := ([0, 4, 5, 6, 7, 8, 9, 10, 11, 12, 13, 14, 15, 16, 17, 18, 19, 20, 21] : List Nat).filterMap (fun i => (wX a cI t (nI k) (nI n) (nI c) Z P U (f_Q_endAll c V t))[i]?)) (ws' := wX a cI t (nI k) ((f_S_clear Z).1) (nI c) ((f_S_clear Z).2) P U (f_Q_endAll c V t)) E hN hK hA G hl.1 (c_S_clear l D cI (fun j => a (1 + j)) k n Z  hk hn) [1, 2, 3] [0, 4, 5, 6, 7, 8, 9, 10, 11, 12, 13, 14, 15, 16, 17, 18, 19, 20, 21] [0, 19, 20, 21, 1, 2, 3, 4, 5, 6, 7, 8, 9, 10, 11, 12, 13, 14, 15, 16, 17, 18] rfl rfl rfl rfl rfl rfl (by decide) 0 rfl rfl kz_X_149 rfl ⟨Nat.le_of_ble_eq_true rfl, Nat.le_of_ble_eq_true rfl⟩ rfl (Nat.le_of_ble_eq_true rfl) ⟨Nat.zero_le _, Nat.zero_le _⟩ d_X_close_28 (fun H locs G => ?_)
    refine W.eq (g2 := F0 m 31 ls []) rfl ?_
    refine lv_aload_n hx hb d_X_close_31 rfl (lv_at hl 0 rfl) ?_
    refine z_get (v := .ref (a 10)) E hK G.1 i_X 0 2 rfl rfl (by decide) kf_X_28 rfl d_X_close_32 ?_
    refine z_wv (As := []) (rest := []) (wr := ([0, 1, 2, 3, 4, 5, 6, 7, 8, 9, 15, 16, 17, 18, 19, 20, 21] : List Nat).filterMap (fun i => (wX a cI t (nI k) ((f_S_clear Z).1) (nI c) ((f_S_clear Z).2) P U (f_Q_endAll c V t))[i]?)) (ws' := wX a cI t (nI k) ((f_S_clear Z).1) (nI c) ((f_S_clear Z).2) P ((f_H_storeAll U).2) (f_Q_endAll c V t)) E hN hK hA G hl.1 (c_H_storeAll l D cI (fun j => a (10 + j)) U  ) [10, 11, 12, 13, 14] [0, 1, 2, 3, 4, 5, 6, 7, 8, 9, 15, 16, 17, 18, 19, 20, 21] [0, 1, 2, 3, 4, 5, 6, 7, 8, 9, 17, 18, 19, 20, 21, 10, 11, 12, 13, 14, 15, 16] rfl rfl rfl rfl rfl rfl (by decide) 0 rfl rfl kz_X_152 rfl ⟨Nat.le_of_ble_eq_true rfl, Nat.le_of_ble_eq_true rfl⟩ rfl (Nat.le_of_ble_eq_true rfl) ⟨Nat.zero_le _, Nat.zero_le _⟩ d_X_close_35 (fun H locs G => ?_)
    refine W.eq (g2 := F0 m 38 ls [.int ((f_H_storeAll U).1)]) rfl ?_
    have hf : f_X_close nw n c Z P U V t = ((f_H_storeAll U).1, t, (f_S_clear Z).1, nI c, (f_S_clear Z).2, P, (f_H_storeAll U).2, (f_Q_endAll c V t)) := by unfold f_X_close; rw [if_neg c_1]
    exact zW.iret E hrt hlk G (by rw [hf]) (by rw [hf]) d_X_close_38
  · refine lv_bipush (v := (-2)) hx hb d_X_close_8 (by decide) ?_
    have hf : f_X_close nw n c Z P U V t = ((-2), nw, nI n, nI c, Z, P, U, V) := by unfold f_X_close; rw [if_pos c_1]
    exact zW.iret E hrt hlk G (by rw [hf]) (by rw [hf]) d_X_close_10
def f_X_unit (c : Nat) (U : Nat → Nat → Int32) (V : Nat → Nat → Int32) (unit : Int32) (what : Int32) : Int32 := (if (f_isUnit unit) = 0 then (-1) else (if what = 0 then (f_H_placeOf U unit) else (if what = 1 then (f_H_conditionOf U unit) else (if what = 2 then (f_H_restrictionOf U unit) else (if what = 3 then (f_H_requestOf U unit) else (if what = 4 then (f_Q_countOpen c V unit) else (-1)))))))
set_option maxHeartbeats 4000000 in
set_option maxRecDepth 100000 in
theorem c_X_unit (l : Launch) (D : va_G) (cI : ClassId) (a : Nat → Nat) (nw : Int32) (k : Nat) (n : Nat) (c : Nat) (Z : Nat → Nat → Int32) (P : Nat → Nat → Int32) (U : Nat → Nat → Int32) (V : Nat → Nat → Int32) (unit : Int32) (what : Int32) (hk : k ≤ 20) (hn : n ≤ 60) (hc : c ≤ 300) : zR l D [(cI, .int)] y_X_unit b_X_unit 3 (some .int) 4 88 [.ref (a 0), .int unit, .int what] (wX a cI nw (nI k) (nI n) (nI c) Z P U V) (f_X_unit c U V unit what) := by
  refine zR.of (by decide) (Nat.le_of_ble_eq_true rfl) ?_
  intro p e s m below meth c0 ls E hrt hlk hN hK hP hl
  have hx := E.1
  have hb := E.2.1
  have hl : lv_has ls 3 [(0, .ref (a 0)), (1, .int unit), (2, .int what)] := hl
  refine lv_iload_n hx hb d_X_unit_0 rfl (lv_at hl 1 rfl) ?_
  refine z_rs (As := [.int unit]) (rest := []) E hN hK hl.1 (c_isUnit l D [(cI, .int)] unit) kz_X_60 rfl ⟨Nat.le_of_ble_eq_true rfl, Nat.le_of_ble_eq_true rfl⟩ rfl (Nat.le_of_ble_eq_true rfl) ⟨Nat.zero_le _, Nat.zero_le _⟩ d_X_unit_1 ?_
  refine lv_if_ne (tgt := 9) hx hb d_X_unit_4 (by decide) (fun c_1 => ?_) (fun c_1 => ?_)
  · refine lv_iload_n hx hb d_X_unit_9 rfl (lv_at hl 2 rfl) ?_
    rcases Classical.em (what = 0) with c_2 | c_2
    · refine lv_tableIn (tgt := 44) (off := 34) hx hb d_X_unit_10 (by rw [c_2]; decide) (by rw [c_2]; decide) (by rw [c_2]; decide) (by decide) ?_
      refine lv_aload_n hx hb d_X_unit_44 rfl (lv_at hl 0 rfl) ?_
      refine z_get (v := .ref (a 10)) E hK hP i_X 0 2 rfl rfl (by decide) kf_X_28 rfl d_X_unit_45 ?_
      refine lv_iload_n hx hb d_X_unit_48 rfl (lv_at hl 1 rfl) ?_
      refine z_rv (As := [.int unit]) (rest := []) E hN hK hP hl.1 (c_H_placeOf l D cI (fun j => a (10 + j)) U unit ) [10, 11, 12, 13, 14] rfl 0 rfl rfl kz_X_94 rfl ⟨Nat.le_of_ble_eq_true rfl, Nat.le_of_ble_eq_true rfl⟩ rfl (Nat.le_of_ble_eq_true rfl) ⟨Nat.zero_le _, Nat.zero_le _⟩ d_X_unit_49 ?_
      exact zR.iret E hrt hlk (by unfold f_X_unit; rw [if_neg c_1, if_pos c_2]) d_X_unit_52
    · rcases Classical.em (what = 1) with c_3 | c_3
      · refine lv_tableIn (tgt := 53) (off := 43) hx hb d_X_unit_10 (by rw [c_3]; decide) (by rw [c_3]; decide) (by rw [c_3]; decide) (by decide) ?_
        refine lv_aload_n hx hb d_X_unit_53 rfl (lv_at hl 0 rfl) ?_
        refine z_get (v := .ref (a 10)) E hK hP i_X 0 2 rfl rfl (by decide) kf_X_28 rfl d_X_unit_54 ?_
        refine lv_iload_n hx hb d_X_unit_57 rfl (lv_at hl 1 rfl) ?_
        refine z_rv (As := [.int unit]) (rest := []) E hN hK hP hl.1 (c_H_conditionOf l D cI (fun j => a (10 + j)) U unit ) [10, 11, 12, 13, 14] rfl 0 rfl rfl kz_X_97 rfl ⟨Nat.le_of_ble_eq_true rfl, Nat.le_of_ble_eq_true rfl⟩ rfl (Nat.le_of_ble_eq_true rfl) ⟨Nat.zero_le _, Nat.zero_le _⟩ d_X_unit_58 ?_
        exact zR.iret E hrt hlk (by unfold f_X_unit; rw [if_neg c_1, if_neg c_2, if_pos c_3]) d_X_unit_61
      · rcases Classical.em (what = 2) with c_4 | c_4
        · refine lv_tableIn (tgt := 62) (off := 52) hx hb d_X_unit_10 (by rw [c_4]; decide) (by rw [c_4]; decide) (by rw [c_4]; decide) (by decide) ?_
          refine lv_aload_n hx hb d_X_unit_62 rfl (lv_at hl 0 rfl) ?_
          refine z_get (v := .ref (a 10)) E hK hP i_X 0 2 rfl rfl (by decide) kf_X_28 rfl d_X_unit_63 ?_
          refine lv_iload_n hx hb d_X_unit_66 rfl (lv_at hl 1 rfl) ?_
          refine z_rv (As := [.int unit]) (rest := []) E hN hK hP hl.1 (c_H_restrictionOf l D cI (fun j => a (10 + j)) U unit ) [10, 11, 12, 13, 14] rfl 0 rfl rfl kz_X_156 rfl ⟨Nat.le_of_ble_eq_true rfl, Nat.le_of_ble_eq_true rfl⟩ rfl (Nat.le_of_ble_eq_true rfl) ⟨Nat.zero_le _, Nat.zero_le _⟩ d_X_unit_67 ?_
          exact zR.iret E hrt hlk (by unfold f_X_unit; rw [if_neg c_1, if_neg c_2, if_neg c_3, if_pos c_4]) d_X_unit_70
        · rcases Classical.em (what = 3) with c_5 | c_5
          · refine lv_tableIn (tgt := 71) (off := 61) hx hb d_X_unit_10 (by rw [c_5]; decide) (by rw [c_5]; decide) (by rw [c_5]; decide) (by decide) ?_
            refine lv_aload_n hx hb d_X_unit_71 rfl (lv_at hl 0 rfl) ?_
            refine z_get (v := .ref (a 10)) E hK hP i_X 0 2 rfl rfl (by decide) kf_X_28 rfl d_X_unit_72 ?_
            refine lv_iload_n hx hb d_X_unit_75 rfl (lv_at hl 1 rfl) ?_
            refine z_rv (As := [.int unit]) (rest := []) E hN hK hP hl.1 (c_H_requestOf l D cI (fun j => a (10 + j)) U unit ) [10, 11, 12, 13, 14] rfl 0 rfl rfl kz_X_104 rfl ⟨Nat.le_of_ble_eq_true rfl, Nat.le_of_ble_eq_true rfl⟩ rfl (Nat.le_of_ble_eq_true rfl) ⟨Nat.zero_le _, Nat.zero_le _⟩ d_X_unit_76 ?_
            exact zR.iret E hrt hlk (by unfold f_X_unit; rw [if_neg c_1, if_neg c_2, if_neg c_3, if_neg c_4, if_pos c_5]) d_X_unit_79
          · rcases Classical.em (what = 4) with c_6 | c_6
            · refine lv_tableIn (tgt := 80) (off := 70) hx hb d_X_unit_10 (by rw [c_6]; decide) (by rw [c_6]; decide) (by rw [c_6]; decide) (by decide) ?_
              refine lv_aload_n hx hb d_X_unit_80 rfl (lv_at hl 0 rfl) ?_
              refine z_get (v := .ref (a 15)) E hK hP i_X 0 3 rfl rfl (by decide) kf_X_35 rfl d_X_unit_81 ?_
              refine lv_iload_n hx hb d_X_unit_84 rfl (lv_at hl 1 rfl) ?_
              refine z_rv (As := [.int unit]) (rest := []) E hN hK hP hl.1 (c_Q_countOpen l D cI (fun j => a (15 + j)) c V unit hc) [15, 16, 17, 18, 19, 20, 21] rfl 0 rfl rfl kz_X_159 rfl ⟨Nat.le_of_ble_eq_true rfl, Nat.le_of_ble_eq_true rfl⟩ rfl (Nat.le_of_ble_eq_true rfl) ⟨Nat.zero_le _, Nat.zero_le _⟩ d_X_unit_85 ?_
              exact zR.iret E hrt hlk (by unfold f_X_unit; rw [if_neg c_1, if_neg c_2, if_neg c_3, if_neg c_4, if_neg c_5, if_pos c_6]) d_X_unit_88
            · refine lv_tableOut (tgt := 89) hx hb d_X_unit_10 (sw_out5 c_2 c_3 c_4 c_5 c_6) (by decide) ?_
              refine lv_iconst (v := (-1)) hx hb d_X_unit_89 (by decide) ?_
              exact zR.iret E hrt hlk (by unfold f_X_unit; rw [if_neg c_1, if_neg c_2, if_neg c_3, if_neg c_4, if_neg c_5, if_neg c_6]) d_X_unit_90
  · refine lv_iconst (v := (-1)) hx hb d_X_unit_7 (by decide) ?_
    exact zR.iret E hrt hlk (by unfold f_X_unit; rw [if_pos c_1]) d_X_unit_8
def f_X_person (k : Nat) (n : Nat) (c : Nat) (Z : Nat → Nat → Int32) (P : Nat → Nat → Int32) (V : Nat → Nat → Int32) (person : Int32) (what : Int32) : Int32 := (if (f_isPerson person) = 0 then (-1) else (if what = 0 then (f_S_seatOf k Z person) else (if what = 1 then (f_S_placeInRow n Z person) else (if what = 2 then (f_Q_countRunning c V person) else (if what = 3 then (f_Q_countHandedOut c V person) else (if what = 4 then (f_R_copiedLatelyBy P person) else (-1)))))))
set_option maxHeartbeats 4000000 in
set_option maxRecDepth 100000 in
theorem c_X_person (l : Launch) (D : va_G) (cI : ClassId) (a : Nat → Nat) (nw : Int32) (k : Nat) (n : Nat) (c : Nat) (Z : Nat → Nat → Int32) (P : Nat → Nat → Int32) (U : Nat → Nat → Int32) (V : Nat → Nat → Int32) (person : Int32) (what : Int32) (hk : k ≤ 20) (hn : n ≤ 60) (hc : c ≤ 300) : zR l D [(cI, .int)] y_X_person b_X_person 3 (some .int) 4 88 [.ref (a 0), .int person, .int what] (wX a cI nw (nI k) (nI n) (nI c) Z P U V) (f_X_person k n c Z P V person what) := by
  refine zR.of (by decide) (Nat.le_of_ble_eq_true rfl) ?_
  intro p e s m below meth c0 ls E hrt hlk hN hK hP hl
  have hx := E.1
  have hb := E.2.1
  have hl : lv_has ls 3 [(0, .ref (a 0)), (1, .int person), (2, .int what)] := hl
  refine lv_iload_n hx hb d_X_person_0 rfl (lv_at hl 1 rfl) ?_
  refine z_rs (As := [.int person]) (rest := []) E hN hK hl.1 (c_isPerson l D [(cI, .int)] person) kz_X_43 rfl ⟨Nat.le_of_ble_eq_true rfl, Nat.le_of_ble_eq_true rfl⟩ rfl (Nat.le_of_ble_eq_true rfl) ⟨Nat.zero_le _, Nat.zero_le _⟩ d_X_person_1 ?_
  refine lv_if_ne (tgt := 9) hx hb d_X_person_4 (by decide) (fun c_1 => ?_) (fun c_1 => ?_)
  · refine lv_iload_n hx hb d_X_person_9 rfl (lv_at hl 2 rfl) ?_
    rcases Classical.em (what = 0) with c_2 | c_2
    · refine lv_tableIn (tgt := 44) (off := 34) hx hb d_X_person_10 (by rw [c_2]; decide) (by rw [c_2]; decide) (by rw [c_2]; decide) (by decide) ?_
      refine lv_aload_n hx hb d_X_person_44 rfl (lv_at hl 0 rfl) ?_
      refine z_get (v := .ref (a 1)) E hK hP i_X 0 0 rfl rfl (by decide) kf_X_12 rfl d_X_person_45 ?_
      refine lv_iload_n hx hb d_X_person_48 rfl (lv_at hl 1 rfl) ?_
      refine z_rv (As := [.int person]) (rest := []) E hN hK hP hl.1 (c_S_seatOf l D cI (fun j => a (1 + j)) k n Z person hk hn) [1, 2, 3] rfl 0 rfl rfl kz_X_162 rfl ⟨Nat.le_of_ble_eq_true rfl, Nat.le_of_ble_eq_true rfl⟩ rfl (Nat.le_of_ble_eq_true rfl) ⟨Nat.zero_le _, Nat.zero_le _⟩ d_X_person_49 ?_
      exact zR.iret E hrt hlk (by unfold f_X_person; rw [if_neg c_1, if_pos c_2]) d_X_person_52
    · rcases Classical.em (what = 1) with c_3 | c_3
      · refine lv_tableIn (tgt := 53) (off := 43) hx hb d_X_person_10 (by rw [c_3]; decide) (by rw [c_3]; decide) (by rw [c_3]; decide) (by decide) ?_
        refine lv_aload_n hx hb d_X_person_53 rfl (lv_at hl 0 rfl) ?_
        refine z_get (v := .ref (a 1)) E hK hP i_X 0 0 rfl rfl (by decide) kf_X_12 rfl d_X_person_54 ?_
        refine lv_iload_n hx hb d_X_person_57 rfl (lv_at hl 1 rfl) ?_
        refine z_rv (As := [.int person]) (rest := []) E hN hK hP hl.1 (c_S_placeInRow l D cI (fun j => a (1 + j)) k n Z person hk hn) [1, 2, 3] rfl 0 rfl rfl kz_X_165 rfl ⟨Nat.le_of_ble_eq_true rfl, Nat.le_of_ble_eq_true rfl⟩ rfl (Nat.le_of_ble_eq_true rfl) ⟨Nat.zero_le _, Nat.zero_le _⟩ d_X_person_58 ?_
        exact zR.iret E hrt hlk (by unfold f_X_person; rw [if_neg c_1, if_neg c_2, if_pos c_3]) d_X_person_61
      · rcases Classical.em (what = 2) with c_4 | c_4
        · refine lv_tableIn (tgt := 62) (off := 52) hx hb d_X_person_10 (by rw [c_4]; decide) (by rw [c_4]; decide) (by rw [c_4]; decide) (by decide) ?_
          refine lv_aload_n hx hb d_X_person_62 rfl (lv_at hl 0 rfl) ?_
          refine z_get (v := .ref (a 15)) E hK hP i_X 0 3 rfl rfl (by decide) kf_X_35 rfl d_X_person_63 ?_
          refine lv_iload_n hx hb d_X_person_66 rfl (lv_at hl 1 rfl) ?_
          refine z_rv (As := [.int person]) (rest := []) E hN hK hP hl.1 (c_Q_countRunning l D cI (fun j => a (15 + j)) c V person hc) [15, 16, 17, 18, 19, 20, 21] rfl 0 rfl rfl kz_X_76 rfl ⟨Nat.le_of_ble_eq_true rfl, Nat.le_of_ble_eq_true rfl⟩ rfl (Nat.le_of_ble_eq_true rfl) ⟨Nat.zero_le _, Nat.zero_le _⟩ d_X_person_67 ?_
          exact zR.iret E hrt hlk (by unfold f_X_person; rw [if_neg c_1, if_neg c_2, if_neg c_3, if_pos c_4]) d_X_person_70
        · rcases Classical.em (what = 3) with c_5 | c_5
          · refine lv_tableIn (tgt := 71) (off := 61) hx hb d_X_person_10 (by rw [c_5]; decide) (by rw [c_5]; decide) (by rw [c_5]; decide) (by decide) ?_
            refine lv_aload_n hx hb d_X_person_71 rfl (lv_at hl 0 rfl) ?_
            refine z_get (v := .ref (a 15)) E hK hP i_X 0 3 rfl rfl (by decide) kf_X_35 rfl d_X_person_72 ?_
            refine lv_iload_n hx hb d_X_person_75 rfl (lv_at hl 1 rfl) ?_
            refine z_rv (As := [.int person]) (rest := []) E hN hK hP hl.1 (c_Q_countHandedOut l D cI (fun j => a (15 + j)) c V person hc) [15, 16, 17, 18, 19, 20, 21] rfl 0 rfl rfl kz_X_54 rfl ⟨Nat.le_of_ble_eq_true rfl, Nat.le_of_ble_eq_true rfl⟩ rfl (Nat.le_of_ble_eq_true rfl) ⟨Nat.zero_le _, Nat.zero_le _⟩ d_X_person_76 ?_
            exact zR.iret E hrt hlk (by unfold f_X_person; rw [if_neg c_1, if_neg c_2, if_neg c_3, if_neg c_4, if_pos c_5]) d_X_person_79
          · rcases Classical.em (what = 4) with c_6 | c_6
            · refine lv_tableIn (tgt := 80) (off := 70) hx hb d_X_person_10 (by rw [c_6]; decide) (by rw [c_6]; decide) (by rw [c_6]; decide) (by decide) ?_
              refine lv_aload_n hx hb d_X_person_80 rfl (lv_at hl 0 rfl) ?_
              refine z_get (v := .ref (a 4)) E hK hP i_X 0 1 rfl rfl (by decide) kf_X_21 rfl d_X_person_81 ?_
              refine lv_iload_n hx hb d_X_person_84 rfl (lv_at hl 1 rfl) ?_
              refine z_rv (As := [.int person]) (rest := []) E hN hK hP hl.1 (c_R_copiedLatelyBy l D cI (fun j => a (4 + j)) P person ) [4, 5, 6, 7, 8, 9] rfl 0 rfl rfl kz_X_168 rfl ⟨Nat.le_of_ble_eq_true rfl, Nat.le_of_ble_eq_true rfl⟩ rfl (Nat.le_of_ble_eq_true rfl) ⟨Nat.zero_le _, Nat.zero_le _⟩ d_X_person_85 ?_
              exact zR.iret E hrt hlk (by unfold f_X_person; rw [if_neg c_1, if_neg c_2, if_neg c_3, if_neg c_4, if_neg c_5, if_pos c_6]) d_X_person_88
            · refine lv_tableOut (tgt := 89) hx hb d_X_person_10 (sw_out5 c_2 c_3 c_4 c_5 c_6) (by decide) ?_
              refine lv_iconst (v := (-1)) hx hb d_X_person_89 (by decide) ?_
              exact zR.iret E hrt hlk (by unfold f_X_person; rw [if_neg c_1, if_neg c_2, if_neg c_3, if_neg c_4, if_neg c_5, if_neg c_6]) d_X_person_90
  · refine lv_iconst (v := (-1)) hx hb d_X_person_7 (by decide) ?_
    exact zR.iret E hrt hlk (by unfold f_X_person; rw [if_pos c_1]) d_X_person_8
end
section
def f_M_in  (v : Int32) (low : Int32) (high : Int32) : Int32 := (if v < low then 0 else (if high < v then 0 else 1))
set_option maxHeartbeats 4000000 in
set_option maxRecDepth 100000 in
theorem c_M_in (l : Launch) (D : va_G) (tys : List (ClassId × FieldType))  (v : Int32) (low : Int32) (high : Int32)  : zR l D tys y_M_in b_M_in 3 (some .boolean) 0 0 [.int v, .int low, .int high] ([]) (f_M_in v low high) := by
  refine zR.of (by decide) (Nat.le_of_ble_eq_true rfl) ?_
  intro p e s m below meth c0 ls E hrt hlk hN hK hP hl
  have hx := E.1
  have hb := E.2.1
  have hl : lv_has ls 3 [(0, .int v), (1, .int low), (2, .int high)] := hl
  refine lv_iload_n hx hb d_M_in_0 rfl (lv_at hl 0 rfl) ?_
  refine lv_iload_n hx hb d_M_in_1 rfl (lv_at hl 1 rfl) ?_
  refine lv_icmp_lt (tgt := 14) hx hb d_M_in_2 (by decide) (fun c_1 => ?_) (fun c_1 => ?_)
  · refine lv_iconst (v := 0) hx hb d_M_in_14 (by decide) ?_
    exact zR.zret E hrt hlk rfl (by unfold f_M_in; rw [if_pos c_1]) d_M_in_15
  · refine lv_iload_n hx hb d_M_in_5 rfl (lv_at hl 0 rfl) ?_
    refine lv_iload_n hx hb d_M_in_6 rfl (lv_at hl 2 rfl) ?_
    refine lv_icmp_gt (tgt := 14) hx hb d_M_in_7 (by decide) (fun c_2 => ?_) (fun c_2 => ?_)
    · refine lv_iconst (v := 0) hx hb d_M_in_14 (by decide) ?_
      exact zR.zret E hrt hlk rfl (by unfold f_M_in; rw [if_neg c_1, if_pos c_2]) d_M_in_15
    · refine lv_iconst (v := 1) hx hb d_M_in_10 (by decide) ?_
      refine lv_goto (tgt := 15) hx hb d_M_in_11 (by decide) ?_
      exact zR.zret E hrt hlk rfl (by unfold f_M_in; rw [if_neg c_1, if_neg c_2]) d_M_in_15
theorem in_eq (x lo hi : Int32) : f_M_in x lo hi = f_isWithin x lo hi := rfl
theorem b01_in (x lo hi : Int32) : f_M_in x lo hi = 0 ∨ f_M_in x lo hi = 1 := b01_isWithin x lo hi
def f_M_isPerson  (pr : Int32) : Int32 := (f_M_in pr 0 59)
set_option maxHeartbeats 4000000 in
set_option maxRecDepth 100000 in
theorem c_M_isPerson (l : Launch) (D : va_G) (tys : List (ClassId × FieldType))  (pr : Int32)  : zR l D tys y_M_isPerson b_M_isPerson 1 (some .boolean) 1 22 [.int pr] ([]) (f_M_isPerson pr) := by
  refine zR.of (by decide) (Nat.le_of_ble_eq_true rfl) ?_
  intro p e s m below meth c0 ls E hrt hlk hN hK hP hl
  have hx := E.1
  have hb := E.2.1
  have hl : lv_has ls 1 [(0, .int pr)] := hl
  refine lv_iload_n hx hb d_M_isPerson_0 rfl (lv_at hl 0 rfl) ?_
  refine lv_iconst (v := 0) hx hb d_M_isPerson_1 (by decide) ?_
  refine lv_bipush (v := 59) hx hb d_M_isPerson_2 (by decide) ?_
  refine z_rs (As := [.int pr, .int 0, .int 59]) (rest := []) E hN hK hl.1 (c_M_in l D tys pr 0 59) kz_M_68 rfl ⟨Nat.le_of_ble_eq_true rfl, Nat.le_of_ble_eq_true rfl⟩ rfl (Nat.le_of_ble_eq_true rfl) ⟨Nat.zero_le _, Nat.zero_le _⟩ d_M_isPerson_4 ?_
  exact zR.zret E hrt hlk (nar01 (b01_in _ _ _)) (by rfl) d_M_isPerson_7
def f_M_isUnit  (u : Int32) : Int32 := (f_M_in u 0 79)
set_option maxHeartbeats 4000000 in
set_option maxRecDepth 100000 in
theorem c_M_isUnit (l : Launch) (D : va_G) (tys : List (ClassId × FieldType))  (u : Int32)  : zR l D tys y_M_isUnit b_M_isUnit 1 (some .boolean) 1 22 [.int u] ([]) (f_M_isUnit u) := by
  refine zR.of (by decide) (Nat.le_of_ble_eq_true rfl) ?_
  intro p e s m below meth c0 ls E hrt hlk hN hK hP hl
  have hx := E.1
  have hb := E.2.1
  have hl : lv_has ls 1 [(0, .int u)] := hl
  refine lv_iload_n hx hb d_M_isUnit_0 rfl (lv_at hl 0 rfl) ?_
  refine lv_iconst (v := 0) hx hb d_M_isUnit_1 (by decide) ?_
  refine lv_bipush (v := 79) hx hb d_M_isUnit_2 (by decide) ?_
  refine z_rs (As := [.int u, .int 0, .int 79]) (rest := []) E hN hK hl.1 (c_M_in l D tys u 0 79) kz_M_68 rfl ⟨Nat.le_of_ble_eq_true rfl, Nat.le_of_ble_eq_true rfl⟩ rfl (Nat.le_of_ble_eq_true rfl) ⟨Nat.zero_le _, Nat.zero_le _⟩ d_M_isUnit_4 ?_
  exact zR.zret E hrt hlk (nar01 (b01_in _ _ _)) (by rfl) d_M_isUnit_7
theorem isPersonM (x : Int32) : f_M_isPerson x = f_isPerson x := rfl
theorem isUnitM (x : Int32) : f_M_isUnit x = f_isUnit x := rfl
theorem in_personM {x : Int32} (h : ¬ f_M_isPerson x = 0) : vp_in x 60 := in_person h
theorem in_unitM {x : Int32} (h : ¬ f_M_isUnit x = 0) : vp_in x 80 := in_unit h
theorem vp_lt {x : Int32} {n : Nat} (h : vp_in x n) : x.toNatClampNeg < n := Nat.not_le.mp fun q => h (Or.inr q)
theorem unit_lt {x : Int32} (h : ¬ f_M_isUnit x = 0) : x.toNatClampNeg < 80 := vp_lt (in_unitM h)
theorem in_hasM {c : Nat} {x : Int32} (hc : c ≤ 300) (h : ¬ f_M_in x 0 (nI c - 1) = 0) : vp_in x 300 := by
  obtain ⟨j, hj, rfl⟩ := pre1_in (by omega) h
  exact vp_in_nI (by omega) (by decide)
theorem ne300 {c : Nat} (hc : c ≤ 300) (h : ¬ nI c = 300) : c < 300 := by
  rcases Nat.lt_or_ge c 300 with q | q
  · exact q
  · have : c = 300 := by omega
    subst this
    exact absurd (by decide) h
theorem pos_n {n : Nat} (hn : n ≤ 60) (h : ¬ nI n ≤ 0) : (0 : Int32).toNatClampNeg < n := by
  rcases Nat.eq_zero_or_pos n with q | q
  · subst q
    exact absurd (by decide) h
  · exact q
def f_M_thrown (th : Int32)  : Int32 := th
set_option maxHeartbeats 4000000 in
set_option maxRecDepth 100000 in
theorem c_M_thrown (l : Launch) (D : va_G) (cI : ClassId) (a : Nat → Nat) (th : Int32) (nw : Int32) (k : Nat) (n : Nat) (c : Nat) (Z : Nat → Nat → Int32) (P : Nat → Nat → Int32) (U : Nat → Nat → Int32) (V : Nat → Nat → Int32)  (hk : k ≤ 20) (hn : n ≤ 60) (hc : c ≤ 300) : zR l D [(cI, .int)] y_M_thrown b_M_thrown 1 (some .int) 0 0 [.ref (a 0)] (wM a cI th nw (nI k) (nI n) (nI c) Z P U V) (f_M_thrown th) := by
  refine zR.of (by decide) (Nat.le_of_ble_eq_true rfl) ?_
  intro p e s m below meth c0 ls E hrt hlk hN hK hP hl
  have hx := E.1
  have hb := E.2.1
  have hl : lv_has ls 1 [(0, .ref (a 0))] := hl
  refine lv_aload_n hx hb d_M_thrown_0 rfl (lv_at hl 0 rfl) ?_
  refine z_get (v := .int th) E hK hP i_M 0 0 rfl rfl (by decide) kf_M_65 rfl d_M_thrown_1 ?_
  exact zR.iret E hrt hlk (by rfl) d_M_thrown_4
def f_M_isNow (nw : Int32) (t : Int32) : Int32 := (f_M_in t nw 1000000000)
set_option maxHeartbeats 4000000 in
set_option maxRecDepth 100000 in
theorem c_M_isNow (l : Launch) (D : va_G) (cI : ClassId) (a : Nat → Nat) (th : Int32) (nw : Int32) (k : Nat) (n : Nat) (c : Nat) (Z : Nat → Nat → Int32) (P : Nat → Nat → Int32) (U : Nat → Nat → Int32) (V : Nat → Nat → Int32) (t : Int32) (hk : k ≤ 20) (hn : n ≤ 60) (hc : c ≤ 300) : zR l D [(cI, .int)] y_M_isNow b_M_isNow 2 (some .boolean) 1 22 [.ref (a 0), .int t] (wM a cI th nw (nI k) (nI n) (nI c) Z P U V) (f_M_isNow nw t) := by
  refine zR.of (by decide) (Nat.le_of_ble_eq_true rfl) ?_
  intro p e s m below meth c0 ls E hrt hlk hN hK hP hl
  have hx := E.1
  have hb := E.2.1
  have hl : lv_has ls 2 [(0, .ref (a 0)), (1, .int t)] := hl
  refine lv_iload_n hx hb d_M_isNow_0 rfl (lv_at hl 1 rfl) ?_
  refine lv_aload_n hx hb d_M_isNow_1 rfl (lv_at hl 0 rfl) ?_
  refine z_get (v := .int nw) E hK hP i_M 0 1 rfl rfl (by decide) kf_M_72 rfl d_M_isNow_2 ?_
  refine lv_ldc (v := 1000000000) hx hb E.2.2.2.1 (E.2.2.2.2 _ kc_M_75) d_M_isNow_5 ?_
  refine z_rs (As := [.int t, .int nw, .int 1000000000]) (rest := []) E hN hK hl.1 (c_M_in l D [(cI, .int)] t nw 1000000000) kz_M_68 rfl ⟨Nat.le_of_ble_eq_true rfl, Nat.le_of_ble_eq_true rfl⟩ rfl (Nat.le_of_ble_eq_true rfl) ⟨Nat.zero_le _, Nat.zero_le _⟩ d_M_isNow_7 ?_
  exact zR.zret E hrt hlk (nar01 (b01_in _ _ _)) (by rfl) d_M_isNow_10
def f_M_seatOf_L (Z : Nat → Nat → Int32) (pr : Int32) : Nat → Nat → Int32
  | 0, k0 => (-1)
  | d + 1, k0 => (if (Z 0 k0) = pr then (nI k0) else (f_M_seatOf_L Z pr d (k0 + 1)))
theorem f_M_seatOf_L_0 (Z : Nat → Nat → Int32) (pr : Int32) (k0 : Nat)  : f_M_seatOf_L Z pr 0 k0  = (-1) := rfl
theorem f_M_seatOf_L_s (Z : Nat → Nat → Int32) (pr : Int32) (d k0 : Nat)  : f_M_seatOf_L Z pr (d + 1) k0  = (if (Z 0 k0) = pr then (nI k0) else (f_M_seatOf_L Z pr d (k0 + 1))) := rfl
def f_M_seatOf (k : Nat) (Z : Nat → Nat → Int32) (pr : Int32) : Int32 := (f_M_seatOf_L Z pr k 0)
set_option maxHeartbeats 4000000 in
set_option maxRecDepth 100000 in
theorem lp_M_seatOf (l : Launch) (D : va_G) (cI : ClassId) (a : Nat → Nat) (th : Int32) (nw : Int32) (k : Nat) (n : Nat) (c : Nat) (Z : Nat → Nat → Int32) (P : Nat → Nat → Int32) (U : Nat → Nat → Int32) (V : Nat → Nat → Int32) (pr : Int32) (hk : k ≤ 20) (hn : n ≤ 60) (hc : c ≤ 300) {p : Program} {e : Env} {s : State} {m : MethodId} {below : List Frame} {meth : Method} {c0 : Code} (E : CallFix p m c0 b_M_seatOf 3 s ([.ref (a 0), .int pr] : List Value).toArray zB y_M_seatOf.cls) (hrt : meth.sig.returnType = (some .int)) (hlk : meth.locks = false) (hN : zN s) (hK : va_K D vwCl [(cI, .int)] s) (hP : va_P D vwCl (wM a cI th nw (nI k) (nI n) (nI c) Z P U V) s.heap) :
    ∀ (d k0 : Nat) , k0 + d = k → ∀ r : Int32, f_M_seatOf_L Z pr d k0  = r → ∀ ls : Array Slot, lv_has ls 3 [(2, .int (nI k0)), (0, .ref (a 0)), (1, .int pr)] → W p l e { frames := 0, cells := 0, slots := 0, locals := 0 } s m ([.ref (a 0), .int pr] : List Value).toArray below meth c0 s.heap [] 0 0 (MQ below (QcRead r) ([.ref (a 0), .int pr] : List Value).toArray s 0 0 (fun _ => False)) (F0 m 2 ls []) := by
  have hx := E.1
  have hb := E.2.1
  intro d
  induction d with
  | zero =>
    intro k0  hkd r hr ls hl
    refine lv_iload_n hx hb d_M_seatOf_2 rfl (lv_at hl 0 rfl) ?_
    refine lv_aload_n hx hb d_M_seatOf_3 rfl (lv_at hl 1 rfl) ?_
    refine z_get (v := .int (nI k)) E hK hP i_M 0 2 rfl rfl (by decide) kf_M_61 rfl d_M_seatOf_4 ?_
    refine lv_icmp_ge (tgt := 28) hx hb d_M_seatOf_7 (by decide) (fun c_1 => ?_) (fun c_1 => absurd (nI_le (by omega) (by omega)) c_1)
    refine lv_iconst (v := (-1)) hx hb d_M_seatOf_28 (by decide) ?_
    exact zR.iret E hrt hlk (by rw [← hr, f_M_seatOf_L_0]) d_M_seatOf_29
  | succ d ih =>
    intro k0  hkd r hr ls hl
    refine lv_iload_n hx hb d_M_seatOf_2 rfl (lv_at hl 0 rfl) ?_
    refine lv_aload_n hx hb d_M_seatOf_3 rfl (lv_at hl 1 rfl) ?_
    refine z_get (v := .int (nI k)) E hK hP i_M 0 2 rfl rfl (by decide) kf_M_61 rfl d_M_seatOf_4 ?_
    refine lv_icmp_ge (tgt := 28) hx hb d_M_seatOf_7 (by decide) (fun c_2 => absurd c_2 (nI_ge (by omega) (by omega))) (fun c_2 => ?_)
    refine lv_aload_n hx hb d_M_seatOf_10 rfl (lv_at hl 1 rfl) ?_
    refine z_get (v := .ref (a 1)) E hK hP i_M 0 3 rfl rfl (by decide) kf_M_7 rfl d_M_seatOf_11 ?_
    refine lv_iload_n hx hb d_M_seatOf_14 rfl (lv_at hl 0 rfl) ?_
    refine z_aldN (f := Z 0) (j := k0) E hK hP 1 0 rfl rfl rfl (by omega) (by decide) d_M_seatOf_15 ?_
    refine lv_iload_n hx hb d_M_seatOf_16 rfl (lv_at hl 2 rfl) ?_
    refine lv_icmp_ne (tgt := 22) hx hb d_M_seatOf_17 (by decide) (fun c_3 => ?_) (fun c_3 => ?_)
    · refine lv_iinc (v := nI (k0 + 1)) (lv' := [(2, .int (nI (k0 + 1))), (0, .ref (a 0)), (1, .int pr)]) hx hb d_M_seatOf_22 hl (k := 0) rfl (nI_1 _) (by decide) rfl (fun ls hl => ?_)
      refine lv_goto (tgt := 2) hx hb d_M_seatOf_25 (by decide) ?_
      exact ih (k0 + 1)  (by omega) r (by rw [← hr, f_M_seatOf_L_s, if_neg c_3]) ls (lv_sub hl [0, 1, 2] rfl)
    · refine lv_iload_n hx hb d_M_seatOf_20 rfl (lv_at hl 0 rfl) ?_
      exact zR.iret E hrt hlk (by rw [← hr, f_M_seatOf_L_s, if_pos c_3]) d_M_seatOf_21
set_option maxHeartbeats 4000000 in
set_option maxRecDepth 100000 in
theorem c_M_seatOf (l : Launch) (D : va_G) (cI : ClassId) (a : Nat → Nat) (th : Int32) (nw : Int32) (k : Nat) (n : Nat) (c : Nat) (Z : Nat → Nat → Int32) (P : Nat → Nat → Int32) (U : Nat → Nat → Int32) (V : Nat → Nat → Int32) (pr : Int32) (hk : k ≤ 20) (hn : n ≤ 60) (hc : c ≤ 300) : zR l D [(cI, .int)] y_M_seatOf b_M_seatOf 3 (some .int) 0 0 [.ref (a 0), .int pr] (wM a cI th nw (nI k) (nI n) (nI c) Z P U V) (f_M_seatOf k Z pr) := by
  refine zR.of (by decide) (Nat.le_of_ble_eq_true rfl) ?_
  intro p e s m below meth c0 ls E hrt hlk hN hK hP hl
  have hx := E.1
  have hb := E.2.1
  have hl : lv_has ls 3 [(0, .ref (a 0)), (1, .int pr)] := hl
  refine lv_iconst (v := 0) hx hb d_M_seatOf_0 (by decide) ?_
  refine lv_istore_n (lv' := [(2, .int 0), (0, .ref (a 0)), (1, .int pr)]) hx hb d_M_seatOf_1 rfl hl (by decide) rfl (fun ls hl => ?_)
  exact lp_M_seatOf l D cI a th nw k n c Z P U V pr hk hn hc E hrt hlk hN hK hP k 0  (by omega) _ (by rfl) ls (by rw [nI_0]; exact lv_sub hl [0, 1, 2] rfl)
def f_M_waitOf_L (Z : Nat → Nat → Int32) (pr : Int32) : Nat → Nat → Int32
  | 0, k0 => (-1)
  | d + 1, k0 => (if (Z 1 k0) = pr then (nI k0) else (f_M_waitOf_L Z pr d (k0 + 1)))
theorem f_M_waitOf_L_0 (Z : Nat → Nat → Int32) (pr : Int32) (k0 : Nat)  : f_M_waitOf_L Z pr 0 k0  = (-1) := rfl
theorem f_M_waitOf_L_s (Z : Nat → Nat → Int32) (pr : Int32) (d k0 : Nat)  : f_M_waitOf_L Z pr (d + 1) k0  = (if (Z 1 k0) = pr then (nI k0) else (f_M_waitOf_L Z pr d (k0 + 1))) := rfl
def f_M_waitOf (n : Nat) (Z : Nat → Nat → Int32) (pr : Int32) : Int32 := (f_M_waitOf_L Z pr n 0)
set_option maxHeartbeats 4000000 in
set_option maxRecDepth 100000 in
theorem lp_M_waitOf (l : Launch) (D : va_G) (cI : ClassId) (a : Nat → Nat) (th : Int32) (nw : Int32) (k : Nat) (n : Nat) (c : Nat) (Z : Nat → Nat → Int32) (P : Nat → Nat → Int32) (U : Nat → Nat → Int32) (V : Nat → Nat → Int32) (pr : Int32) (hk : k ≤ 20) (hn : n ≤ 60) (hc : c ≤ 300) {p : Program} {e : Env} {s : State} {m : MethodId} {below : List Frame} {meth : Method} {c0 : Code} (E : CallFix p m c0 b_M_waitOf 3 s ([.ref (a 0), .int pr] : List Value).toArray zB y_M_waitOf.cls) (hrt : meth.sig.returnType = (some .int)) (hlk : meth.locks = false) (hN : zN s) (hK : va_K D vwCl [(cI, .int)] s) (hP : va_P D vwCl (wM a cI th nw (nI k) (nI n) (nI c) Z P U V) s.heap) :
    ∀ (d k0 : Nat) , k0 + d = n → ∀ r : Int32, f_M_waitOf_L Z pr d k0  = r → ∀ ls : Array Slot, lv_has ls 3 [(2, .int (nI k0)), (0, .ref (a 0)), (1, .int pr)] → W p l e { frames := 0, cells := 0, slots := 0, locals := 0 } s m ([.ref (a 0), .int pr] : List Value).toArray below meth c0 s.heap [] 0 0 (MQ below (QcRead r) ([.ref (a 0), .int pr] : List Value).toArray s 0 0 (fun _ => False)) (F0 m 2 ls []) := by
  have hx := E.1
  have hb := E.2.1
  intro d
  induction d with
  | zero =>
    intro k0  hkd r hr ls hl
    refine lv_iload_n hx hb d_M_waitOf_2 rfl (lv_at hl 0 rfl) ?_
    refine lv_aload_n hx hb d_M_waitOf_3 rfl (lv_at hl 1 rfl) ?_
    refine z_get (v := .int (nI n)) E hK hP i_M 0 4 rfl rfl (by decide) kf_M_76 rfl d_M_waitOf_4 ?_
    refine lv_icmp_ge (tgt := 28) hx hb d_M_waitOf_7 (by decide) (fun c_1 => ?_) (fun c_1 => absurd (nI_le (by omega) (by omega)) c_1)
    refine lv_iconst (v := (-1)) hx hb d_M_waitOf_28 (by decide) ?_
    exact zR.iret E hrt hlk (by rw [← hr, f_M_waitOf_L_0]) d_M_waitOf_29
  | succ d ih =>
    intro k0  hkd r hr ls hl
    refine lv_iload_n hx hb d_M_waitOf_2 rfl (lv_at hl 0 rfl) ?_
    refine lv_aload_n hx hb d_M_waitOf_3 rfl (lv_at hl 1 rfl) ?_
    refine z_get (v := .int (nI n)) E hK hP i_M 0 4 rfl rfl (by decide) kf_M_76 rfl d_M_waitOf_4 ?_
    refine lv_icmp_ge (tgt := 28) hx hb d_M_waitOf_7 (by decide) (fun c_2 => absurd c_2 (nI_ge (by omega) (by omega))) (fun c_2 => ?_)
    refine lv_aload_n hx hb d_M_waitOf_10 rfl (lv_at hl 1 rfl) ?_
    refine z_get (v := .ref (a 2)) E hK hP i_M 0 5 rfl rfl (by decide) kf_M_13 rfl d_M_waitOf_11 ?_
    refine lv_iload_n hx hb d_M_waitOf_14 rfl (lv_at hl 0 rfl) ?_
    refine z_aldN (f := Z 1) (j := k0) E hK hP 2 0 rfl rfl rfl (by omega) (by decide) d_M_waitOf_15 ?_
    refine lv_iload_n hx hb d_M_waitOf_16 rfl (lv_at hl 2 rfl) ?_
    refine lv_icmp_ne (tgt := 22) hx hb d_M_waitOf_17 (by decide) (fun c_3 => ?_) (fun c_3 => ?_)
    · refine lv_iinc (v := nI (k0 + 1)) (lv' := [(2, .int (nI (k0 + 1))), (0, .ref (a 0)), (1, .int pr)]) hx hb d_M_waitOf_22 hl (k := 0) rfl (nI_1 _) (by decide) rfl (fun ls hl => ?_)
      refine lv_goto (tgt := 2) hx hb d_M_waitOf_25 (by decide) ?_
      exact ih (k0 + 1)  (by omega) r (by rw [← hr, f_M_waitOf_L_s, if_neg c_3]) ls (lv_sub hl [0, 1, 2] rfl)
    · refine lv_iload_n hx hb d_M_waitOf_20 rfl (lv_at hl 0 rfl) ?_
      exact zR.iret E hrt hlk (by rw [← hr, f_M_waitOf_L_s, if_pos c_3]) d_M_waitOf_21
set_option maxHeartbeats 4000000 in
set_option maxRecDepth 100000 in
theorem c_M_waitOf (l : Launch) (D : va_G) (cI : ClassId) (a : Nat → Nat) (th : Int32) (nw : Int32) (k : Nat) (n : Nat) (c : Nat) (Z : Nat → Nat → Int32) (P : Nat → Nat → Int32) (U : Nat → Nat → Int32) (V : Nat → Nat → Int32) (pr : Int32) (hk : k ≤ 20) (hn : n ≤ 60) (hc : c ≤ 300) : zR l D [(cI, .int)] y_M_waitOf b_M_waitOf 3 (some .int) 0 0 [.ref (a 0), .int pr] (wM a cI th nw (nI k) (nI n) (nI c) Z P U V) (f_M_waitOf n Z pr) := by
  refine zR.of (by decide) (Nat.le_of_ble_eq_true rfl) ?_
  intro p e s m below meth c0 ls E hrt hlk hN hK hP hl
  have hx := E.1
  have hb := E.2.1
  have hl : lv_has ls 3 [(0, .ref (a 0)), (1, .int pr)] := hl
  refine lv_iconst (v := 0) hx hb d_M_waitOf_0 (by decide) ?_
  refine lv_istore_n (lv' := [(2, .int 0), (0, .ref (a 0)), (1, .int pr)]) hx hb d_M_waitOf_1 rfl hl (by decide) rfl (fun ls hl => ?_)
  exact lp_M_waitOf l D cI a th nw k n c Z P U V pr hk hn hc E hrt hlk hN hK hP n 0  (by omega) _ (by rfl) ls (by rw [nI_0]; exact lv_sub hl [0, 1, 2] rfl)
def f_M_has_L (U : Nat → Nat → Int32) (V : Nat → Nat → Int32) (pr : Int32) : Nat → Nat → Int32 → Int32
  | 0, k0, x2 => x2
  | d + 1, k0, x2 => (if (U 0 k0) = 2 then (if (V 0 (U 3 k0).toNatClampNeg) = pr then (f_M_has_L U V pr d (k0 + 1) (x2 + 1)) else (f_M_has_L U V pr d (k0 + 1) (x2 + 0))) else (f_M_has_L U V pr d (k0 + 1) (x2 + 0)))
theorem f_M_has_L_0 (U : Nat → Nat → Int32) (V : Nat → Nat → Int32) (pr : Int32) (k0 : Nat) (x2 : Int32) : f_M_has_L U V pr 0 k0 x2 = x2 := rfl
theorem f_M_has_L_s (U : Nat → Nat → Int32) (V : Nat → Nat → Int32) (pr : Int32) (d k0 : Nat) (x2 : Int32) : f_M_has_L U V pr (d + 1) k0 x2 = (if (U 0 k0) = 2 then (if (V 0 (U 3 k0).toNatClampNeg) = pr then (f_M_has_L U V pr d (k0 + 1) (x2 + 1)) else (f_M_has_L U V pr d (k0 + 1) (x2 + 0))) else (f_M_has_L U V pr d (k0 + 1) (x2 + 0))) := rfl
def f_M_has (U : Nat → Nat → Int32) (V : Nat → Nat → Int32) (pr : Int32) : Int32 := (f_M_has_L U V pr 80 0 0)
set_option maxHeartbeats 4000000 in
set_option maxRecDepth 100000 in
theorem lp_M_has (l : Launch) (D : va_G) (cI : ClassId) (a : Nat → Nat) (th : Int32) (nw : Int32) (k : Nat) (n : Nat) (c : Nat) (Z : Nat → Nat → Int32) (P : Nat → Nat → Int32) (U : Nat → Nat → Int32) (V : Nat → Nat → Int32) (pr : Int32) (hk : k ≤ 20) (hn : n ≤ 60) (hc : c ≤ 300) (hU : ∀ u, u < 80 → (U 0 u = 1 ∨ U 0 u = 2) → vp_in (U 3 u) 300) {p : Program} {e : Env} {s : State} {m : MethodId} {below : List Frame} {meth : Method} {c0 : Code} (E : CallFix p m c0 b_M_has 4 s ([.ref (a 0), .int pr] : List Value).toArray zB y_M_has.cls) (hrt : meth.sig.returnType = (some .int)) (hlk : meth.locks = false) (hN : zN s) (hK : va_K D vwCl [(cI, .int)] s) (hP : va_P D vwCl (wM a cI th nw (nI k) (nI n) (nI c) Z P U V) s.heap) :
    ∀ (d k0 : Nat) (x2 : Int32), k0 + d = 80 → ∀ r : Int32, f_M_has_L U V pr d k0 x2 = r → ∀ ls : Array Slot, lv_has ls 4 [(3, .int (nI k0)), (2, .int x2), (0, .ref (a 0)), (1, .int pr)] → W p l e { frames := 0, cells := 0, slots := 0, locals := 0 } s m ([.ref (a 0), .int pr] : List Value).toArray below meth c0 s.heap [] 0 0 (MQ below (QcRead r) ([.ref (a 0), .int pr] : List Value).toArray s 0 0 (fun _ => False)) (F0 m 4 ls []) := by
  have hx := E.1
  have hb := E.2.1
  intro d
  induction d with
  | zero =>
    intro k0 x2 hkd r hr ls hl
    refine lv_iload_n hx hb d_M_has_4 rfl (lv_at hl 0 rfl) ?_
    refine lv_bipush (v := (nI 80)) hx hb d_M_has_5 (by decide) ?_
    refine lv_icmp_ge (tgt := 49) hx hb d_M_has_7 (by decide) (fun c_1 => ?_) (fun c_1 => absurd (nI_le (by omega) (by omega)) c_1)
    refine lv_iload_n hx hb d_M_has_49 rfl (lv_at hl 1 rfl) ?_
    exact zR.iret E hrt hlk (by rw [← hr, f_M_has_L_0]) d_M_has_50
  | succ d ih =>
    intro k0 x2 hkd r hr ls hl
    refine lv_iload_n hx hb d_M_has_4 rfl (lv_at hl 0 rfl) ?_
    refine lv_bipush (v := (nI 80)) hx hb d_M_has_5 (by decide) ?_
    refine lv_icmp_ge (tgt := 49) hx hb d_M_has_7 (by decide) (fun c_2 => absurd c_2 (nI_ge (by omega) (by omega))) (fun c_2 => ?_)
    refine lv_iload_n hx hb d_M_has_10 rfl (lv_at hl 1 rfl) ?_
    refine lv_aload_n hx hb d_M_has_11 rfl (lv_at hl 2 rfl) ?_
    refine z_get (v := .ref (a 8)) E hK hP i_M 0 11 rfl rfl (by decide) kf_M_31 rfl d_M_has_12 ?_
    refine lv_iload_n hx hb d_M_has_15 rfl (lv_at hl 0 rfl) ?_
    refine z_aldN (f := U 0) (j := k0) E hK hP 8 0 rfl rfl rfl (by omega) (by decide) d_M_has_16 ?_
    refine lv_iconst (v := 2) hx hb d_M_has_17 (by decide) ?_
    refine lv_icmp_ne (tgt := 40) hx hb d_M_has_18 (by decide) (fun c_3 => ?_) (fun c_3 => ?_)
    · refine lv_iconst (v := 0) hx hb d_M_has_40 (by decide) ?_
      refine lv_iadd hx hb d_M_has_41 ?_
      refine lv_istore_n (lv' := [(2, .int (x2 + 0)), (3, .int (nI k0)), (0, .ref (a 0)), (1, .int pr)]) hx hb d_M_has_42 rfl hl (by decide) rfl (fun ls hl => ?_)
      refine lv_iinc (v := nI (k0 + 1)) (lv' := [(3, .int (nI (k0 + 1))), (2, .int (x2 + 0)), (0, .ref (a 0)), (1, .int pr)]) hx hb d_M_has_43 hl (k := 1) rfl (nI_1 _) (by decide) rfl (fun ls hl => ?_)
      refine lv_goto (tgt := 4) hx hb d_M_has_46 (by decide) ?_
      exact ih (k0 + 1) (x2 + 0) (by omega) r (by rw [← hr, f_M_has_L_s, if_neg c_3]) ls (lv_sub hl [0, 1, 2, 3] rfl)
    · refine lv_aload_n hx hb d_M_has_21 rfl (lv_at hl 2 rfl) ?_
      refine z_get (v := .ref (a 12)) E hK hP i_M 0 16 rfl rfl (by decide) kf_M_43 rfl d_M_has_22 ?_
      refine lv_aload_n hx hb d_M_has_25 rfl (lv_at hl 2 rfl) ?_
      refine z_get (v := .ref (a 11)) E hK hP i_M 0 14 rfl rfl (by decide) kf_M_40 rfl d_M_has_26 ?_
      refine lv_iload_n hx hb d_M_has_29 rfl (lv_at hl 0 rfl) ?_
      refine z_aldN (f := U 3) (j := k0) E hK hP 11 0 rfl rfl rfl (by omega) (by decide) d_M_has_30 ?_
      refine z_ald (f := V 0) E hK hP 12 0 rfl rfl (hU _ (by omega) (Or.inr c_3)) d_M_has_31 ?_
      refine lv_iload_n hx hb d_M_has_32 rfl (lv_at hl 3 rfl) ?_
      refine lv_icmp_ne (tgt := 40) hx hb d_M_has_33 (by decide) (fun c_4 => ?_) (fun c_4 => ?_)
      · refine lv_iconst (v := 0) hx hb d_M_has_40 (by decide) ?_
        refine lv_iadd hx hb d_M_has_41 ?_
        refine lv_istore_n (lv' := [(2, .int (x2 + 0)), (3, .int (nI k0)), (0, .ref (a 0)), (1, .int pr)]) hx hb d_M_has_42 rfl hl (by decide) rfl (fun ls hl => ?_)
        refine lv_iinc (v := nI (k0 + 1)) (lv' := [(3, .int (nI (k0 + 1))), (2, .int (x2 + 0)), (0, .ref (a 0)), (1, .int pr)]) hx hb d_M_has_43 hl (k := 1) rfl (nI_1 _) (by decide) rfl (fun ls hl => ?_)
        refine lv_goto (tgt := 4) hx hb d_M_has_46 (by decide) ?_
        exact ih (k0 + 1) (x2 + 0) (by omega) r (by rw [← hr, f_M_has_L_s, if_pos c_3, if_neg c_4]) ls (lv_sub hl [0, 1, 2, 3] rfl)
      · refine lv_iconst (v := 1) hx hb d_M_has_36 (by decide) ?_
        refine lv_goto (tgt := 41) hx hb d_M_has_37 (by decide) ?_
        refine lv_iadd hx hb d_M_has_41 ?_
        refine lv_istore_n (lv' := [(2, .int (x2 + 1)), (3, .int (nI k0)), (0, .ref (a 0)), (1, .int pr)]) hx hb d_M_has_42 rfl hl (by decide) rfl (fun ls hl => ?_)
        refine lv_iinc (v := nI (k0 + 1)) (lv' := [(3, .int (nI (k0 + 1))), (2, .int (x2 + 1)), (0, .ref (a 0)), (1, .int pr)]) hx hb d_M_has_43 hl (k := 1) rfl (nI_1 _) (by decide) rfl (fun ls hl => ?_)
        refine lv_goto (tgt := 4) hx hb d_M_has_46 (by decide) ?_
        exact ih (k0 + 1) (x2 + 1) (by omega) r (by rw [← hr, f_M_has_L_s, if_pos c_3, if_pos c_4]) ls (lv_sub hl [0, 1, 2, 3] rfl)
set_option maxHeartbeats 4000000 in
set_option maxRecDepth 100000 in
theorem c_M_has (l : Launch) (D : va_G) (cI : ClassId) (a : Nat → Nat) (th : Int32) (nw : Int32) (k : Nat) (n : Nat) (c : Nat) (Z : Nat → Nat → Int32) (P : Nat → Nat → Int32) (U : Nat → Nat → Int32) (V : Nat → Nat → Int32) (pr : Int32) (hk : k ≤ 20) (hn : n ≤ 60) (hc : c ≤ 300) (hU : ∀ u, u < 80 → (U 0 u = 1 ∨ U 0 u = 2) → vp_in (U 3 u) 300) : zR l D [(cI, .int)] y_M_has b_M_has 4 (some .int) 0 0 [.ref (a 0), .int pr] (wM a cI th nw (nI k) (nI n) (nI c) Z P U V) (f_M_has U V pr) := by
  refine zR.of (by decide) (Nat.le_of_ble_eq_true rfl) ?_
  intro p e s m below meth c0 ls E hrt hlk hN hK hP hl
  have hx := E.1
  have hb := E.2.1
  have hl : lv_has ls 4 [(0, .ref (a 0)), (1, .int pr)] := hl
  refine lv_iconst (v := 0) hx hb d_M_has_0 (by decide) ?_
  refine lv_istore_n (lv' := [(2, .int 0), (0, .ref (a 0)), (1, .int pr)]) hx hb d_M_has_1 rfl hl (by decide) rfl (fun ls hl => ?_)
  refine lv_iconst (v := 0) hx hb d_M_has_2 (by decide) ?_
  refine lv_istore_n (lv' := [(3, .int 0), (2, .int 0), (0, .ref (a 0)), (1, .int pr)]) hx hb d_M_has_3 rfl hl (by decide) rfl (fun ls hl => ?_)
  exact lp_M_has l D cI a th nw k n c Z P U V pr hk hn hc hU E hrt hlk hN hK hP 80 0 0 (by omega) _ (by rfl) ls (by rw [nI_0]; exact lv_sub hl [0, 1, 2, 3] rfl)
def f_M_lives (V : Nat → Nat → Int32) (i : Int32) : Int32 := (if 3 ≤ (V 2 i.toNatClampNeg) then 0 else 1)
set_option maxHeartbeats 4000000 in
set_option maxRecDepth 100000 in
theorem c_M_lives (l : Launch) (D : va_G) (cI : ClassId) (a : Nat → Nat) (th : Int32) (nw : Int32) (k : Nat) (n : Nat) (c : Nat) (Z : Nat → Nat → Int32) (P : Nat → Nat → Int32) (U : Nat → Nat → Int32) (V : Nat → Nat → Int32) (i : Int32) (hk : k ≤ 20) (hn : n ≤ 60) (hc : c ≤ 300) (hi : vp_in i 300) : zR l D [(cI, .int)] y_M_lives b_M_lives 2 (some .boolean) 0 0 [.ref (a 0), .int i] (wM a cI th nw (nI k) (nI n) (nI c) Z P U V) (f_M_lives V i) := by
  refine zR.of (by decide) (Nat.le_of_ble_eq_true rfl) ?_
  intro p e s m below meth c0 ls E hrt hlk hN hK hP hl
  have hx := E.1
  have hb := E.2.1
  have hl : lv_has ls 2 [(0, .ref (a 0)), (1, .int i)] := hl
  refine lv_aload_n hx hb d_M_lives_0 rfl (lv_at hl 0 rfl) ?_
  refine z_get (v := .ref (a 14)) E hK hP i_M 0 18 rfl rfl (by decide) kf_M_49 rfl d_M_lives_1 ?_
  refine lv_iload_n hx hb d_M_lives_4 rfl (lv_at hl 1 rfl) ?_
  refine z_ald (f := V 2) E hK hP 14 0 rfl rfl hi d_M_lives_5 ?_
  refine lv_iconst (v := 3) hx hb d_M_lives_6 (by decide) ?_
  refine lv_icmp_ge (tgt := 14) hx hb d_M_lives_7 (by decide) (fun c_1 => ?_) (fun c_1 => ?_)
  · refine lv_iconst (v := 0) hx hb d_M_lives_14 (by decide) ?_
    exact zR.zret E hrt hlk rfl (by unfold f_M_lives; rw [if_pos c_1]) d_M_lives_15
  · refine lv_iconst (v := 1) hx hb d_M_lives_10 (by decide) ?_
    refine lv_goto (tgt := 15) hx hb d_M_lives_11 (by decide) ?_
    exact zR.zret E hrt hlk rfl (by unfold f_M_lives; rw [if_neg c_1]) d_M_lives_15
def f_M_living_L (V : Nat → Nat → Int32) (pr : Int32) : Nat → Nat → Int32 → Int32
  | 0, k0, x2 => x2
  | d + 1, k0, x2 => (if (V 0 k0) = pr then (if (f_M_lives V (nI k0)) = 0 then (f_M_living_L V pr d (k0 + 1) (x2 + 0)) else (f_M_living_L V pr d (k0 + 1) (x2 + 1))) else (f_M_living_L V pr d (k0 + 1) (x2 + 0)))
theorem f_M_living_L_0 (V : Nat → Nat → Int32) (pr : Int32) (k0 : Nat) (x2 : Int32) : f_M_living_L V pr 0 k0 x2 = x2 := rfl
theorem f_M_living_L_s (V : Nat → Nat → Int32) (pr : Int32) (d k0 : Nat) (x2 : Int32) : f_M_living_L V pr (d + 1) k0 x2 = (if (V 0 k0) = pr then (if (f_M_lives V (nI k0)) = 0 then (f_M_living_L V pr d (k0 + 1) (x2 + 0)) else (f_M_living_L V pr d (k0 + 1) (x2 + 1))) else (f_M_living_L V pr d (k0 + 1) (x2 + 0))) := rfl
def f_M_living (c : Nat) (V : Nat → Nat → Int32) (pr : Int32) : Int32 := (f_M_living_L V pr c 0 0)
set_option maxHeartbeats 4000000 in
set_option maxRecDepth 100000 in
theorem lp_M_living (l : Launch) (D : va_G) (cI : ClassId) (a : Nat → Nat) (th : Int32) (nw : Int32) (k : Nat) (n : Nat) (c : Nat) (Z : Nat → Nat → Int32) (P : Nat → Nat → Int32) (U : Nat → Nat → Int32) (V : Nat → Nat → Int32) (pr : Int32) (hk : k ≤ 20) (hn : n ≤ 60) (hc : c ≤ 300) {p : Program} {e : Env} {s : State} {m : MethodId} {below : List Frame} {meth : Method} {c0 : Code} (E : CallFix p m c0 b_M_living 4 s ([.ref (a 0), .int pr] : List Value).toArray zB y_M_living.cls) (hrt : meth.sig.returnType = (some .int)) (hlk : meth.locks = false) (hN : zN s) (hK : va_K D vwCl [(cI, .int)] s) (hP : va_P D vwCl (wM a cI th nw (nI k) (nI n) (nI c) Z P U V) s.heap) :
    ∀ (d k0 : Nat) (x2 : Int32), k0 + d = c → ∀ r : Int32, f_M_living_L V pr d k0 x2 = r → ∀ ls : Array Slot, lv_has ls 4 [(3, .int (nI k0)), (2, .int x2), (0, .ref (a 0)), (1, .int pr)] → W p l e { frames := 1, cells := 0, slots := 0, locals := 21 } s m ([.ref (a 0), .int pr] : List Value).toArray below meth c0 s.heap [] 0 0 (MQ below (QcRead r) ([.ref (a 0), .int pr] : List Value).toArray s 0 0 (fun _ => False)) (F0 m 4 ls []) := by
  have hx := E.1
  have hb := E.2.1
  intro d
  induction d with
  | zero =>
    intro k0 x2 hkd r hr ls hl
    refine lv_iload_n hx hb d_M_living_4 rfl (lv_at hl 0 rfl) ?_
    refine lv_aload_n hx hb d_M_living_5 rfl (lv_at hl 2 rfl) ?_
    refine z_get (v := .int (nI c)) E hK hP i_M 0 15 rfl rfl (by decide) kf_M_97 rfl d_M_living_6 ?_
    refine lv_icmp_ge (tgt := 44) hx hb d_M_living_9 (by decide) (fun c_1 => ?_) (fun c_1 => absurd (nI_le (by omega) (by omega)) c_1)
    refine lv_iload_n hx hb d_M_living_44 rfl (lv_at hl 1 rfl) ?_
    exact zR.iret E hrt hlk (by rw [← hr, f_M_living_L_0]) d_M_living_45
  | succ d ih =>
    intro k0 x2 hkd r hr ls hl
    refine lv_iload_n hx hb d_M_living_4 rfl (lv_at hl 0 rfl) ?_
    refine lv_aload_n hx hb d_M_living_5 rfl (lv_at hl 2 rfl) ?_
    refine z_get (v := .int (nI c)) E hK hP i_M 0 15 rfl rfl (by decide) kf_M_97 rfl d_M_living_6 ?_
    refine lv_icmp_ge (tgt := 44) hx hb d_M_living_9 (by decide) (fun c_2 => absurd c_2 (nI_ge (by omega) (by omega))) (fun c_2 => ?_)
    refine lv_iload_n hx hb d_M_living_12 rfl (lv_at hl 1 rfl) ?_
    refine lv_aload_n hx hb d_M_living_13 rfl (lv_at hl 2 rfl) ?_
    refine z_get (v := .ref (a 12)) E hK hP i_M 0 16 rfl rfl (by decide) kf_M_43 rfl d_M_living_14 ?_
    refine lv_iload_n hx hb d_M_living_17 rfl (lv_at hl 0 rfl) ?_
    refine z_aldN (f := V 0) (j := k0) E hK hP 12 0 rfl rfl rfl (by omega) (by decide) d_M_living_18 ?_
    refine lv_iload_n hx hb d_M_living_19 rfl (lv_at hl 3 rfl) ?_
    refine lv_icmp_ne (tgt := 35) hx hb d_M_living_20 (by decide) (fun c_3 => ?_) (fun c_3 => ?_)
    · refine lv_iconst (v := 0) hx hb d_M_living_35 (by decide) ?_
      refine lv_iadd hx hb d_M_living_36 ?_
      refine lv_istore_n (lv' := [(2, .int (x2 + 0)), (3, .int (nI k0)), (0, .ref (a 0)), (1, .int pr)]) hx hb d_M_living_37 rfl hl (by decide) rfl (fun ls hl => ?_)
      refine lv_iinc (v := nI (k0 + 1)) (lv' := [(3, .int (nI (k0 + 1))), (2, .int (x2 + 0)), (0, .ref (a 0)), (1, .int pr)]) hx hb d_M_living_38 hl (k := 1) rfl (nI_1 _) (by decide) rfl (fun ls hl => ?_)
      refine lv_goto (tgt := 4) hx hb d_M_living_41 (by decide) ?_
      exact ih (k0 + 1) (x2 + 0) (by omega) r (by rw [← hr, f_M_living_L_s, if_neg c_3]) ls (lv_sub hl [0, 1, 2, 3] rfl)
    · refine lv_aload_n hx hb d_M_living_23 rfl (lv_at hl 2 rfl) ?_
      refine lv_iload_n hx hb d_M_living_24 rfl (lv_at hl 0 rfl) ?_
      refine z_rv (As := [.int (nI k0)]) (rest := [.int x2]) E hN hK hP hl.1 (c_M_lives l D cI a th nw k n c Z P U V (nI k0) hk hn hc (vp_in_nI (by omega) (by decide))) [0, 1, 2, 3, 4, 5, 6, 7, 8, 9, 10, 11, 12, 13, 14, 15, 16, 17] rfl 0 rfl rfl kz_M_100 rfl ⟨Nat.le_of_ble_eq_true rfl, Nat.le_of_ble_eq_true rfl⟩ rfl (Nat.le_of_ble_eq_true rfl) ⟨Nat.zero_le _, Nat.zero_le _⟩ d_M_living_25 ?_
      refine lv_if_eq (tgt := 35) hx hb d_M_living_28 (by decide) (fun c_4 => ?_) (fun c_4 => ?_)
      · refine lv_iconst (v := 0) hx hb d_M_living_35 (by decide) ?_
        refine lv_iadd hx hb d_M_living_36 ?_
        refine lv_istore_n (lv' := [(2, .int (x2 + 0)), (3, .int (nI k0)), (0, .ref (a 0)), (1, .int pr)]) hx hb d_M_living_37 rfl hl (by decide) rfl (fun ls hl => ?_)
        refine lv_iinc (v := nI (k0 + 1)) (lv' := [(3, .int (nI (k0 + 1))), (2, .int (x2 + 0)), (0, .ref (a 0)), (1, .int pr)]) hx hb d_M_living_38 hl (k := 1) rfl (nI_1 _) (by decide) rfl (fun ls hl => ?_)
        refine lv_goto (tgt := 4) hx hb d_M_living_41 (by decide) ?_
        exact ih (k0 + 1) (x2 + 0) (by omega) r (by rw [← hr, f_M_living_L_s, if_pos c_3, if_pos c_4]) ls (lv_sub hl [0, 1, 2, 3] rfl)
      · refine lv_iconst (v := 1) hx hb d_M_living_31 (by decide) ?_
        refine lv_goto (tgt := 36) hx hb d_M_living_32 (by decide) ?_
        refine lv_iadd hx hb d_M_living_36 ?_
        refine lv_istore_n (lv' := [(2, .int (x2 + 1)), (3, .int (nI k0)), (0, .ref (a 0)), (1, .int pr)]) hx hb d_M_living_37 rfl hl (by decide) rfl (fun ls hl => ?_)
        refine lv_iinc (v := nI (k0 + 1)) (lv' := [(3, .int (nI (k0 + 1))), (2, .int (x2 + 1)), (0, .ref (a 0)), (1, .int pr)]) hx hb d_M_living_38 hl (k := 1) rfl (nI_1 _) (by decide) rfl (fun ls hl => ?_)
        refine lv_goto (tgt := 4) hx hb d_M_living_41 (by decide) ?_
        exact ih (k0 + 1) (x2 + 1) (by omega) r (by rw [← hr, f_M_living_L_s, if_pos c_3, if_neg c_4]) ls (lv_sub hl [0, 1, 2, 3] rfl)
set_option maxHeartbeats 4000000 in
set_option maxRecDepth 100000 in
theorem c_M_living (l : Launch) (D : va_G) (cI : ClassId) (a : Nat → Nat) (th : Int32) (nw : Int32) (k : Nat) (n : Nat) (c : Nat) (Z : Nat → Nat → Int32) (P : Nat → Nat → Int32) (U : Nat → Nat → Int32) (V : Nat → Nat → Int32) (pr : Int32) (hk : k ≤ 20) (hn : n ≤ 60) (hc : c ≤ 300) : zR l D [(cI, .int)] y_M_living b_M_living 4 (some .int) 1 21 [.ref (a 0), .int pr] (wM a cI th nw (nI k) (nI n) (nI c) Z P U V) (f_M_living c V pr) := by
  refine zR.of (by decide) (Nat.le_of_ble_eq_true rfl) ?_
  intro p e s m below meth c0 ls E hrt hlk hN hK hP hl
  have hx := E.1
  have hb := E.2.1
  have hl : lv_has ls 4 [(0, .ref (a 0)), (1, .int pr)] := hl
  refine lv_iconst (v := 0) hx hb d_M_living_0 (by decide) ?_
  refine lv_istore_n (lv' := [(2, .int 0), (0, .ref (a 0)), (1, .int pr)]) hx hb d_M_living_1 rfl hl (by decide) rfl (fun ls hl => ?_)
  refine lv_iconst (v := 0) hx hb d_M_living_2 (by decide) ?_
  refine lv_istore_n (lv' := [(3, .int 0), (2, .int 0), (0, .ref (a 0)), (1, .int pr)]) hx hb d_M_living_3 rfl hl (by decide) rfl (fun ls hl => ?_)
  exact lp_M_living l D cI a th nw k n c Z P U V pr hk hn hc E hrt hlk hN hK hP c 0 0 (by omega) _ (by rfl) ls (by rw [nI_0]; exact lv_sub hl [0, 1, 2, 3] rfl)
def f_M_ahead_L (V : Nat → Nat → Int32) (u : Int32) : Nat → Nat → Int32
  | 0, k0 => (-1)
  | d + 1, k0 => (if (V 1 k0) = u then (if (V 2 k0) = 0 then (nI k0) else (f_M_ahead_L V u d (k0 + 1))) else (f_M_ahead_L V u d (k0 + 1)))
theorem f_M_ahead_L_0 (V : Nat → Nat → Int32) (u : Int32) (k0 : Nat)  : f_M_ahead_L V u 0 k0  = (-1) := rfl
theorem f_M_ahead_L_s (V : Nat → Nat → Int32) (u : Int32) (d k0 : Nat)  : f_M_ahead_L V u (d + 1) k0  = (if (V 1 k0) = u then (if (V 2 k0) = 0 then (nI k0) else (f_M_ahead_L V u d (k0 + 1))) else (f_M_ahead_L V u d (k0 + 1))) := rfl
def f_M_ahead (c : Nat) (V : Nat → Nat → Int32) (u : Int32) : Int32 := (f_M_ahead_L V u c 0)
set_option maxHeartbeats 4000000 in
set_option maxRecDepth 100000 in
theorem lp_M_ahead (l : Launch) (D : va_G) (cI : ClassId) (a : Nat → Nat) (th : Int32) (nw : Int32) (k : Nat) (n : Nat) (c : Nat) (Z : Nat → Nat → Int32) (P : Nat → Nat → Int32) (U : Nat → Nat → Int32) (V : Nat → Nat → Int32) (u : Int32) (hk : k ≤ 20) (hn : n ≤ 60) (hc : c ≤ 300) {p : Program} {e : Env} {s : State} {m : MethodId} {below : List Frame} {meth : Method} {c0 : Code} (E : CallFix p m c0 b_M_ahead 3 s ([.ref (a 0), .int u] : List Value).toArray zB y_M_ahead.cls) (hrt : meth.sig.returnType = (some .int)) (hlk : meth.locks = false) (hN : zN s) (hK : va_K D vwCl [(cI, .int)] s) (hP : va_P D vwCl (wM a cI th nw (nI k) (nI n) (nI c) Z P U V) s.heap) :
    ∀ (d k0 : Nat) , k0 + d = c → ∀ r : Int32, f_M_ahead_L V u d k0  = r → ∀ ls : Array Slot, lv_has ls 3 [(2, .int (nI k0)), (0, .ref (a 0)), (1, .int u)] → W p l e { frames := 0, cells := 0, slots := 0, locals := 0 } s m ([.ref (a 0), .int u] : List Value).toArray below meth c0 s.heap [] 0 0 (MQ below (QcRead r) ([.ref (a 0), .int u] : List Value).toArray s 0 0 (fun _ => False)) (F0 m 2 ls []) := by
  have hx := E.1
  have hb := E.2.1
  intro d
  induction d with
  | zero =>
    intro k0  hkd r hr ls hl
    refine lv_iload_n hx hb d_M_ahead_2 rfl (lv_at hl 0 rfl) ?_
    refine lv_aload_n hx hb d_M_ahead_3 rfl (lv_at hl 1 rfl) ?_
    refine z_get (v := .int (nI c)) E hK hP i_M 0 15 rfl rfl (by decide) kf_M_97 rfl d_M_ahead_4 ?_
    refine lv_icmp_ge (tgt := 37) hx hb d_M_ahead_7 (by decide) (fun c_1 => ?_) (fun c_1 => absurd (nI_le (by omega) (by omega)) c_1)
    refine lv_iconst (v := (-1)) hx hb d_M_ahead_37 (by decide) ?_
    exact zR.iret E hrt hlk (by rw [← hr, f_M_ahead_L_0]) d_M_ahead_38
  | succ d ih =>
    intro k0  hkd r hr ls hl
    refine lv_iload_n hx hb d_M_ahead_2 rfl (lv_at hl 0 rfl) ?_
    refine lv_aload_n hx hb d_M_ahead_3 rfl (lv_at hl 1 rfl) ?_
    refine z_get (v := .int (nI c)) E hK hP i_M 0 15 rfl rfl (by decide) kf_M_97 rfl d_M_ahead_4 ?_
    refine lv_icmp_ge (tgt := 37) hx hb d_M_ahead_7 (by decide) (fun c_2 => absurd c_2 (nI_ge (by omega) (by omega))) (fun c_2 => ?_)
    refine lv_aload_n hx hb d_M_ahead_10 rfl (lv_at hl 1 rfl) ?_
    refine z_get (v := .ref (a 13)) E hK hP i_M 0 17 rfl rfl (by decide) kf_M_46 rfl d_M_ahead_11 ?_
    refine lv_iload_n hx hb d_M_ahead_14 rfl (lv_at hl 0 rfl) ?_
    refine z_aldN (f := V 1) (j := k0) E hK hP 13 0 rfl rfl rfl (by omega) (by decide) d_M_ahead_15 ?_
    refine lv_iload_n hx hb d_M_ahead_16 rfl (lv_at hl 2 rfl) ?_
    refine lv_icmp_ne (tgt := 31) hx hb d_M_ahead_17 (by decide) (fun c_3 => ?_) (fun c_3 => ?_)
    · refine lv_iinc (v := nI (k0 + 1)) (lv' := [(2, .int (nI (k0 + 1))), (0, .ref (a 0)), (1, .int u)]) hx hb d_M_ahead_31 hl (k := 0) rfl (nI_1 _) (by decide) rfl (fun ls hl => ?_)
      refine lv_goto (tgt := 2) hx hb d_M_ahead_34 (by decide) ?_
      exact ih (k0 + 1)  (by omega) r (by rw [← hr, f_M_ahead_L_s, if_neg c_3]) ls (lv_sub hl [0, 1, 2] rfl)
    · refine lv_aload_n hx hb d_M_ahead_20 rfl (lv_at hl 1 rfl) ?_
      refine z_get (v := .ref (a 14)) E hK hP i_M 0 18 rfl rfl (by decide) kf_M_49 rfl d_M_ahead_21 ?_
      refine lv_iload_n hx hb d_M_ahead_24 rfl (lv_at hl 0 rfl) ?_
      refine z_aldN (f := V 2) (j := k0) E hK hP 14 0 rfl rfl rfl (by omega) (by decide) d_M_ahead_25 ?_
      refine lv_if_ne (tgt := 31) hx hb d_M_ahead_26 (by decide) (fun c_4 => ?_) (fun c_4 => ?_)
      · refine lv_iinc (v := nI (k0 + 1)) (lv' := [(2, .int (nI (k0 + 1))), (0, .ref (a 0)), (1, .int u)]) hx hb d_M_ahead_31 hl (k := 0) rfl (nI_1 _) (by decide) rfl (fun ls hl => ?_)
        refine lv_goto (tgt := 2) hx hb d_M_ahead_34 (by decide) ?_
        exact ih (k0 + 1)  (by omega) r (by rw [← hr, f_M_ahead_L_s, if_pos c_3, if_neg c_4]) ls (lv_sub hl [0, 1, 2] rfl)
      · refine lv_iload_n hx hb d_M_ahead_29 rfl (lv_at hl 0 rfl) ?_
        exact zR.iret E hrt hlk (by rw [← hr, f_M_ahead_L_s, if_pos c_3, if_pos c_4]) d_M_ahead_30
set_option maxHeartbeats 4000000 in
set_option maxRecDepth 100000 in
theorem c_M_ahead (l : Launch) (D : va_G) (cI : ClassId) (a : Nat → Nat) (th : Int32) (nw : Int32) (k : Nat) (n : Nat) (c : Nat) (Z : Nat → Nat → Int32) (P : Nat → Nat → Int32) (U : Nat → Nat → Int32) (V : Nat → Nat → Int32) (u : Int32) (hk : k ≤ 20) (hn : n ≤ 60) (hc : c ≤ 300) : zR l D [(cI, .int)] y_M_ahead b_M_ahead 3 (some .int) 0 0 [.ref (a 0), .int u] (wM a cI th nw (nI k) (nI n) (nI c) Z P U V) (f_M_ahead c V u) := by
  refine zR.of (by decide) (Nat.le_of_ble_eq_true rfl) ?_
  intro p e s m below meth c0 ls E hrt hlk hN hK hP hl
  have hx := E.1
  have hb := E.2.1
  have hl : lv_has ls 3 [(0, .ref (a 0)), (1, .int u)] := hl
  refine lv_iconst (v := 0) hx hb d_M_ahead_0 (by decide) ?_
  refine lv_istore_n (lv' := [(2, .int 0), (0, .ref (a 0)), (1, .int u)]) hx hb d_M_ahead_1 rfl hl (by decide) rfl (fun ls hl => ?_)
  exact lp_M_ahead l D cI a th nw k n c Z P U V u hk hn hc E hrt hlk hN hK hP c 0  (by omega) _ (by rfl) ls (by rw [nI_0]; exact lv_sub hl [0, 1, 2] rfl)
theorem ms_L {Z : Nat → Nat → Int32} {x : Int32} : ∀ (d k0 : Nat), f_M_seatOf_L Z x d k0 = -1 ∨ ∃ j, j < k0 + d ∧ f_M_seatOf_L Z x d k0 = nI j := by
  intro d
  induction d with
  | zero => intro k0; exact Or.inl rfl
  | succ d ih =>
    intro k0
    rw [f_M_seatOf_L_s]
    split
    · exact Or.inr ⟨k0, by omega, rfl⟩
    · rcases ih (k0 + 1) with h | ⟨j, h1, h2⟩
      · exact Or.inl h
      · exact Or.inr ⟨j, by omega, h2⟩
theorem ms_in {k : Nat} {Z : Nat → Nat → Int32} {x : Int32} (hk : k ≤ 20) (h : ¬ f_M_seatOf k Z x < 0) : vp_in (f_M_seatOf k Z x) 20 := by
  rcases ms_L (Z := Z) (x := x) k 0 with h1 | ⟨j, h1, h2⟩
  · exact absurd (by rw [show f_M_seatOf k Z x = -1 from h1]; decide) h
  · rw [show f_M_seatOf k Z x = nI j from h2]
    exact vp_in_nI (by omega) (by decide)
theorem ms_in0 {k : Nat} {Z : Nat → Nat → Int32} {x : Int32} (hk : k ≤ 20) (h : 0 ≤ f_M_seatOf k Z x) : vp_in (f_M_seatOf k Z x) 20 := ms_in hk (Int32.not_lt.mpr h)
theorem mw_L {Z : Nat → Nat → Int32} {x : Int32} : ∀ (d k0 : Nat), f_M_waitOf_L Z x d k0 = -1 ∨ ∃ j, j < k0 + d ∧ f_M_waitOf_L Z x d k0 = nI j := by
  intro d
  induction d with
  | zero => intro k0; exact Or.inl rfl
  | succ d ih =>
    intro k0
    rw [f_M_waitOf_L_s]
    split
    · exact Or.inr ⟨k0, by omega, rfl⟩
    · rcases ih (k0 + 1) with h | ⟨j, h1, h2⟩
      · exact Or.inl h
      · exact Or.inr ⟨j, by omega, h2⟩
theorem mw_in {n : Nat} {Z : Nat → Nat → Int32} {x : Int32} (hn : n ≤ 60) (h : ¬ f_M_waitOf n Z x < 0) : f_M_waitOf n Z x = nI (f_M_waitOf n Z x).toNatClampNeg ∧ (f_M_waitOf n Z x).toNatClampNeg < n := by
  rcases mw_L (Z := Z) (x := x) n 0 with h1 | ⟨j, h1, h2⟩
  · exact absurd (by rw [show f_M_waitOf n Z x = -1 from h1]; decide) h
  · rw [show f_M_waitOf n Z x = nI j from h2, nI_clamp (by omega)]
    exact ⟨rfl, by omega⟩
theorem ah_L {V : Nat → Nat → Int32} {x : Int32} : ∀ (d k0 : Nat), f_M_ahead_L V x d k0 = -1 ∨ ∃ j, j < k0 + d ∧ f_M_ahead_L V x d k0 = nI j := by
  intro d
  induction d with
  | zero => intro k0; exact Or.inl rfl
  | succ d ih =>
    intro k0
    rw [f_M_ahead_L_s]
    have e := ih (k0 + 1)
    have e2 : f_M_ahead_L V x d (k0 + 1) = -1 ∨ ∃ j, j < k0 + (d + 1) ∧ f_M_ahead_L V x d (k0 + 1) = nI j := by
      rcases e with h | ⟨j, h1, h2⟩
      · exact Or.inl h
      · exact Or.inr ⟨j, by omega, h2⟩
    split
    · split
      · exact Or.inr ⟨k0, by omega, rfl⟩
      · exact e2
    · exact e2
theorem ah_in {c : Nat} {V : Nat → Nat → Int32} {x : Int32} (hc : c ≤ 300) (h : ¬ f_M_ahead c V x < 0) : vp_in (f_M_ahead c V x) 300 := by
  rcases ah_L (V := V) (x := x) c 0 with h1 | ⟨j, h1, h2⟩
  · exact absurd (by rw [show f_M_ahead c V x = -1 from h1]; decide) h
  · rw [show f_M_ahead c V x = nI j from h2]
    exact vp_in_nI (by omega) (by decide)
end
section
def f_M_come (nw : Int32) (k : Nat) (n : Nat) (c : Nat) (Z : Nat → Nat → Int32) (P : Nat → Nat → Int32) (U : Nat → Nat → Int32) (V : Nat → Nat → Int32) (pr : Int32) : Int32 × Int32 × Int32 × Int32 × Int32 × (Nat → Nat → Int32) × (Nat → Nat → Int32) × (Nat → Nat → Int32) × (Nat → Nat → Int32) := (if (f_M_isPerson pr) = 0 then ((-1), 0, nw, nI n, nI c, Z, P, U, V) else (if 0 ≤ (f_M_seatOf k Z pr) then ((-3), 0, nw, nI n, nI c, Z, P, U, V) else (if (f_M_waitOf n Z pr) < 0 then (if (f_M_seatOf k Z (-1)) < 0 then ((-10) - (((nI n) + 1) - 1), 0, nw, (nI n) + 1, nI c, up2 Z 1 n pr, P, U, V) else (f_M_seatOf k Z (-1), 0, nw, nI n, nI c, up2 Z 0 (f_M_seatOf k Z (-1)).toNatClampNeg pr, P, U, V)) else ((-3), 0, nw, nI n, nI c, Z, P, U, V))))
set_option maxHeartbeats 4000000 in
set_option maxRecDepth 100000 in
theorem c_M_come (l : Launch) (D : va_G) (cI : ClassId) (a : Nat → Nat) (th : Int32) (nw : Int32) (k : Nat) (n : Nat) (c : Nat) (Z : Nat → Nat → Int32) (P : Nat → Nat → Int32) (U : Nat → Nat → Int32) (V : Nat → Nat → Int32) (pr : Int32) (hk : k ≤ 20) (hn : n ≤ 60) (hc : c ≤ 300) (h60 : f_M_waitOf n Z pr < 0 → n < 60) : zW l D [(cI, .int)] y_M_come b_M_come 3 (some .int) 2 42 [.ref (a 0), .int pr] (wM a cI th nw (nI k) (nI n) (nI c) Z P U V) (wM a cI ((f_M_come nw k n c Z P U V pr).2.1) ((f_M_come nw k n c Z P U V pr).2.2.1) (nI k) ((f_M_come nw k n c Z P U V pr).2.2.2.1) ((f_M_come nw k n c Z P U V pr).2.2.2.2.1) ((f_M_come nw k n c Z P U V pr).2.2.2.2.2.1) ((f_M_come nw k n c Z P U V pr).2.2.2.2.2.2.1) ((f_M_come nw k n c Z P U V pr).2.2.2.2.2.2.2.1) ((f_M_come nw k n c Z P U V pr).2.2.2.2.2.2.2.2)) (some (.int (f_M_come nw k n c Z P U V pr).1)) := by
  refine zW.of (by decide) (Nat.le_of_ble_eq_true rfl) ?_
  intro p e s m below meth c0 ls A E hrt hlk hN hK hA G hl
  have hx := E.1
  have hb := E.2.1
  have hl : lv_has ls 3 [(0, .ref (a 0)), (1, .int pr)] := hl
  refine lv_aload_n hx hb d_M_come_0 rfl (lv_at hl 0 rfl) ?_
  refine lv_iconst (v := 0) hx hb d_M_come_1 (by decide) ?_
  refine z_put (ty := .int) (ws' := wM a cI 0 nw (nI k) (nI n) (nI c) Z P U V) E hK G i_M t_M t_M_ok n_M 0 0 rfl rfl (by decide) kf_M_65 rfl rfl rfl rfl (Nat.le_of_ble_eq_true rfl) rfl d_M_come_2 (fun H locs G => ?_)
  refine lv_iload_n hx hb d_M_come_5 rfl (lv_at hl 1 rfl) ?_
  refine z_rs (As := [.int pr]) (rest := []) E hN hK hl.1 (c_M_isPerson l D [(cI, .int)] pr) kz_M_79 rfl ⟨Nat.le_of_ble_eq_true rfl, Nat.le_of_ble_eq_true rfl⟩ rfl (Nat.le_of_ble_eq_true rfl) ⟨Nat.zero_le _, Nat.zero_le _⟩ d_M_come_6 ?_
  refine lv_if_ne (tgt := 14) hx hb d_M_come_9 (by decide) (fun c_1 => ?_) (fun c_1 => ?_)
  · refine lv_aload_n hx hb d_M_come_14 rfl (lv_at hl 0 rfl) ?_
    refine lv_iload_n hx hb d_M_come_15 rfl (lv_at hl 1 rfl) ?_
    refine z_rv (As := [.int pr]) (rest := []) E hN hK G.1 hl.1 (c_M_seatOf l D cI a 0 nw k n c Z P U V pr hk hn hc) [0, 1, 2, 3, 4, 5, 6, 7, 8, 9, 10, 11, 12, 13, 14, 15, 16, 17] rfl 0 rfl rfl kz_M_83 rfl ⟨Nat.le_of_ble_eq_true rfl, Nat.le_of_ble_eq_true rfl⟩ rfl (Nat.le_of_ble_eq_true rfl) ⟨Nat.zero_le _, Nat.zero_le _⟩ d_M_come_16 ?_
    refine lv_if_ge (tgt := 30) hx hb d_M_come_19 (by decide) (fun c_2 => ?_) (fun c_2 => ?_)
    · refine lv_bipush (v := (-3)) hx hb d_M_come_30 (by decide) ?_
      have hf : f_M_come nw k n c Z P U V pr = ((-3), 0, nw, nI n, nI c, Z, P, U, V) := by unfold f_M_come; rw [if_neg c_1, if_pos c_2]
      exact zW.iret E hrt hlk G (by rw [hf]) (by rw [hf]) d_M_come_32
    · refine lv_aload_n hx hb d_M_come_22 rfl (lv_at hl 0 rfl) ?_
      refine lv_iload_n hx hb d_M_come_23 rfl (lv_at hl 1 rfl) ?_
      refine z_rv (As := [.int pr]) (rest := []) E hN hK G.1 hl.1 (c_M_waitOf l D cI a 0 nw k n c Z P U V pr hk hn hc) [0, 1, 2, 3, 4, 5, 6, 7, 8, 9, 10, 11, 12, 13, 14, 15, 16, 17] rfl 0 rfl rfl kz_M_87 rfl ⟨Nat.le_of_ble_eq_true rfl, Nat.le_of_ble_eq_true rfl⟩ rfl (Nat.le_of_ble_eq_true rfl) ⟨Nat.zero_le _, Nat.zero_le _⟩ d_M_come_24 ?_
      refine lv_if_lt (tgt := 33) hx hb d_M_come_27 (by decide) (fun c_3 => ?_) (fun c_3 => ?_)
      · refine lv_aload_n hx hb d_M_come_33 rfl (lv_at hl 0 rfl) ?_
        refine lv_iconst (v := (-1)) hx hb d_M_come_34 (by decide) ?_
        refine z_rv (As := [.int (-1)]) (rest := []) E hN hK G.1 hl.1 (c_M_seatOf l D cI a 0 nw k n c Z P U V (-1) hk hn hc) [0, 1, 2, 3, 4, 5, 6, 7, 8, 9, 10, 11, 12, 13, 14, 15, 16, 17] rfl 0 rfl rfl kz_M_83 rfl ⟨Nat.le_of_ble_eq_true rfl, Nat.le_of_ble_eq_true rfl⟩ rfl (Nat.le_of_ble_eq_true rfl) ⟨Nat.zero_le _, Nat.zero_le _⟩ d_M_come_35 ?_
        refine lv_istore_n (lv' := [(2, .int (f_M_seatOf k Z (-1))), (0, .ref (a 0)), (1, .int pr)]) hx hb d_M_come_38 rfl hl (by decide) rfl (fun ls hl => ?_)
        refine lv_iload_n hx hb d_M_come_39 rfl (lv_at hl 0 rfl) ?_
        refine lv_if_lt (tgt := 52) hx hb d_M_come_40 (by decide) (fun c_4 => ?_) (fun c_4 => ?_)
        · have h61 : n < 60 := h60 c_3
          refine lv_aload_n hx hb d_M_come_52 rfl (lv_at hl 1 rfl) ?_
          refine z_get (v := .ref (a 2)) E hK G.1 i_M 0 5 rfl rfl (by decide) kf_M_13 rfl d_M_come_53 ?_
          refine lv_aload_n hx hb d_M_come_56 rfl (lv_at hl 1 rfl) ?_
          refine z_get (v := .int (nI n)) E hK G.1 i_M 0 4 rfl rfl (by decide) kf_M_76 rfl d_M_come_57 ?_
          refine lv_iload_n hx hb d_M_come_60 rfl (lv_at hl 2 rfl) ?_
          refine z_astN (f := Z 1) (j := n) (ws' := wM a cI 0 nw (nI k) (nI n) (nI c) (up2 Z 1 n pr) P U V) E hK G 2 0 rfl rfl rfl (by omega) (by decide) rfl d_M_come_61 (fun H locs G => ?_)
          refine lv_aload_n hx hb d_M_come_62 rfl (lv_at hl 1 rfl) ?_
          refine lv_dup hx hb d_M_come_63 rfl ?_
          refine z_get (v := .int (nI n)) E hK G.1 i_M 0 4 rfl rfl (by decide) kf_M_76 rfl d_M_come_64 ?_
          refine lv_iconst (v := 1) hx hb d_M_come_67 (by decide) ?_
          refine lv_iadd hx hb d_M_come_68 ?_
          refine z_put (ty := .int) (ws' := wM a cI 0 nw (nI k) ((nI n) + 1) (nI c) (up2 Z 1 n pr) P U V) E hK G i_M t_M t_M_ok n_M 0 4 rfl rfl (by decide) kf_M_76 rfl rfl rfl rfl (Nat.le_of_ble_eq_true rfl) rfl d_M_come_69 (fun H locs G => ?_)
          refine lv_bipush (v := (-10)) hx hb d_M_come_72 (by decide) ?_
          refine lv_aload_n hx hb d_M_come_74 rfl (lv_at hl 1 rfl) ?_
          refine z_get (v := .int ((nI n) + 1)) E hK G.1 i_M 0 4 rfl rfl (by decide) kf_M_76 rfl d_M_come_75 ?_
          refine lv_iconst (v := 1) hx hb d_M_come_78 (by decide) ?_
          refine lv_isub hx hb d_M_come_79 ?_
          refine lv_isub hx hb d_M_come_80 ?_
          have hf : f_M_come nw k n c Z P U V pr = ((-10) - (((nI n) + 1) - 1), 0, nw, (nI n) + 1, nI c, up2 Z 1 n pr, P, U, V) := by unfold f_M_come; rw [if_neg c_1, if_neg c_2, if_pos c_3, if_pos c_4]
          exact zW.iret E hrt hlk G (by rw [hf]) (by rw [hf]) d_M_come_81
        · refine lv_aload_n hx hb d_M_come_43 rfl (lv_at hl 1 rfl) ?_
          refine z_get (v := .ref (a 1)) E hK G.1 i_M 0 3 rfl rfl (by decide) kf_M_7 rfl d_M_come_44 ?_
          refine lv_iload_n hx hb d_M_come_47 rfl (lv_at hl 0 rfl) ?_
          refine lv_iload_n hx hb d_M_come_48 rfl (lv_at hl 2 rfl) ?_
          refine z_ast (f := Z 0) (ws' := wM a cI 0 nw (nI k) (nI n) (nI c) (up2 Z 0 (f_M_seatOf k Z (-1)).toNatClampNeg pr) P U V) E hK G 1 0 rfl rfl (ms_in hk c_4) rfl d_M_come_49 (fun H locs G => ?_)
          refine lv_iload_n hx hb d_M_come_50 rfl (lv_at hl 0 rfl) ?_
          have hf : f_M_come nw k n c Z P U V pr = (f_M_seatOf k Z (-1), 0, nw, nI n, nI c, up2 Z 0 (f_M_seatOf k Z (-1)).toNatClampNeg pr, P, U, V) := by unfold f_M_come; rw [if_neg c_1, if_neg c_2, if_pos c_3, if_neg c_4]
          exact zW.iret E hrt hlk G (by rw [hf]) (by rw [hf]) d_M_come_51
      · refine lv_bipush (v := (-3)) hx hb d_M_come_30 (by decide) ?_
        have hf : f_M_come nw k n c Z P U V pr = ((-3), 0, nw, nI n, nI c, Z, P, U, V) := by unfold f_M_come; rw [if_neg c_1, if_neg c_2, if_neg c_3]
        exact zW.iret E hrt hlk G (by rw [hf]) (by rw [hf]) d_M_come_32
  · refine lv_iconst (v := (-1)) hx hb d_M_come_12 (by decide) ?_
    have hf : f_M_come nw k n c Z P U V pr = ((-1), 0, nw, nI n, nI c, Z, P, U, V) := by unfold f_M_come; rw [if_pos c_1]
    exact zW.iret E hrt hlk G (by rw [hf]) (by rw [hf]) d_M_come_13
def f_M_leaveRow_L (n : Nat) (w : Int32) : Nat → Nat → (Nat → Nat → Int32) → Int32 × (Nat → Nat → Int32)
  | 0, k0, Z => (nI (n - 1), Z)
  | d + 1, k0, Z => (f_M_leaveRow_L n w d (k0 + 1) (up2 Z 1 k0 (Z 1 (k0 + 1))))
theorem f_M_leaveRow_L_0 (n : Nat) (w : Int32) (k0 : Nat) (Z : Nat → Nat → Int32) : f_M_leaveRow_L n w 0 k0 Z = (nI (n - 1), Z) := rfl
theorem f_M_leaveRow_L_s (n : Nat) (w : Int32) (d k0 : Nat) (Z : Nat → Nat → Int32) : f_M_leaveRow_L n w (d + 1) k0 Z = (f_M_leaveRow_L n w d (k0 + 1) (up2 Z 1 k0 (Z 1 (k0 + 1)))) := rfl
def f_M_leaveRow (n : Nat) (Z : Nat → Nat → Int32) (w : Int32) : Int32 × (Nat → Nat → Int32) := (f_M_leaveRow_L n w ((n - 1) - w.toNatClampNeg) w.toNatClampNeg Z)
set_option maxHeartbeats 4000000 in
set_option maxRecDepth 100000 in
theorem lp_M_leaveRow (l : Launch) (D : va_G) (cI : ClassId) (a : Nat → Nat) (th : Int32) (nw : Int32) (k : Nat) (n : Nat) (c : Nat) (P : Nat → Nat → Int32) (U : Nat → Nat → Int32) (V : Nat → Nat → Int32) (w : Int32) (hk : k ≤ 20) (hn : n ≤ 60) (hc : c ≤ 300) (hw0 : w = nI w.toNatClampNeg) (hwn : w.toNatClampNeg < n) {p : Program} {e : Env} {s : State} {m : MethodId} {below : List Frame} {meth : Method} {c0 : Code} {A : Nat → Prop} (E : CallFix p m c0 b_M_leaveRow 3 s ([.ref (a 0), .int w] : List Value).toArray zB y_M_leaveRow.cls) (hrt : meth.sig.returnType = none) (hlk : meth.locks = false) (hN : zN s) (hK : va_K D vwCl [(cI, .int)] s) (hA : ∀ q, s.heap.size ≤ q → A q) :
    ∀ (d k0 : Nat) (Z : Nat → Nat → Int32), k0 + d = (n - 1) → ∀ X : Int32 × (Nat → Nat → Int32), f_M_leaveRow_L n w d k0 Z = X → ∀ (H : Heap) (locs : List Loc), zG D A s H locs (wM a cI th nw (nI k) (nI (n - 1)) (nI c) Z P U V) → ∀ ls : Array Slot, lv_has ls 3 [(2, .int (nI k0)), (0, .ref (a 0)), (1, .int w)] → W p l e { frames := 0, cells := 0, slots := 0, locals := 0 } s m ([.ref (a 0), .int w] : List Value).toArray below meth c0 H locs 0 0 (MQ below (zQ D A (wM a cI th nw (nI k) X.1 (nI c) X.2 P U V) none) ([.ref (a 0), .int w] : List Value).toArray s 0 0 A) (F0 m 12 ls []) := by
  have hx := E.1
  have hb := E.2.1
  intro d
  induction d with
  | zero =>
    intro k0 Z hkd X hr H locs G ls hl
    refine lv_iload_n hx hb d_M_leaveRow_12 rfl (lv_at hl 0 rfl) ?_
    refine lv_aload_n hx hb d_M_leaveRow_13 rfl (lv_at hl 1 rfl) ?_
    refine z_get (v := .int (nI (n - 1))) E hK G.1 i_M 0 4 rfl rfl (by decide) kf_M_76 rfl d_M_leaveRow_14 ?_
    refine lv_icmp_ge (tgt := 40) hx hb d_M_leaveRow_17 (by decide) (fun c_1 => ?_) (fun c_1 => absurd (nI_le (by omega) (by omega)) c_1)
    have hf : X = (nI (n - 1), Z) := by rw [← hr, f_M_leaveRow_L_0]
    exact zW.vret E hrt hlk G (by rw [hf]) (by rfl) d_M_leaveRow_40
  | succ d ih =>
    intro k0 Z hkd X hr H locs G ls hl
    refine lv_iload_n hx hb d_M_leaveRow_12 rfl (lv_at hl 0 rfl) ?_
    refine lv_aload_n hx hb d_M_leaveRow_13 rfl (lv_at hl 1 rfl) ?_
    refine z_get (v := .int (nI (n - 1))) E hK G.1 i_M 0 4 rfl rfl (by decide) kf_M_76 rfl d_M_leaveRow_14 ?_
    refine lv_icmp_ge (tgt := 40) hx hb d_M_leaveRow_17 (by decide) (fun c_2 => absurd c_2 (nI_ge (by omega) (by omega))) (fun c_2 => ?_)
    refine lv_aload_n hx hb d_M_leaveRow_20 rfl (lv_at hl 1 rfl) ?_
    refine z_get (v := .ref (a 2)) E hK G.1 i_M 0 5 rfl rfl (by decide) kf_M_13 rfl d_M_leaveRow_21 ?_
    refine lv_iload_n hx hb d_M_leaveRow_24 rfl (lv_at hl 0 rfl) ?_
    refine lv_aload_n hx hb d_M_leaveRow_25 rfl (lv_at hl 1 rfl) ?_
    refine z_get (v := .ref (a 2)) E hK G.1 i_M 0 5 rfl rfl (by decide) kf_M_13 rfl d_M_leaveRow_26 ?_
    refine lv_iload_n hx hb d_M_leaveRow_29 rfl (lv_at hl 0 rfl) ?_
    refine lv_iconst (v := 1) hx hb d_M_leaveRow_30 (by decide) ?_
    refine lv_iadd hx hb d_M_leaveRow_31 ?_
    refine W.eq (g2 := F0 m 32 ls [.int (nI (k0 + 1)), .ref (a 2), .int (nI k0), .ref (a 2)]) (by rw [nI_1]) ?_
    refine z_aldN (f := Z 1) (j := (k0 + 1)) E hK G.1 2 0 rfl rfl rfl (by omega) (by decide) d_M_leaveRow_32 ?_
    refine z_astN (f := Z 1) (j := k0) (ws' := wM a cI th nw (nI k) (nI (n - 1)) (nI c) (up2 Z 1 k0 (Z 1 (k0 + 1))) P U V) E hK G 2 0 rfl rfl rfl (by omega) (by decide) rfl d_M_leaveRow_33 (fun H locs G => ?_)
    refine lv_iinc (v := nI (k0 + 1)) (lv' := [(2, .int (nI (k0 + 1))), (0, .ref (a 0)), (1, .int w)]) hx hb d_M_leaveRow_34 hl (k := 0) rfl (nI_1 _) (by decide) rfl (fun ls hl => ?_)
    refine lv_goto (tgt := 12) hx hb d_M_leaveRow_37 (by decide) ?_
    exact ih (k0 + 1) (up2 Z 1 k0 (Z 1 (k0 + 1))) (by omega) X (by rw [← hr, f_M_leaveRow_L_s]) H locs G ls (lv_sub hl [0, 1, 2] rfl)
set_option maxHeartbeats 4000000 in
set_option maxRecDepth 100000 in
theorem c_M_leaveRow (l : Launch) (D : va_G) (cI : ClassId) (a : Nat → Nat) (th : Int32) (nw : Int32) (k : Nat) (n : Nat) (c : Nat) (Z : Nat → Nat → Int32) (P : Nat → Nat → Int32) (U : Nat → Nat → Int32) (V : Nat → Nat → Int32) (w : Int32) (hk : k ≤ 20) (hn : n ≤ 60) (hc : c ≤ 300) (hw0 : w = nI w.toNatClampNeg) (hwn : w.toNatClampNeg < n) : zW l D [(cI, .int)] y_M_leaveRow b_M_leaveRow 3 none 0 0 [.ref (a 0), .int w] (wM a cI th nw (nI k) (nI n) (nI c) Z P U V) (wM a cI th nw (nI k) ((f_M_leaveRow n Z w).1) (nI c) ((f_M_leaveRow n Z w).2) P U V) none := by
  refine zW.of (by decide) (Nat.le_of_ble_eq_true rfl) ?_
  intro p e s m below meth c0 ls A E hrt hlk hN hK hA G hl
  have hx := E.1
  have hb := E.2.1
  have hl : lv_has ls 3 [(0, .ref (a 0)), (1, .int w)] := hl
  refine lv_aload_n hx hb d_M_leaveRow_0 rfl (lv_at hl 0 rfl) ?_
  refine lv_dup hx hb d_M_leaveRow_1 rfl ?_
  refine z_get (v := .int (nI n)) E hK G.1 i_M 0 4 rfl rfl (by decide) kf_M_76 rfl d_M_leaveRow_2 ?_
  refine lv_iconst (v := 1) hx hb d_M_leaveRow_5 (by decide) ?_
  refine lv_isub hx hb d_M_leaveRow_6 ?_
  refine W.eq (g2 := F0 m 7 ls [.int (nI (n - 1)), .ref (a 0)]) (by rw [nI_m1 (n := n) (by omega)]) ?_
  refine z_put (ty := .int) (ws' := wM a cI th nw (nI k) (nI (n - 1)) (nI c) Z P U V) E hK G i_M t_M t_M_ok n_M 0 4 rfl rfl (by decide) kf_M_76 rfl rfl rfl rfl (Nat.le_of_ble_eq_true rfl) rfl d_M_leaveRow_7 (fun H locs G => ?_)
  refine lv_iload_n hx hb d_M_leaveRow_10 rfl (lv_at hl 1 rfl) ?_
  refine lv_istore_n (lv' := [(2, .int w), (0, .ref (a 0)), (1, .int w)]) hx hb d_M_leaveRow_11 rfl hl (by decide) rfl (fun ls hl => ?_)
  exact lp_M_leaveRow l D cI a th nw k n c P U V w hk hn hc hw0 hwn E hrt hlk hN hK hA ((n - 1) - w.toNatClampNeg) w.toNatClampNeg Z (by omega) _ (by rfl) _ _ G ls (by rw [← hw0]; exact lv_sub hl [0, 1, 2] rfl)
def f_M_leave (nw : Int32) (k : Nat) (n : Nat) (c : Nat) (Z : Nat → Nat → Int32) (P : Nat → Nat → Int32) (U : Nat → Nat → Int32) (V : Nat → Nat → Int32) (pr : Int32) : Int32 × Int32 × Int32 × Int32 × Int32 × (Nat → Nat → Int32) × (Nat → Nat → Int32) × (Nat → Nat → Int32) × (Nat → Nat → Int32) := (if (f_M_isPerson pr) = 0 then ((-1), 0, nw, nI n, nI c, Z, P, U, V) else (if 0 ≤ (f_M_seatOf k Z pr) then (if (f_M_has U V pr) ≤ 0 then (if (f_M_waitOf n Z pr) < 0 then (if (nI n) ≤ 0 then (if 0 ≤ ((up2 Z 0 (f_M_seatOf k Z pr).toNatClampNeg (-1)) 0 (f_M_seatOf k Z pr).toNatClampNeg) then ((up2 Z 0 (f_M_seatOf k Z pr).toNatClampNeg (-1)) 0 (f_M_seatOf k Z pr).toNatClampNeg, 0, nw, nI n, nI c, up2 Z 0 (f_M_seatOf k Z pr).toNatClampNeg (-1), P, U, V) else (100, 0, nw, nI n, nI c, up2 Z 0 (f_M_seatOf k Z pr).toNatClampNeg (-1), P, U, V)) else (if 0 ≤ (((f_M_leaveRow n (up2 Z 0 (f_M_seatOf k Z pr).toNatClampNeg (Z 1 0)) 0).2) 0 (f_M_seatOf k Z pr).toNatClampNeg) then (((f_M_leaveRow n (up2 Z 0 (f_M_seatOf k Z pr).toNatClampNeg (Z 1 0)) 0).2) 0 (f_M_seatOf k Z pr).toNatClampNeg, 0, nw, (f_M_leaveRow n (up2 Z 0 (f_M_seatOf k Z pr).toNatClampNeg (Z 1 0)) 0).1, nI c, (f_M_leaveRow n (up2 Z 0 (f_M_seatOf k Z pr).toNatClampNeg (Z 1 0)) 0).2, P, U, V) else (100, 0, nw, (f_M_leaveRow n (up2 Z 0 (f_M_seatOf k Z pr).toNatClampNeg (Z 1 0)) 0).1, nI c, (f_M_leaveRow n (up2 Z 0 (f_M_seatOf k Z pr).toNatClampNeg (Z 1 0)) 0).2, P, U, V))) else (100, 0, nw, (f_M_leaveRow n Z (f_M_waitOf n Z pr)).1, nI c, (f_M_leaveRow n Z (f_M_waitOf n Z pr)).2, P, U, V)) else ((-3), 0, nw, nI n, nI c, Z, P, U, V)) else (if (f_M_waitOf n Z pr) < 0 then ((-3), 0, nw, nI n, nI c, Z, P, U, V) else (if (f_M_has U V pr) ≤ 0 then (100, 0, nw, (f_M_leaveRow n Z (f_M_waitOf n Z pr)).1, nI c, (f_M_leaveRow n Z (f_M_waitOf n Z pr)).2, P, U, V) else ((-3), 0, nw, nI n, nI c, Z, P, U, V)))))
set_option maxHeartbeats 4000000 in
set_option maxRecDepth 100000 in
theorem c_M_leave (l : Launch) (D : va_G) (cI : ClassId) (a : Nat → Nat) (th : Int32) (nw : Int32) (k : Nat) (n : Nat) (c : Nat) (Z : Nat → Nat → Int32) (P : Nat → Nat → Int32) (U : Nat → Nat → Int32) (V : Nat → Nat → Int32) (pr : Int32) (hk : k ≤ 20) (hn : n ≤ 60) (hc : c ≤ 300) (hU : ∀ u, u < 80 → (U 0 u = 1 ∨ U 0 u = 2) → vp_in (U 3 u) 300) : zW l D [(cI, .int)] y_M_leave b_M_leave 4 (some .int) 2 42 [.ref (a 0), .int pr] (wM a cI th nw (nI k) (nI n) (nI c) Z P U V) (wM a cI ((f_M_leave nw k n c Z P U V pr).2.1) ((f_M_leave nw k n c Z P U V pr).2.2.1) (nI k) ((f_M_leave nw k n c Z P U V pr).2.2.2.1) ((f_M_leave nw k n c Z P U V pr).2.2.2.2.1) ((f_M_leave nw k n c Z P U V pr).2.2.2.2.2.1) ((f_M_leave nw k n c Z P U V pr).2.2.2.2.2.2.1) ((f_M_leave nw k n c Z P U V pr).2.2.2.2.2.2.2.1) ((f_M_leave nw k n c Z P U V pr).2.2.2.2.2.2.2.2)) (some (.int (f_M_leave nw k n c Z P U V pr).1)) := by
  refine zW.of (by decide) (Nat.le_of_ble_eq_true rfl) ?_
  intro p e s m below meth c0 ls A E hrt hlk hN hK hA G hl
  have hx := E.1
  have hb := E.2.1
  have hl : lv_has ls 4 [(0, .ref (a 0)), (1, .int pr)] := hl
  refine lv_aload_n hx hb d_M_leave_0 rfl (lv_at hl 0 rfl) ?_
  refine lv_iconst (v := 0) hx hb d_M_leave_1 (by decide) ?_
  refine z_put (ty := .int) (ws' := wM a cI 0 nw (nI k) (nI n) (nI c) Z P U V) E hK G i_M t_M t_M_ok n_M 0 0 rfl rfl (by decide) kf_M_65 rfl rfl rfl rfl (Nat.le_of_ble_eq_true rfl) rfl d_M_leave_2 (fun H locs G => ?_)
  refine lv_iload_n hx hb d_M_leave_5 rfl (lv_at hl 1 rfl) ?_
  refine z_rs (As := [.int pr]) (rest := []) E hN hK hl.1 (c_M_isPerson l D [(cI, .int)] pr) kz_M_79 rfl ⟨Nat.le_of_ble_eq_true rfl, Nat.le_of_ble_eq_true rfl⟩ rfl (Nat.le_of_ble_eq_true rfl) ⟨Nat.zero_le _, Nat.zero_le _⟩ d_M_leave_6 ?_
  refine lv_if_ne (tgt := 14) hx hb d_M_leave_9 (by decide) (fun c_1 => ?_) (fun c_1 => ?_)
  · refine lv_aload_n hx hb d_M_leave_14 rfl (lv_at hl 0 rfl) ?_
    refine lv_iload_n hx hb d_M_leave_15 rfl (lv_at hl 1 rfl) ?_
    refine z_rv (As := [.int pr]) (rest := []) E hN hK G.1 hl.1 (c_M_seatOf l D cI a 0 nw k n c Z P U V pr hk hn hc) [0, 1, 2, 3, 4, 5, 6, 7, 8, 9, 10, 11, 12, 13, 14, 15, 16, 17] rfl 0 rfl rfl kz_M_83 rfl ⟨Nat.le_of_ble_eq_true rfl, Nat.le_of_ble_eq_true rfl⟩ rfl (Nat.le_of_ble_eq_true rfl) ⟨Nat.zero_le _, Nat.zero_le _⟩ d_M_leave_16 ?_
    refine lv_istore_n (lv' := [(2, .int (f_M_seatOf k Z pr)), (0, .ref (a 0)), (1, .int pr)]) hx hb d_M_leave_19 rfl hl (by decide) rfl (fun ls hl => ?_)
    refine lv_aload_n hx hb d_M_leave_20 rfl (lv_at hl 1 rfl) ?_
    refine lv_iload_n hx hb d_M_leave_21 rfl (lv_at hl 2 rfl) ?_
    refine z_rv (As := [.int pr]) (rest := []) E hN hK G.1 hl.1 (c_M_waitOf l D cI a 0 nw k n c Z P U V pr hk hn hc) [0, 1, 2, 3, 4, 5, 6, 7, 8, 9, 10, 11, 12, 13, 14, 15, 16, 17] rfl 0 rfl rfl kz_M_87 rfl ⟨Nat.le_of_ble_eq_true rfl, Nat.le_of_ble_eq_true rfl⟩ rfl (Nat.le_of_ble_eq_true rfl) ⟨Nat.zero_le _, Nat.zero_le _⟩ d_M_leave_22 ?_
    refine lv_istore_n (lv' := [(3, .int (f_M_waitOf n Z pr)), (2, .int (f_M_seatOf k Z pr)), (0, .ref (a 0)), (1, .int pr)]) hx hb d_M_leave_25 rfl hl (by decide) rfl (fun ls hl => ?_)
    refine lv_iload_n hx hb d_M_leave_26 rfl (lv_at hl 1 rfl) ?_
    refine lv_if_ge (tgt := 34) hx hb d_M_leave_27 (by decide) (fun c_2 => ?_) (fun c_2 => ?_)
    · refine lv_aload_n hx hb d_M_leave_34 rfl (lv_at hl 2 rfl) ?_
      refine lv_iload_n hx hb d_M_leave_35 rfl (lv_at hl 3 rfl) ?_
      refine z_rv (As := [.int pr]) (rest := []) E hN hK G.1 hl.1 (c_M_has l D cI a 0 nw k n c Z P U V pr hk hn hc hU) [0, 1, 2, 3, 4, 5, 6, 7, 8, 9, 10, 11, 12, 13, 14, 15, 16, 17] rfl 0 rfl rfl kz_M_90 rfl ⟨Nat.le_of_ble_eq_true rfl, Nat.le_of_ble_eq_true rfl⟩ rfl (Nat.le_of_ble_eq_true rfl) ⟨Nat.zero_le _, Nat.zero_le _⟩ d_M_leave_36 ?_
      refine lv_if_le (tgt := 45) hx hb d_M_leave_39 (by decide) (fun c_3 => ?_) (fun c_3 => ?_)
      · refine lv_iload_n hx hb d_M_leave_45 rfl (lv_at hl 0 rfl) ?_
        refine lv_if_lt (tgt := 57) hx hb d_M_leave_46 (by decide) (fun c_4 => ?_) (fun c_4 => ?_)
        · refine lv_aload_n hx hb d_M_leave_57 rfl (lv_at hl 2 rfl) ?_
          refine z_get (v := .ref (a 1)) E hK G.1 i_M 0 3 rfl rfl (by decide) kf_M_7 rfl d_M_leave_58 ?_
          refine lv_iload_n hx hb d_M_leave_61 rfl (lv_at hl 1 rfl) ?_
          refine lv_aload_n hx hb d_M_leave_62 rfl (lv_at hl 2 rfl) ?_
          refine z_get (v := .int (nI n)) E hK G.1 i_M 0 4 rfl rfl (by decide) kf_M_76 rfl d_M_leave_63 ?_
          refine lv_if_le (tgt := 78) hx hb d_M_leave_66 (by decide) (fun c_5 => ?_) (fun c_5 => ?_)
          · refine lv_iconst (v := (-1)) hx hb d_M_leave_78 (by decide) ?_
            refine z_ast (f := Z 0) (ws' := wM a cI 0 nw (nI k) (nI n) (nI c) (up2 Z 0 (f_M_seatOf k Z pr).toNatClampNeg (-1)) P U V) E hK G 1 0 rfl rfl (ms_in0 hk c_2) rfl d_M_leave_79 (fun H locs G => ?_)
            refine lv_aload_n hx hb d_M_leave_80 rfl (lv_at hl 2 rfl) ?_
            refine z_get (v := .int (nI n)) E hK G.1 i_M 0 4 rfl rfl (by decide) kf_M_76 rfl d_M_leave_81 ?_
            refine lv_if_le (tgt := 92) hx hb d_M_leave_84 (by decide) (fun c_6 => ?_) (fun c_6 => absurd c_5 c_6)
            refine lv_aload_n hx hb d_M_leave_92 rfl (lv_at hl 2 rfl) ?_
            refine z_get (v := .ref (a 1)) E hK G.1 i_M 0 3 rfl rfl (by decide) kf_M_7 rfl d_M_leave_93 ?_
            refine lv_iload_n hx hb d_M_leave_96 rfl (lv_at hl 1 rfl) ?_
            refine z_ald (f := (up2 Z 0 (f_M_seatOf k Z pr).toNatClampNeg (-1)) 0) E hK G.1 1 0 rfl rfl (ms_in0 hk c_2) d_M_leave_97 ?_
            refine lv_if_ge (tgt := 106) hx hb d_M_leave_98 (by decide) (fun c_7 => ?_) (fun c_7 => ?_)
            · refine lv_aload_n hx hb d_M_leave_106 rfl (lv_at hl 2 rfl) ?_
              refine z_get (v := .ref (a 1)) E hK G.1 i_M 0 3 rfl rfl (by decide) kf_M_7 rfl d_M_leave_107 ?_
              refine lv_iload_n hx hb d_M_leave_110 rfl (lv_at hl 1 rfl) ?_
              refine z_ald (f := (up2 Z 0 (f_M_seatOf k Z pr).toNatClampNeg (-1)) 0) E hK G.1 1 0 rfl rfl (ms_in0 hk c_2) d_M_leave_111 ?_
              have hf : f_M_leave nw k n c Z P U V pr = ((up2 Z 0 (f_M_seatOf k Z pr).toNatClampNeg (-1)) 0 (f_M_seatOf k Z pr).toNatClampNeg, 0, nw, nI n, nI c, up2 Z 0 (f_M_seatOf k Z pr).toNatClampNeg (-1), P, U, V) := by unfold f_M_leave; rw [if_neg c_1, if_pos c_2, if_pos c_3, if_pos c_4, if_pos c_5, if_pos c_7]
              exact zW.iret E hrt hlk G (by rw [hf]) (by rw [hf]) d_M_leave_112
            · refine lv_bipush (v := 100) hx hb d_M_leave_101 (by decide) ?_
              refine lv_goto (tgt := 112) hx hb d_M_leave_103 (by decide) ?_
              have hf : f_M_leave nw k n c Z P U V pr = (100, 0, nw, nI n, nI c, up2 Z 0 (f_M_seatOf k Z pr).toNatClampNeg (-1), P, U, V) := by unfold f_M_leave; rw [if_neg c_1, if_pos c_2, if_pos c_3, if_pos c_4, if_pos c_5, if_neg c_7]
              exact zW.iret E hrt hlk G (by rw [hf]) (by rw [hf]) d_M_leave_112
          · refine lv_aload_n hx hb d_M_leave_69 rfl (lv_at hl 2 rfl) ?_
            refine z_get (v := .ref (a 2)) E hK G.1 i_M 0 5 rfl rfl (by decide) kf_M_13 rfl d_M_leave_70 ?_
            refine lv_iconst (v := 0) hx hb d_M_leave_73 (by decide) ?_
            refine z_aldN (f := Z 1) (j := 0) E hK G.1 2 0 rfl rfl (by decide) (by omega) (by decide) d_M_leave_74 ?_
            refine lv_goto (tgt := 79) hx hb d_M_leave_75 (by decide) ?_
            refine z_ast (f := Z 0) (ws' := wM a cI 0 nw (nI k) (nI n) (nI c) (up2 Z 0 (f_M_seatOf k Z pr).toNatClampNeg (Z 1 0)) P U V) E hK G 1 0 rfl rfl (ms_in0 hk c_2) rfl d_M_leave_79 (fun H locs G => ?_)
            refine lv_aload_n hx hb d_M_leave_80 rfl (lv_at hl 2 rfl) ?_
            refine z_get (v := .int (nI n)) E hK G.1 i_M 0 4 rfl rfl (by decide) kf_M_76 rfl d_M_leave_81 ?_
            refine lv_if_le (tgt := 92) hx hb d_M_leave_84 (by decide) (fun c_8 => absurd c_8 c_5) (fun c_8 => ?_)
            refine lv_aload_n hx hb d_M_leave_87 rfl (lv_at hl 2 rfl) ?_
            refine lv_iconst (v := 0) hx hb d_M_leave_88 (by decide) ?_
            refine z_wv (As := [.int 0]) (rest := []) (wr := ([] : List Nat).filterMap (fun i => (wM a cI 0 nw (nI k) (nI n) (nI c) (up2 Z 0 (f_M_seatOf k Z pr).toNatClampNeg (Z 1 0)) P U V)[i]?)) (ws' := wM a cI 0 nw (nI k) ((f_M_leaveRow n (up2 Z 0 (f_M_seatOf k Z pr).toNatClampNeg (Z 1 0)) 0).1) (nI c) ((f_M_leaveRow n (up2 Z 0 (f_M_seatOf k Z pr).toNatClampNeg (Z 1 0)) 0).2) P U V) E hN hK hA G hl.1 (c_M_leaveRow l D cI a 0 nw k n c (up2 Z 0 (f_M_seatOf k Z pr).toNatClampNeg (Z 1 0)) P U V 0 hk hn hc (by decide) (pos_n hn c_5)) [0, 1, 2, 3, 4, 5, 6, 7, 8, 9, 10, 11, 12, 13, 14, 15, 16, 17] [] [0, 1, 2, 3, 4, 5, 6, 7, 8, 9, 10, 11, 12, 13, 14, 15, 16, 17] rfl rfl rfl rfl rfl rfl (by decide) 0 rfl rfl kz_M_93 rfl ⟨Nat.le_of_ble_eq_true rfl, Nat.le_of_ble_eq_true rfl⟩ rfl (Nat.le_of_ble_eq_true rfl) ⟨Nat.zero_le _, Nat.zero_le _⟩ d_M_leave_89 (fun H locs G => ?_)
            refine W.eq (g2 := F0 m 92 ls []) rfl ?_
            refine lv_aload_n hx hb d_M_leave_92 rfl (lv_at hl 2 rfl) ?_
            refine z_get (v := .ref (a 1)) E hK G.1 i_M 0 3 rfl rfl (by decide) kf_M_7 rfl d_M_leave_93 ?_
            refine lv_iload_n hx hb d_M_leave_96 rfl (lv_at hl 1 rfl) ?_
            refine z_ald (f := ((f_M_leaveRow n (up2 Z 0 (f_M_seatOf k Z pr).toNatClampNeg (Z 1 0)) 0).2) 0) E hK G.1 1 0 rfl rfl (ms_in0 hk c_2) d_M_leave_97 ?_
            refine lv_if_ge (tgt := 106) hx hb d_M_leave_98 (by decide) (fun c_9 => ?_) (fun c_9 => ?_)
            · refine lv_aload_n hx hb d_M_leave_106 rfl (lv_at hl 2 rfl) ?_
              refine z_get (v := .ref (a 1)) E hK G.1 i_M 0 3 rfl rfl (by decide) kf_M_7 rfl d_M_leave_107 ?_
              refine lv_iload_n hx hb d_M_leave_110 rfl (lv_at hl 1 rfl) ?_
              refine z_ald (f := ((f_M_leaveRow n (up2 Z 0 (f_M_seatOf k Z pr).toNatClampNeg (Z 1 0)) 0).2) 0) E hK G.1 1 0 rfl rfl (ms_in0 hk c_2) d_M_leave_111 ?_
              have hf : f_M_leave nw k n c Z P U V pr = (((f_M_leaveRow n (up2 Z 0 (f_M_seatOf k Z pr).toNatClampNeg (Z 1 0)) 0).2) 0 (f_M_seatOf k Z pr).toNatClampNeg, 0, nw, (f_M_leaveRow n (up2 Z 0 (f_M_seatOf k Z pr).toNatClampNeg (Z 1 0)) 0).1, nI c, (f_M_leaveRow n (up2 Z 0 (f_M_seatOf k Z pr).toNatClampNeg (Z 1 0)) 0).2, P, U, V) := by unfold f_M_leave; rw [if_neg c_1, if_pos c_2, if_pos c_3, if_pos c_4, if_neg c_5, if_pos c_9]
              exact zW.iret E hrt hlk G (by rw [hf]) (by rw [hf]) d_M_leave_112
            · refine lv_bipush (v := 100) hx hb d_M_leave_101 (by decide) ?_
              refine lv_goto (tgt := 112) hx hb d_M_leave_103 (by decide) ?_
              have hf : f_M_leave nw k n c Z P U V pr = (100, 0, nw, (f_M_leaveRow n (up2 Z 0 (f_M_seatOf k Z pr).toNatClampNeg (Z 1 0)) 0).1, nI c, (f_M_leaveRow n (up2 Z 0 (f_M_seatOf k Z pr).toNatClampNeg (Z 1 0)) 0).2, P, U, V) := by unfold f_M_leave; rw [if_neg c_1, if_pos c_2, if_pos c_3, if_pos c_4, if_neg c_5, if_neg c_9]
              exact zW.iret E hrt hlk G (by rw [hf]) (by rw [hf]) d_M_leave_112
        · refine lv_aload_n hx hb d_M_leave_49 rfl (lv_at hl 2 rfl) ?_
          refine lv_iload_n hx hb d_M_leave_50 rfl (lv_at hl 0 rfl) ?_
          refine z_wv (As := [.int (f_M_waitOf n Z pr)]) (rest := []) (wr := ([] : List Nat).filterMap (fun i => (wM a cI 0 nw (nI k) (nI n) (nI c) Z P U V)[i]?)) (ws' := wM a cI 0 nw (nI k) ((f_M_leaveRow n Z (f_M_waitOf n Z pr)).1) (nI c) ((f_M_leaveRow n Z (f_M_waitOf n Z pr)).2) P U V) E hN hK hA G hl.1 (c_M_leaveRow l D cI a 0 nw k n c Z P U V (f_M_waitOf n Z pr) hk hn hc (mw_in hn c_4).1 (mw_in hn c_4).2) [0, 1, 2, 3, 4, 5, 6, 7, 8, 9, 10, 11, 12, 13, 14, 15, 16, 17] [] [0, 1, 2, 3, 4, 5, 6, 7, 8, 9, 10, 11, 12, 13, 14, 15, 16, 17] rfl rfl rfl rfl rfl rfl (by decide) 0 rfl rfl kz_M_93 rfl ⟨Nat.le_of_ble_eq_true rfl, Nat.le_of_ble_eq_true rfl⟩ rfl (Nat.le_of_ble_eq_true rfl) ⟨Nat.zero_le _, Nat.zero_le _⟩ d_M_leave_51 (fun H locs G => ?_)
          refine W.eq (g2 := F0 m 54 ls []) rfl ?_
          refine lv_bipush (v := 100) hx hb d_M_leave_54 (by decide) ?_
          have hf : f_M_leave nw k n c Z P U V pr = (100, 0, nw, (f_M_leaveRow n Z (f_M_waitOf n Z pr)).1, nI c, (f_M_leaveRow n Z (f_M_waitOf n Z pr)).2, P, U, V) := by unfold f_M_leave; rw [if_neg c_1, if_pos c_2, if_pos c_3, if_neg c_4]
          exact zW.iret E hrt hlk G (by rw [hf]) (by rw [hf]) d_M_leave_56
      · refine lv_bipush (v := (-3)) hx hb d_M_leave_42 (by decide) ?_
        have hf : f_M_leave nw k n c Z P U V pr = ((-3), 0, nw, nI n, nI c, Z, P, U, V) := by unfold f_M_leave; rw [if_neg c_1, if_pos c_2, if_neg c_3]
        exact zW.iret E hrt hlk G (by rw [hf]) (by rw [hf]) d_M_leave_44
    · refine lv_iload_n hx hb d_M_leave_30 rfl (lv_at hl 0 rfl) ?_
      refine lv_if_lt (tgt := 42) hx hb d_M_leave_31 (by decide) (fun c_10 => ?_) (fun c_10 => ?_)
      · refine lv_bipush (v := (-3)) hx hb d_M_leave_42 (by decide) ?_
        have hf : f_M_leave nw k n c Z P U V pr = ((-3), 0, nw, nI n, nI c, Z, P, U, V) := by unfold f_M_leave; rw [if_neg c_1, if_neg c_2, if_pos c_10]
        exact zW.iret E hrt hlk G (by rw [hf]) (by rw [hf]) d_M_leave_44
      · refine lv_aload_n hx hb d_M_leave_34 rfl (lv_at hl 2 rfl) ?_
        refine lv_iload_n hx hb d_M_leave_35 rfl (lv_at hl 3 rfl) ?_
        refine z_rv (As := [.int pr]) (rest := []) E hN hK G.1 hl.1 (c_M_has l D cI a 0 nw k n c Z P U V pr hk hn hc hU) [0, 1, 2, 3, 4, 5, 6, 7, 8, 9, 10, 11, 12, 13, 14, 15, 16, 17] rfl 0 rfl rfl kz_M_90 rfl ⟨Nat.le_of_ble_eq_true rfl, Nat.le_of_ble_eq_true rfl⟩ rfl (Nat.le_of_ble_eq_true rfl) ⟨Nat.zero_le _, Nat.zero_le _⟩ d_M_leave_36 ?_
        refine lv_if_le (tgt := 45) hx hb d_M_leave_39 (by decide) (fun c_11 => ?_) (fun c_11 => ?_)
        · refine lv_iload_n hx hb d_M_leave_45 rfl (lv_at hl 0 rfl) ?_
          refine lv_if_lt (tgt := 57) hx hb d_M_leave_46 (by decide) (fun c_12 => absurd c_12 c_10) (fun c_12 => ?_)
          refine lv_aload_n hx hb d_M_leave_49 rfl (lv_at hl 2 rfl) ?_
          refine lv_iload_n hx hb d_M_leave_50 rfl (lv_at hl 0 rfl) ?_
          refine z_wv (As := [.int (f_M_waitOf n Z pr)]) (rest := []) (wr := ([] : List Nat).filterMap (fun i => (wM a cI 0 nw (nI k) (nI n) (nI c) Z P U V)[i]?)) (ws' := wM a cI 0 nw (nI k) ((f_M_leaveRow n Z (f_M_waitOf n Z pr)).1) (nI c) ((f_M_leaveRow n Z (f_M_waitOf n Z pr)).2) P U V) E hN hK hA G hl.1 (c_M_leaveRow l D cI a 0 nw k n c Z P U V (f_M_waitOf n Z pr) hk hn hc (mw_in hn c_10).1 (mw_in hn c_10).2) [0, 1, 2, 3, 4, 5, 6, 7, 8, 9, 10, 11, 12, 13, 14, 15, 16, 17] [] [0, 1, 2, 3, 4, 5, 6, 7, 8, 9, 10, 11, 12, 13, 14, 15, 16, 17] rfl rfl rfl rfl rfl rfl (by decide) 0 rfl rfl kz_M_93 rfl ⟨Nat.le_of_ble_eq_true rfl, Nat.le_of_ble_eq_true rfl⟩ rfl (Nat.le_of_ble_eq_true rfl) ⟨Nat.zero_le _, Nat.zero_le _⟩ d_M_leave_51 (fun H locs G => ?_)
          refine W.eq (g2 := F0 m 54 ls []) rfl ?_
          refine lv_bipush (v := 100) hx hb d_M_leave_54 (by decide) ?_
          have hf : f_M_leave nw k n c Z P U V pr = (100, 0, nw, (f_M_leaveRow n Z (f_M_waitOf n Z pr)).1, nI c, (f_M_leaveRow n Z (f_M_waitOf n Z pr)).2, P, U, V) := by unfold f_M_leave; rw [if_neg c_1, if_neg c_2, if_neg c_10, if_pos c_11]
          exact zW.iret E hrt hlk G (by rw [hf]) (by rw [hf]) d_M_leave_56
        · refine lv_bipush (v := (-3)) hx hb d_M_leave_42 (by decide) ?_
          have hf : f_M_leave nw k n c Z P U V pr = ((-3), 0, nw, nI n, nI c, Z, P, U, V) := by unfold f_M_leave; rw [if_neg c_1, if_neg c_2, if_neg c_10, if_neg c_11]
          exact zW.iret E hrt hlk G (by rw [hf]) (by rw [hf]) d_M_leave_44
  · refine lv_iconst (v := (-1)) hx hb d_M_leave_12 (by decide) ?_
    have hf : f_M_leave nw k n c Z P U V pr = ((-1), 0, nw, nI n, nI c, Z, P, U, V) := by unfold f_M_leave; rw [if_pos c_1]
    exact zW.iret E hrt hlk G (by rw [hf]) (by rw [hf]) d_M_leave_13
def f_M_right (nw : Int32) (n : Nat) (c : Nat) (Z : Nat → Nat → Int32) (P : Nat → Nat → Int32) (U : Nat → Nat → Int32) (V : Nat → Nat → Int32) (pr : Int32) (right : Int32) : Int32 × Int32 × Int32 × Int32 × Int32 × (Nat → Nat → Int32) × (Nat → Nat → Int32) × (Nat → Nat → Int32) × (Nat → Nat → Int32) := (if (f_M_isPerson pr) = 0 then ((-1), 0, nw, nI n, nI c, Z, P, U, V) else (if (f_M_in right 0 3) = 0 then ((-2), 0, nw, nI n, nI c, Z, P, U, V) else (1, 0, nw, nI n, nI c, Z, up2 P 0 pr.toNatClampNeg right, U, V)))
set_option maxHeartbeats 4000000 in
set_option maxRecDepth 100000 in
theorem c_M_right (l : Launch) (D : va_G) (cI : ClassId) (a : Nat → Nat) (th : Int32) (nw : Int32) (k : Nat) (n : Nat) (c : Nat) (Z : Nat → Nat → Int32) (P : Nat → Nat → Int32) (U : Nat → Nat → Int32) (V : Nat → Nat → Int32) (pr : Int32) (right : Int32) (hk : k ≤ 20) (hn : n ≤ 60) (hc : c ≤ 300) : zW l D [(cI, .int)] y_M_right b_M_right 3 (some .int) 2 42 [.ref (a 0), .int pr, .int right] (wM a cI th nw (nI k) (nI n) (nI c) Z P U V) (wM a cI ((f_M_right nw n c Z P U V pr right).2.1) ((f_M_right nw n c Z P U V pr right).2.2.1) (nI k) ((f_M_right nw n c Z P U V pr right).2.2.2.1) ((f_M_right nw n c Z P U V pr right).2.2.2.2.1) ((f_M_right nw n c Z P U V pr right).2.2.2.2.2.1) ((f_M_right nw n c Z P U V pr right).2.2.2.2.2.2.1) ((f_M_right nw n c Z P U V pr right).2.2.2.2.2.2.2.1) ((f_M_right nw n c Z P U V pr right).2.2.2.2.2.2.2.2)) (some (.int (f_M_right nw n c Z P U V pr right).1)) := by
  refine zW.of (by decide) (Nat.le_of_ble_eq_true rfl) ?_
  intro p e s m below meth c0 ls A E hrt hlk hN hK hA G hl
  have hx := E.1
  have hb := E.2.1
  have hl : lv_has ls 3 [(0, .ref (a 0)), (1, .int pr), (2, .int right)] := hl
  refine lv_aload_n hx hb d_M_right_0 rfl (lv_at hl 0 rfl) ?_
  refine lv_iconst (v := 0) hx hb d_M_right_1 (by decide) ?_
  refine z_put (ty := .int) (ws' := wM a cI 0 nw (nI k) (nI n) (nI c) Z P U V) E hK G i_M t_M t_M_ok n_M 0 0 rfl rfl (by decide) kf_M_65 rfl rfl rfl rfl (Nat.le_of_ble_eq_true rfl) rfl d_M_right_2 (fun H locs G => ?_)
  refine lv_iload_n hx hb d_M_right_5 rfl (lv_at hl 1 rfl) ?_
  refine z_rs (As := [.int pr]) (rest := []) E hN hK hl.1 (c_M_isPerson l D [(cI, .int)] pr) kz_M_79 rfl ⟨Nat.le_of_ble_eq_true rfl, Nat.le_of_ble_eq_true rfl⟩ rfl (Nat.le_of_ble_eq_true rfl) ⟨Nat.zero_le _, Nat.zero_le _⟩ d_M_right_6 ?_
  refine lv_if_ne (tgt := 14) hx hb d_M_right_9 (by decide) (fun c_1 => ?_) (fun c_1 => ?_)
  · refine lv_iload_n hx hb d_M_right_14 rfl (lv_at hl 2 rfl) ?_
    refine lv_iconst (v := 0) hx hb d_M_right_15 (by decide) ?_
    refine lv_iconst (v := 3) hx hb d_M_right_16 (by decide) ?_
    refine z_rs (As := [.int right, .int 0, .int 3]) (rest := []) E hN hK hl.1 (c_M_in l D [(cI, .int)] right 0 3) kz_M_68 rfl ⟨Nat.le_of_ble_eq_true rfl, Nat.le_of_ble_eq_true rfl⟩ rfl (Nat.le_of_ble_eq_true rfl) ⟨Nat.zero_le _, Nat.zero_le _⟩ d_M_right_17 ?_
    refine lv_if_ne (tgt := 26) hx hb d_M_right_20 (by decide) (fun c_2 => ?_) (fun c_2 => ?_)
    · refine lv_aload_n hx hb d_M_right_26 rfl (lv_at hl 0 rfl) ?_
      refine z_get (v := .ref (a 3)) E hK G.1 i_M 0 6 rfl rfl (by decide) kf_M_16 rfl d_M_right_27 ?_
      refine lv_iload_n hx hb d_M_right_30 rfl (lv_at hl 1 rfl) ?_
      refine lv_iload_n hx hb d_M_right_31 rfl (lv_at hl 2 rfl) ?_
      refine z_ast (f := P 0) (ws' := wM a cI 0 nw (nI k) (nI n) (nI c) Z (up2 P 0 pr.toNatClampNeg right) U V) E hK G 3 0 rfl rfl (in_personM c_1) rfl d_M_right_32 (fun H locs G => ?_)
      refine lv_iconst (v := 1) hx hb d_M_right_33 (by decide) ?_
      have hf : f_M_right nw n c Z P U V pr right = (1, 0, nw, nI n, nI c, Z, up2 P 0 pr.toNatClampNeg right, U, V) := by unfold f_M_right; rw [if_neg c_1, if_neg c_2]
      exact zW.iret E hrt hlk G (by rw [hf]) (by rw [hf]) d_M_right_34
    · refine lv_bipush (v := (-2)) hx hb d_M_right_23 (by decide) ?_
      have hf : f_M_right nw n c Z P U V pr right = ((-2), 0, nw, nI n, nI c, Z, P, U, V) := by unfold f_M_right; rw [if_neg c_1, if_pos c_2]
      exact zW.iret E hrt hlk G (by rw [hf]) (by rw [hf]) d_M_right_25
  · refine lv_iconst (v := (-1)) hx hb d_M_right_12 (by decide) ?_
    have hf : f_M_right nw n c Z P U V pr right = ((-1), 0, nw, nI n, nI c, Z, P, U, V) := by unfold f_M_right; rw [if_pos c_1]
    exact zW.iret E hrt hlk G (by rw [hf]) (by rw [hf]) d_M_right_13
def f_M_limit (nw : Int32) (n : Nat) (c : Nat) (Z : Nat → Nat → Int32) (P : Nat → Nat → Int32) (U : Nat → Nat → Int32) (V : Nat → Nat → Int32) (pr : Int32) (many : Int32) (pages : Int32) : Int32 × Int32 × Int32 × Int32 × Int32 × (Nat → Nat → Int32) × (Nat → Nat → Int32) × (Nat → Nat → Int32) × (Nat → Nat → Int32) := (if (f_M_isPerson pr) = 0 then ((-1), 0, nw, nI n, nI c, Z, P, U, V) else (if (f_M_in many 0 9) = 0 then ((-2), 0, nw, nI n, nI c, Z, P, U, V) else (if (f_M_in pages 0 500) = 0 then ((-2), 0, nw, nI n, nI c, Z, P, U, V) else (1, 0, nw, nI n, nI c, Z, up2 (up2 P 1 pr.toNatClampNeg many) 2 pr.toNatClampNeg pages, U, V))))
set_option maxHeartbeats 4000000 in
set_option maxRecDepth 100000 in
theorem c_M_limit (l : Launch) (D : va_G) (cI : ClassId) (a : Nat → Nat) (th : Int32) (nw : Int32) (k : Nat) (n : Nat) (c : Nat) (Z : Nat → Nat → Int32) (P : Nat → Nat → Int32) (U : Nat → Nat → Int32) (V : Nat → Nat → Int32) (pr : Int32) (many : Int32) (pages : Int32) (hk : k ≤ 20) (hn : n ≤ 60) (hc : c ≤ 300) : zW l D [(cI, .int)] y_M_limit b_M_limit 4 (some .int) 2 42 [.ref (a 0), .int pr, .int many, .int pages] (wM a cI th nw (nI k) (nI n) (nI c) Z P U V) (wM a cI ((f_M_limit nw n c Z P U V pr many pages).2.1) ((f_M_limit nw n c Z P U V pr many pages).2.2.1) (nI k) ((f_M_limit nw n c Z P U V pr many pages).2.2.2.1) ((f_M_limit nw n c Z P U V pr many pages).2.2.2.2.1) ((f_M_limit nw n c Z P U V pr many pages).2.2.2.2.2.1) ((f_M_limit nw n c Z P U V pr many pages).2.2.2.2.2.2.1) ((f_M_limit nw n c Z P U V pr many pages).2.2.2.2.2.2.2.1) ((f_M_limit nw n c Z P U V pr many pages).2.2.2.2.2.2.2.2)) (some (.int (f_M_limit nw n c Z P U V pr many pages).1)) := by
  refine zW.of (by decide) (Nat.le_of_ble_eq_true rfl) ?_
  intro p e s m below meth c0 ls A E hrt hlk hN hK hA G hl
  have hx := E.1
  have hb := E.2.1
  have hl : lv_has ls 4 [(0, .ref (a 0)), (1, .int pr), (2, .int many), (3, .int pages)] := hl
  refine lv_aload_n hx hb d_M_limit_0 rfl (lv_at hl 0 rfl) ?_
  refine lv_iconst (v := 0) hx hb d_M_limit_1 (by decide) ?_
  refine z_put (ty := .int) (ws' := wM a cI 0 nw (nI k) (nI n) (nI c) Z P U V) E hK G i_M t_M t_M_ok n_M 0 0 rfl rfl (by decide) kf_M_65 rfl rfl rfl rfl (Nat.le_of_ble_eq_true rfl) rfl d_M_limit_2 (fun H locs G => ?_)
  refine lv_iload_n hx hb d_M_limit_5 rfl (lv_at hl 1 rfl) ?_
  refine z_rs (As := [.int pr]) (rest := []) E hN hK hl.1 (c_M_isPerson l D [(cI, .int)] pr) kz_M_79 rfl ⟨Nat.le_of_ble_eq_true rfl, Nat.le_of_ble_eq_true rfl⟩ rfl (Nat.le_of_ble_eq_true rfl) ⟨Nat.zero_le _, Nat.zero_le _⟩ d_M_limit_6 ?_
  refine lv_if_ne (tgt := 14) hx hb d_M_limit_9 (by decide) (fun c_1 => ?_) (fun c_1 => ?_)
  · refine lv_iload_n hx hb d_M_limit_14 rfl (lv_at hl 2 rfl) ?_
    refine lv_iconst (v := 0) hx hb d_M_limit_15 (by decide) ?_
    refine lv_bipush (v := 9) hx hb d_M_limit_16 (by decide) ?_
    refine z_rs (As := [.int many, .int 0, .int 9]) (rest := []) E hN hK hl.1 (c_M_in l D [(cI, .int)] many 0 9) kz_M_68 rfl ⟨Nat.le_of_ble_eq_true rfl, Nat.le_of_ble_eq_true rfl⟩ rfl (Nat.le_of_ble_eq_true rfl) ⟨Nat.zero_le _, Nat.zero_le _⟩ d_M_limit_18 ?_
    refine lv_if_eq (tgt := 35) hx hb d_M_limit_21 (by decide) (fun c_2 => ?_) (fun c_2 => ?_)
    · refine lv_bipush (v := (-2)) hx hb d_M_limit_35 (by decide) ?_
      have hf : f_M_limit nw n c Z P U V pr many pages = ((-2), 0, nw, nI n, nI c, Z, P, U, V) := by unfold f_M_limit; rw [if_neg c_1, if_pos c_2]
      exact zW.iret E hrt hlk G (by rw [hf]) (by rw [hf]) d_M_limit_37
    · refine lv_iload_n hx hb d_M_limit_24 rfl (lv_at hl 3 rfl) ?_
      refine lv_iconst (v := 0) hx hb d_M_limit_25 (by decide) ?_
      refine lv_sipush (v := 500) hx hb d_M_limit_26 (by decide) ?_
      refine z_rs (As := [.int pages, .int 0, .int 500]) (rest := []) E hN hK hl.1 (c_M_in l D [(cI, .int)] pages 0 500) kz_M_68 rfl ⟨Nat.le_of_ble_eq_true rfl, Nat.le_of_ble_eq_true rfl⟩ rfl (Nat.le_of_ble_eq_true rfl) ⟨Nat.zero_le _, Nat.zero_le _⟩ d_M_limit_29 ?_
      refine lv_if_ne (tgt := 38) hx hb d_M_limit_32 (by decide) (fun c_3 => ?_) (fun c_3 => ?_)
      · refine lv_aload_n hx hb d_M_limit_38 rfl (lv_at hl 0 rfl) ?_
        refine z_get (v := .ref (a 4)) E hK G.1 i_M 0 7 rfl rfl (by decide) kf_M_19 rfl d_M_limit_39 ?_
        refine lv_iload_n hx hb d_M_limit_42 rfl (lv_at hl 1 rfl) ?_
        refine lv_iload_n hx hb d_M_limit_43 rfl (lv_at hl 2 rfl) ?_
        refine z_ast (f := P 1) (ws' := wM a cI 0 nw (nI k) (nI n) (nI c) Z (up2 P 1 pr.toNatClampNeg many) U V) E hK G 4 0 rfl rfl (in_personM c_1) rfl d_M_limit_44 (fun H locs G => ?_)
        refine lv_aload_n hx hb d_M_limit_45 rfl (lv_at hl 0 rfl) ?_
        refine z_get (v := .ref (a 5)) E hK G.1 i_M 0 8 rfl rfl (by decide) kf_M_22 rfl d_M_limit_46 ?_
        refine lv_iload_n hx hb d_M_limit_49 rfl (lv_at hl 1 rfl) ?_
        refine lv_iload_n hx hb d_M_limit_50 rfl (lv_at hl 3 rfl) ?_
        refine z_ast (f := (up2 P 1 pr.toNatClampNeg many) 2) (ws' := wM a cI 0 nw (nI k) (nI n) (nI c) Z (up2 (up2 P 1 pr.toNatClampNeg many) 2 pr.toNatClampNeg pages) U V) E hK G 5 0 rfl rfl (in_personM c_1) rfl d_M_limit_51 (fun H locs G => ?_)
        refine lv_iconst (v := 1) hx hb d_M_limit_52 (by decide) ?_
        have hf : f_M_limit nw n c Z P U V pr many pages = (1, 0, nw, nI n, nI c, Z, up2 (up2 P 1 pr.toNatClampNeg many) 2 pr.toNatClampNeg pages, U, V) := by unfold f_M_limit; rw [if_neg c_1, if_neg c_2, if_neg c_3]
        exact zW.iret E hrt hlk G (by rw [hf]) (by rw [hf]) d_M_limit_53
      · refine lv_bipush (v := (-2)) hx hb d_M_limit_35 (by decide) ?_
        have hf : f_M_limit nw n c Z P U V pr many pages = ((-2), 0, nw, nI n, nI c, Z, P, U, V) := by unfold f_M_limit; rw [if_neg c_1, if_neg c_2, if_pos c_3]
        exact zW.iret E hrt hlk G (by rw [hf]) (by rw [hf]) d_M_limit_37
  · refine lv_iconst (v := (-1)) hx hb d_M_limit_12 (by decide) ?_
    have hf : f_M_limit nw n c Z P U V pr many pages = ((-1), 0, nw, nI n, nI c, Z, P, U, V) := by unfold f_M_limit; rw [if_pos c_1]
    exact zW.iret E hrt hlk G (by rw [hf]) (by rw [hf]) d_M_limit_13
def f_M_ask_L (nw : Int32) (n : Nat) (c : Nat) (Z : Nat → Nat → Int32) (P : Nat → Nat → Int32) (U : Nat → Nat → Int32) (V : Nat → Nat → Int32) (pr : Int32) (u : Int32) (t : Int32) : Nat → Nat → Int32 → Int32 × Int32 × Int32 × Int32 × Int32 × (Nat → Nat → Int32) × (Nat → Nat → Int32) × (Nat → Nat → Int32) × (Nat → Nat → Int32)
  | 0, k0, x4 => (if x4 = 0 then (if (U 2 u.toNatClampNeg) ≤ (P 0 pr.toNatClampNeg) then (if (P 1 pr.toNatClampNeg) ≤ (f_M_living c V pr) then ((-4), 0, nw, nI n, nI c, Z, P, U, V) else (if (nI c) = 300 then ((-4), 0, nw, nI n, nI c, Z, P, U, V) else (((nI c) + 1) - 1, 0, t, nI n, (nI c) + 1, Z, P, U, up2 (up2 (up2 (up2 (up2 (up2 V 0 c pr) 1 c u) 2 c 0) 3 c t) 4 c (-1)) 5 c (-1)))) else ((-5), 0, nw, nI n, nI c, Z, P, U, V)) else ((-3), 0, nw, nI n, nI c, Z, P, U, V))
  | d + 1, k0, x4 => (if x4 = 0 then (if (V 0 k0) = pr then (if (V 1 k0) = u then (if (f_M_lives V (nI k0)) = 0 then (f_M_ask_L nw n c Z P U V pr u t d (k0 + 1) 0) else (f_M_ask_L nw n c Z P U V pr u t d (k0 + 1) 1)) else (f_M_ask_L nw n c Z P U V pr u t d (k0 + 1) 0)) else (f_M_ask_L nw n c Z P U V pr u t d (k0 + 1) 0)) else (f_M_ask_L nw n c Z P U V pr u t d (k0 + 1) 1))
theorem f_M_ask_L_0 (nw : Int32) (n : Nat) (c : Nat) (Z : Nat → Nat → Int32) (P : Nat → Nat → Int32) (U : Nat → Nat → Int32) (V : Nat → Nat → Int32) (pr : Int32) (u : Int32) (t : Int32) (k0 : Nat) (x4 : Int32) : f_M_ask_L nw n c Z P U V pr u t 0 k0 x4 = (if x4 = 0 then (if (U 2 u.toNatClampNeg) ≤ (P 0 pr.toNatClampNeg) then (if (P 1 pr.toNatClampNeg) ≤ (f_M_living c V pr) then ((-4), 0, nw, nI n, nI c, Z, P, U, V) else (if (nI c) = 300 then ((-4), 0, nw, nI n, nI c, Z, P, U, V) else (((nI c) + 1) - 1, 0, t, nI n, (nI c) + 1, Z, P, U, up2 (up2 (up2 (up2 (up2 (up2 V 0 c pr) 1 c u) 2 c 0) 3 c t) 4 c (-1)) 5 c (-1)))) else ((-5), 0, nw, nI n, nI c, Z, P, U, V)) else ((-3), 0, nw, nI n, nI c, Z, P, U, V)) := rfl
theorem f_M_ask_L_s (nw : Int32) (n : Nat) (c : Nat) (Z : Nat → Nat → Int32) (P : Nat → Nat → Int32) (U : Nat → Nat → Int32) (V : Nat → Nat → Int32) (pr : Int32) (u : Int32) (t : Int32) (d k0 : Nat) (x4 : Int32) : f_M_ask_L nw n c Z P U V pr u t (d + 1) k0 x4 = (if x4 = 0 then (if (V 0 k0) = pr then (if (V 1 k0) = u then (if (f_M_lives V (nI k0)) = 0 then (f_M_ask_L nw n c Z P U V pr u t d (k0 + 1) 0) else (f_M_ask_L nw n c Z P U V pr u t d (k0 + 1) 1)) else (f_M_ask_L nw n c Z P U V pr u t d (k0 + 1) 0)) else (f_M_ask_L nw n c Z P U V pr u t d (k0 + 1) 0)) else (f_M_ask_L nw n c Z P U V pr u t d (k0 + 1) 1)) := rfl
def f_M_ask (nw : Int32) (k : Nat) (n : Nat) (c : Nat) (Z : Nat → Nat → Int32) (P : Nat → Nat → Int32) (U : Nat → Nat → Int32) (V : Nat → Nat → Int32) (pr : Int32) (u : Int32) (t : Int32) : Int32 × Int32 × Int32 × Int32 × Int32 × (Nat → Nat → Int32) × (Nat → Nat → Int32) × (Nat → Nat → Int32) × (Nat → Nat → Int32) := (if (f_M_isPerson pr) = 0 then ((-1), 0, nw, nI n, nI c, Z, P, U, V) else (if (f_M_isUnit u) = 0 then ((-1), 0, nw, nI n, nI c, Z, P, U, V) else (if (f_M_isNow nw t) = 0 then ((-2), 0, nw, nI n, nI c, Z, P, U, V) else (if 0 ≤ (f_M_seatOf k Z pr) then (f_M_ask_L nw n c Z P U V pr u t c 0 0) else (f_M_ask_L nw n c Z P U V pr u t c 0 1)))))
set_option maxHeartbeats 4000000 in
set_option maxRecDepth 100000 in
theorem lp_M_ask (l : Launch) (D : va_G) (cI : ClassId) (a : Nat → Nat) (nw : Int32) (k : Nat) (n : Nat) (c : Nat) (Z : Nat → Nat → Int32) (P : Nat → Nat → Int32) (U : Nat → Nat → Int32) (V : Nat → Nat → Int32) (pr : Int32) (u : Int32) (t : Int32) (hk : k ≤ 20) (hn : n ≤ 60) (hc : c ≤ 300) {p : Program} {e : Env} {s : State} {m : MethodId} {below : List Frame} {meth : Method} {c0 : Code} {A : Nat → Prop} (E : CallFix p m c0 b_M_ask 6 s ([.ref (a 0), .int pr, .int u, .int t] : List Value).toArray zB y_M_ask.cls) (hrt : meth.sig.returnType = (some .int)) (hlk : meth.locks = false) (hN : zN s) (hK : va_K D vwCl [(cI, .int)] s) (hA : ∀ q, s.heap.size ≤ q → A q) :
    ∀ (d k0 : Nat) (x4 : Int32), k0 + d = c → (¬ f_M_isPerson pr = 0 ∧ ¬ f_M_isUnit u = 0) → ∀ X : Int32 × Int32 × Int32 × Int32 × Int32 × (Nat → Nat → Int32) × (Nat → Nat → Int32) × (Nat → Nat → Int32) × (Nat → Nat → Int32), f_M_ask_L nw n c Z P U V pr u t d k0 x4 = X → ∀ (H : Heap) (locs : List Loc), zG D A s H locs (wM a cI 0 nw (nI k) (nI n) (nI c) Z P U V) → ∀ ls : Array Slot, lv_has ls 6 [(5, .int (nI k0)), (4, .int x4), (0, .ref (a 0)), (1, .int pr), (2, .int u), (3, .int t)] → W p l e { frames := 2, cells := 0, slots := 0, locals := 44 } s m ([.ref (a 0), .int pr, .int u, .int t] : List Value).toArray below meth c0 H locs 0 0 (MQ below (zQ D A (wM a cI X.2.1 X.2.2.1 (nI k) X.2.2.2.1 X.2.2.2.2.1 X.2.2.2.2.2.1 X.2.2.2.2.2.2.1 X.2.2.2.2.2.2.2.1 X.2.2.2.2.2.2.2.2) (some (.int X.1))) ([.ref (a 0), .int pr, .int u, .int t] : List Value).toArray s 0 0 A) (F0 m 50 ls []) := by
  have hx := E.1
  have hb := E.2.1
  intro d
  induction d with
  | zero =>
    intro k0 x4 hkd hiv X hr H locs G ls hl
    refine lv_iload hx hb d_M_ask_50 (lv_at hl 0 rfl) ?_
    refine lv_aload_n hx hb d_M_ask_52 rfl (lv_at hl 2 rfl) ?_
    refine z_get (v := .int (nI c)) E hK G.1 i_M 0 15 rfl rfl (by decide) kf_M_97 rfl d_M_ask_53 ?_
    refine lv_icmp_ge (tgt := 108) hx hb d_M_ask_56 (by decide) (fun c_1 => ?_) (fun c_1 => absurd (nI_le (by omega) (by omega)) c_1)
    refine lv_iload hx hb d_M_ask_108 (lv_at hl 1 rfl) ?_
    refine lv_if_eq (tgt := 116) hx hb d_M_ask_110 (by decide) (fun c_2 => ?_) (fun c_2 => ?_)
    · refine lv_aload_n hx hb d_M_ask_116 rfl (lv_at hl 2 rfl) ?_
      refine z_get (v := .ref (a 3)) E hK G.1 i_M 0 6 rfl rfl (by decide) kf_M_16 rfl d_M_ask_117 ?_
      refine lv_iload_n hx hb d_M_ask_120 rfl (lv_at hl 3 rfl) ?_
      refine z_ald (f := P 0) E hK G.1 3 0 rfl rfl (in_personM hiv.1) d_M_ask_121 ?_
      refine lv_aload_n hx hb d_M_ask_122 rfl (lv_at hl 2 rfl) ?_
      refine z_get (v := .ref (a 10)) E hK G.1 i_M 0 13 rfl rfl (by decide) kf_M_37 rfl d_M_ask_123 ?_
      refine lv_iload_n hx hb d_M_ask_126 rfl (lv_at hl 4 rfl) ?_
      refine z_ald (f := U 2) E hK G.1 10 0 rfl rfl (in_unitM hiv.2) d_M_ask_127 ?_
      refine lv_icmp_ge (tgt := 134) hx hb d_M_ask_128 (by decide) (fun c_3 => ?_) (fun c_3 => ?_)
      · refine lv_aload_n hx hb d_M_ask_134 rfl (lv_at hl 2 rfl) ?_
        refine lv_iload_n hx hb d_M_ask_135 rfl (lv_at hl 3 rfl) ?_
        refine z_rv (As := [.int pr]) (rest := []) E hN hK G.1 hl.1 (c_M_living l D cI a 0 nw k n c Z P U V pr hk hn hc) [0, 1, 2, 3, 4, 5, 6, 7, 8, 9, 10, 11, 12, 13, 14, 15, 16, 17] rfl 0 rfl rfl kz_M_109 rfl ⟨Nat.le_of_ble_eq_true rfl, Nat.le_of_ble_eq_true rfl⟩ rfl (Nat.le_of_ble_eq_true rfl) ⟨Nat.zero_le _, Nat.zero_le _⟩ d_M_ask_136 ?_
        refine lv_aload_n hx hb d_M_ask_139 rfl (lv_at hl 2 rfl) ?_
        refine z_get (v := .ref (a 4)) E hK G.1 i_M 0 7 rfl rfl (by decide) kf_M_19 rfl d_M_ask_140 ?_
        refine lv_iload_n hx hb d_M_ask_143 rfl (lv_at hl 3 rfl) ?_
        refine z_ald (f := P 1) E hK G.1 4 0 rfl rfl (in_personM hiv.1) d_M_ask_144 ?_
        refine lv_icmp_ge (tgt := 158) hx hb d_M_ask_145 (by decide) (fun c_4 => ?_) (fun c_4 => ?_)
        · refine lv_bipush (v := (-4)) hx hb d_M_ask_158 (by decide) ?_
          have hf : X = ((-4), 0, nw, nI n, nI c, Z, P, U, V) := by rw [← hr, f_M_ask_L_0, if_pos c_2, if_pos c_3, if_pos c_4]
          exact zW.iret E hrt hlk G (by rw [hf]) (by rw [hf]) d_M_ask_160
        · refine lv_aload_n hx hb d_M_ask_148 rfl (lv_at hl 2 rfl) ?_
          refine z_get (v := .int (nI c)) E hK G.1 i_M 0 15 rfl rfl (by decide) kf_M_97 rfl d_M_ask_149 ?_
          refine lv_sipush (v := 300) hx hb d_M_ask_152 (by decide) ?_
          refine lv_icmp_ne (tgt := 161) hx hb d_M_ask_155 (by decide) (fun c_5 => ?_) (fun c_5 => ?_)
          · have h300 : c < 300 := ne300 hc c_5
            refine lv_aload_n hx hb d_M_ask_161 rfl (lv_at hl 2 rfl) ?_
            refine lv_iload_n hx hb d_M_ask_162 rfl (lv_at hl 5 rfl) ?_
            refine z_put (ty := .int) (ws' := wM a cI 0 t (nI k) (nI n) (nI c) Z P U V) E hK G i_M t_M t_M_ok n_M 0 1 rfl rfl (by decide) kf_M_72 rfl rfl rfl rfl (Nat.le_of_ble_eq_true rfl) rfl d_M_ask_163 (fun H locs G => ?_)
            refine lv_aload_n hx hb d_M_ask_166 rfl (lv_at hl 2 rfl) ?_
            refine z_get (v := .ref (a 12)) E hK G.1 i_M 0 16 rfl rfl (by decide) kf_M_43 rfl d_M_ask_167 ?_
            refine lv_aload_n hx hb d_M_ask_170 rfl (lv_at hl 2 rfl) ?_
            refine z_get (v := .int (nI c)) E hK G.1 i_M 0 15 rfl rfl (by decide) kf_M_97 rfl d_M_ask_171 ?_
            refine lv_iload_n hx hb d_M_ask_174 rfl (lv_at hl 3 rfl) ?_
            refine z_astN (f := V 0) (j := c) (ws' := wM a cI 0 t (nI k) (nI n) (nI c) Z P U (up2 V 0 c pr)) E hK G 12 0 rfl rfl rfl (by omega) (by decide) rfl d_M_ask_175 (fun H locs G => ?_)
            refine lv_aload_n hx hb d_M_ask_176 rfl (lv_at hl 2 rfl) ?_
            refine z_get (v := .ref (a 13)) E hK G.1 i_M 0 17 rfl rfl (by decide) kf_M_46 rfl d_M_ask_177 ?_
            refine lv_aload_n hx hb d_M_ask_180 rfl (lv_at hl 2 rfl) ?_
            refine z_get (v := .int (nI c)) E hK G.1 i_M 0 15 rfl rfl (by decide) kf_M_97 rfl d_M_ask_181 ?_
            refine lv_iload_n hx hb d_M_ask_184 rfl (lv_at hl 4 rfl) ?_
            refine z_astN (f := (up2 V 0 c pr) 1) (j := c) (ws' := wM a cI 0 t (nI k) (nI n) (nI c) Z P U (up2 (up2 V 0 c pr) 1 c u)) E hK G 13 0 rfl rfl rfl (by omega) (by decide) rfl d_M_ask_185 (fun H locs G => ?_)
            refine lv_aload_n hx hb d_M_ask_186 rfl (lv_at hl 2 rfl) ?_
            refine z_get (v := .ref (a 14)) E hK G.1 i_M 0 18 rfl rfl (by decide) kf_M_49 rfl d_M_ask_187 ?_
            refine lv_aload_n hx hb d_M_ask_190 rfl (lv_at hl 2 rfl) ?_
            refine z_get (v := .int (nI c)) E hK G.1 i_M 0 15 rfl rfl (by decide) kf_M_97 rfl d_M_ask_191 ?_
            refine lv_iconst (v := 0) hx hb d_M_ask_194 (by decide) ?_
            refine z_astN (f := (up2 (up2 V 0 c pr) 1 c u) 2) (j := c) (ws' := wM a cI 0 t (nI k) (nI n) (nI c) Z P U (up2 (up2 (up2 V 0 c pr) 1 c u) 2 c 0)) E hK G 14 0 rfl rfl rfl (by omega) (by decide) rfl d_M_ask_195 (fun H locs G => ?_)
            refine lv_aload_n hx hb d_M_ask_196 rfl (lv_at hl 2 rfl) ?_
            refine z_get (v := .ref (a 15)) E hK G.1 i_M 0 19 rfl rfl (by decide) kf_M_52 rfl d_M_ask_197 ?_
            refine lv_aload_n hx hb d_M_ask_200 rfl (lv_at hl 2 rfl) ?_
            refine z_get (v := .int (nI c)) E hK G.1 i_M 0 15 rfl rfl (by decide) kf_M_97 rfl d_M_ask_201 ?_
            refine lv_iload_n hx hb d_M_ask_204 rfl (lv_at hl 5 rfl) ?_
            refine z_astN (f := (up2 (up2 (up2 V 0 c pr) 1 c u) 2 c 0) 3) (j := c) (ws' := wM a cI 0 t (nI k) (nI n) (nI c) Z P U (up2 (up2 (up2 (up2 V 0 c pr) 1 c u) 2 c 0) 3 c t)) E hK G 15 0 rfl rfl rfl (by omega) (by decide) rfl d_M_ask_205 (fun H locs G => ?_)
            refine lv_aload_n hx hb d_M_ask_206 rfl (lv_at hl 2 rfl) ?_
            refine z_get (v := .ref (a 16)) E hK G.1 i_M 0 20 rfl rfl (by decide) kf_M_55 rfl d_M_ask_207 ?_
            refine lv_aload_n hx hb d_M_ask_210 rfl (lv_at hl 2 rfl) ?_
            refine z_get (v := .int (nI c)) E hK G.1 i_M 0 15 rfl rfl (by decide) kf_M_97 rfl d_M_ask_211 ?_
            refine lv_iconst (v := (-1)) hx hb d_M_ask_214 (by decide) ?_
            refine z_astN (f := (up2 (up2 (up2 (up2 V 0 c pr) 1 c u) 2 c 0) 3 c t) 4) (j := c) (ws' := wM a cI 0 t (nI k) (nI n) (nI c) Z P U (up2 (up2 (up2 (up2 (up2 V 0 c pr) 1 c u) 2 c 0) 3 c t) 4 c (-1))) E hK G 16 0 rfl rfl rfl (by omega) (by decide) rfl d_M_ask_215 (fun H locs G => ?_)
            refine lv_aload_n hx hb d_M_ask_216 rfl (lv_at hl 2 rfl) ?_
            refine z_get (v := .ref (a 17)) E hK G.1 i_M 0 21 rfl rfl (by decide) kf_M_58 rfl d_M_ask_217 ?_
            refine lv_aload_n hx hb d_M_ask_220 rfl (lv_at hl 2 rfl) ?_
            refine z_get (v := .int (nI c)) E hK G.1 i_M 0 15 rfl rfl (by decide) kf_M_97 rfl d_M_ask_221 ?_
            refine lv_iconst (v := (-1)) hx hb d_M_ask_224 (by decide) ?_
            refine z_astN (f := (up2 (up2 (up2 (up2 (up2 V 0 c pr) 1 c u) 2 c 0) 3 c t) 4 c (-1)) 5) (j := c) (ws' := wM a cI 0 t (nI k) (nI n) (nI c) Z P U (up2 (up2 (up2 (up2 (up2 (up2 V 0 c pr) 1 c u) 2 c 0) 3 c t) 4 c (-1)) 5 c (-1))) E hK G 17 0 rfl rfl rfl (by omega) (by decide) rfl d_M_ask_225 (fun H locs G => ?_)
            refine lv_aload_n hx hb d_M_ask_226 rfl (lv_at hl 2 rfl) ?_
            refine lv_dup hx hb d_M_ask_227 rfl ?_
            refine z_get (v := .int (nI c)) E hK G.1 i_M 0 15 rfl rfl (by decide) kf_M_97 rfl d_M_ask_228 ?_
            refine lv_iconst (v := 1) hx hb d_M_ask_231 (by decide) ?_
            refine lv_iadd hx hb d_M_ask_232 ?_
            refine z_put (ty := .int) (ws' := wM a cI 0 t (nI k) (nI n) ((nI c) + 1) Z P U (up2 (up2 (up2 (up2 (up2 (up2 V 0 c pr) 1 c u) 2 c 0) 3 c t) 4 c (-1)) 5 c (-1))) E hK G i_M t_M t_M_ok n_M 0 15 rfl rfl (by decide) kf_M_97 rfl rfl rfl rfl (Nat.le_of_ble_eq_true rfl) rfl d_M_ask_233 (fun H locs G => ?_)
            refine lv_aload_n hx hb d_M_ask_236 rfl (lv_at hl 2 rfl) ?_
            refine z_get (v := .int ((nI c) + 1)) E hK G.1 i_M 0 15 rfl rfl (by decide) kf_M_97 rfl d_M_ask_237 ?_
            refine lv_iconst (v := 1) hx hb d_M_ask_240 (by decide) ?_
            refine lv_isub hx hb d_M_ask_241 ?_
            have hf : X = (((nI c) + 1) - 1, 0, t, nI n, (nI c) + 1, Z, P, U, up2 (up2 (up2 (up2 (up2 (up2 V 0 c pr) 1 c u) 2 c 0) 3 c t) 4 c (-1)) 5 c (-1)) := by rw [← hr, f_M_ask_L_0, if_pos c_2, if_pos c_3, if_neg c_4, if_neg c_5]
            exact zW.iret E hrt hlk G (by rw [hf]) (by rw [hf]) d_M_ask_242
          · refine lv_bipush (v := (-4)) hx hb d_M_ask_158 (by decide) ?_
            have hf : X = ((-4), 0, nw, nI n, nI c, Z, P, U, V) := by rw [← hr, f_M_ask_L_0, if_pos c_2, if_pos c_3, if_neg c_4, if_pos c_5]
            exact zW.iret E hrt hlk G (by rw [hf]) (by rw [hf]) d_M_ask_160
      · refine lv_bipush (v := (-5)) hx hb d_M_ask_131 (by decide) ?_
        have hf : X = ((-5), 0, nw, nI n, nI c, Z, P, U, V) := by rw [← hr, f_M_ask_L_0, if_pos c_2, if_neg c_3]
        exact zW.iret E hrt hlk G (by rw [hf]) (by rw [hf]) d_M_ask_133
    · refine lv_bipush (v := (-3)) hx hb d_M_ask_113 (by decide) ?_
      have hf : X = ((-3), 0, nw, nI n, nI c, Z, P, U, V) := by rw [← hr, f_M_ask_L_0, if_neg c_2]
      exact zW.iret E hrt hlk G (by rw [hf]) (by rw [hf]) d_M_ask_115
  | succ d ih =>
    intro k0 x4 hkd hiv X hr H locs G ls hl
    refine lv_iload hx hb d_M_ask_50 (lv_at hl 0 rfl) ?_
    refine lv_aload_n hx hb d_M_ask_52 rfl (lv_at hl 2 rfl) ?_
    refine z_get (v := .int (nI c)) E hK G.1 i_M 0 15 rfl rfl (by decide) kf_M_97 rfl d_M_ask_53 ?_
    refine lv_icmp_ge (tgt := 108) hx hb d_M_ask_56 (by decide) (fun c_6 => absurd c_6 (nI_ge (by omega) (by omega))) (fun c_6 => ?_)
    refine lv_iload hx hb d_M_ask_59 (lv_at hl 1 rfl) ?_
    refine lv_if_ne (tgt := 95) hx hb d_M_ask_61 (by decide) (fun c_7 => ?_) (fun c_7 => ?_)
    · refine lv_iconst (v := 1) hx hb d_M_ask_95 (by decide) ?_
      refine lv_goto (tgt := 100) hx hb d_M_ask_96 (by decide) ?_
      refine lv_istore (lv' := [(4, .int 1), (5, .int (nI k0)), (0, .ref (a 0)), (1, .int pr), (2, .int u), (3, .int t)]) hx hb d_M_ask_100 hl (by decide) rfl (fun ls hl => ?_)
      refine lv_iinc (v := nI (k0 + 1)) (lv' := [(5, .int (nI (k0 + 1))), (4, .int 1), (0, .ref (a 0)), (1, .int pr), (2, .int u), (3, .int t)]) hx hb d_M_ask_102 hl (k := 1) rfl (nI_1 _) (by decide) rfl (fun ls hl => ?_)
      refine lv_goto (tgt := 50) hx hb d_M_ask_105 (by decide) ?_
      exact ih (k0 + 1) 1 (by omega) hiv X (by rw [← hr, f_M_ask_L_s, if_neg c_7]) H locs G ls (lv_sub hl [0, 1, 2, 3, 4, 5] rfl)
    · refine lv_aload_n hx hb d_M_ask_64 rfl (lv_at hl 2 rfl) ?_
      refine z_get (v := .ref (a 12)) E hK G.1 i_M 0 16 rfl rfl (by decide) kf_M_43 rfl d_M_ask_65 ?_
      refine lv_iload hx hb d_M_ask_68 (lv_at hl 0 rfl) ?_
      refine z_aldN (f := V 0) (j := k0) E hK G.1 12 0 rfl rfl rfl (by omega) (by decide) d_M_ask_70 ?_
      refine lv_iload_n hx hb d_M_ask_71 rfl (lv_at hl 3 rfl) ?_
      refine lv_icmp_ne (tgt := 99) hx hb d_M_ask_72 (by decide) (fun c_8 => ?_) (fun c_8 => ?_)
      · refine lv_iconst (v := 0) hx hb d_M_ask_99 (by decide) ?_
        refine lv_istore (lv' := [(4, .int 0), (5, .int (nI k0)), (0, .ref (a 0)), (1, .int pr), (2, .int u), (3, .int t)]) hx hb d_M_ask_100 hl (by decide) rfl (fun ls hl => ?_)
        refine lv_iinc (v := nI (k0 + 1)) (lv' := [(5, .int (nI (k0 + 1))), (4, .int 0), (0, .ref (a 0)), (1, .int pr), (2, .int u), (3, .int t)]) hx hb d_M_ask_102 hl (k := 1) rfl (nI_1 _) (by decide) rfl (fun ls hl => ?_)
        refine lv_goto (tgt := 50) hx hb d_M_ask_105 (by decide) ?_
        exact ih (k0 + 1) 0 (by omega) hiv X (by rw [← hr, f_M_ask_L_s, if_pos c_7, if_neg c_8]) H locs G ls (lv_sub hl [0, 1, 2, 3, 4, 5] rfl)
      · refine lv_aload_n hx hb d_M_ask_75 rfl (lv_at hl 2 rfl) ?_
        refine z_get (v := .ref (a 13)) E hK G.1 i_M 0 17 rfl rfl (by decide) kf_M_46 rfl d_M_ask_76 ?_
        refine lv_iload hx hb d_M_ask_79 (lv_at hl 0 rfl) ?_
        refine z_aldN (f := V 1) (j := k0) E hK G.1 13 0 rfl rfl rfl (by omega) (by decide) d_M_ask_81 ?_
        refine lv_iload_n hx hb d_M_ask_82 rfl (lv_at hl 4 rfl) ?_
        refine lv_icmp_ne (tgt := 99) hx hb d_M_ask_83 (by decide) (fun c_9 => ?_) (fun c_9 => ?_)
        · refine lv_iconst (v := 0) hx hb d_M_ask_99 (by decide) ?_
          refine lv_istore (lv' := [(4, .int 0), (5, .int (nI k0)), (0, .ref (a 0)), (1, .int pr), (2, .int u), (3, .int t)]) hx hb d_M_ask_100 hl (by decide) rfl (fun ls hl => ?_)
          refine lv_iinc (v := nI (k0 + 1)) (lv' := [(5, .int (nI (k0 + 1))), (4, .int 0), (0, .ref (a 0)), (1, .int pr), (2, .int u), (3, .int t)]) hx hb d_M_ask_102 hl (k := 1) rfl (nI_1 _) (by decide) rfl (fun ls hl => ?_)
          refine lv_goto (tgt := 50) hx hb d_M_ask_105 (by decide) ?_
          exact ih (k0 + 1) 0 (by omega) hiv X (by rw [← hr, f_M_ask_L_s, if_pos c_7, if_pos c_8, if_neg c_9]) H locs G ls (lv_sub hl [0, 1, 2, 3, 4, 5] rfl)
        · refine lv_aload_n hx hb d_M_ask_86 rfl (lv_at hl 2 rfl) ?_
          refine lv_iload hx hb d_M_ask_87 (lv_at hl 0 rfl) ?_
          refine z_rv (As := [.int (nI k0)]) (rest := []) E hN hK G.1 hl.1 (c_M_lives l D cI a 0 nw k n c Z P U V (nI k0) hk hn hc (vp_in_nI (by omega) (by decide))) [0, 1, 2, 3, 4, 5, 6, 7, 8, 9, 10, 11, 12, 13, 14, 15, 16, 17] rfl 0 rfl rfl kz_M_100 rfl ⟨Nat.le_of_ble_eq_true rfl, Nat.le_of_ble_eq_true rfl⟩ rfl (Nat.le_of_ble_eq_true rfl) ⟨Nat.zero_le _, Nat.zero_le _⟩ d_M_ask_89 ?_
          refine lv_if_eq (tgt := 99) hx hb d_M_ask_92 (by decide) (fun c_10 => ?_) (fun c_10 => ?_)
          · refine lv_iconst (v := 0) hx hb d_M_ask_99 (by decide) ?_
            refine lv_istore (lv' := [(4, .int 0), (5, .int (nI k0)), (0, .ref (a 0)), (1, .int pr), (2, .int u), (3, .int t)]) hx hb d_M_ask_100 hl (by decide) rfl (fun ls hl => ?_)
            refine lv_iinc (v := nI (k0 + 1)) (lv' := [(5, .int (nI (k0 + 1))), (4, .int 0), (0, .ref (a 0)), (1, .int pr), (2, .int u), (3, .int t)]) hx hb d_M_ask_102 hl (k := 1) rfl (nI_1 _) (by decide) rfl (fun ls hl => ?_)
            refine lv_goto (tgt := 50) hx hb d_M_ask_105 (by decide) ?_
            exact ih (k0 + 1) 0 (by omega) hiv X (by rw [← hr, f_M_ask_L_s, if_pos c_7, if_pos c_8, if_pos c_9, if_pos c_10]) H locs G ls (lv_sub hl [0, 1, 2, 3, 4, 5] rfl)
          · refine lv_iconst (v := 1) hx hb d_M_ask_95 (by decide) ?_
            refine lv_goto (tgt := 100) hx hb d_M_ask_96 (by decide) ?_
            refine lv_istore (lv' := [(4, .int 1), (5, .int (nI k0)), (0, .ref (a 0)), (1, .int pr), (2, .int u), (3, .int t)]) hx hb d_M_ask_100 hl (by decide) rfl (fun ls hl => ?_)
            refine lv_iinc (v := nI (k0 + 1)) (lv' := [(5, .int (nI (k0 + 1))), (4, .int 1), (0, .ref (a 0)), (1, .int pr), (2, .int u), (3, .int t)]) hx hb d_M_ask_102 hl (k := 1) rfl (nI_1 _) (by decide) rfl (fun ls hl => ?_)
            refine lv_goto (tgt := 50) hx hb d_M_ask_105 (by decide) ?_
            exact ih (k0 + 1) 1 (by omega) hiv X (by rw [← hr, f_M_ask_L_s, if_pos c_7, if_pos c_8, if_pos c_9, if_neg c_10]) H locs G ls (lv_sub hl [0, 1, 2, 3, 4, 5] rfl)
set_option maxHeartbeats 4000000 in
set_option maxRecDepth 100000 in
theorem c_M_ask (l : Launch) (D : va_G) (cI : ClassId) (a : Nat → Nat) (th : Int32) (nw : Int32) (k : Nat) (n : Nat) (c : Nat) (Z : Nat → Nat → Int32) (P : Nat → Nat → Int32) (U : Nat → Nat → Int32) (V : Nat → Nat → Int32) (pr : Int32) (u : Int32) (t : Int32) (hk : k ≤ 20) (hn : n ≤ 60) (hc : c ≤ 300) : zW l D [(cI, .int)] y_M_ask b_M_ask 6 (some .int) 2 44 [.ref (a 0), .int pr, .int u, .int t] (wM a cI th nw (nI k) (nI n) (nI c) Z P U V) (wM a cI ((f_M_ask nw k n c Z P U V pr u t).2.1) ((f_M_ask nw k n c Z P U V pr u t).2.2.1) (nI k) ((f_M_ask nw k n c Z P U V pr u t).2.2.2.1) ((f_M_ask nw k n c Z P U V pr u t).2.2.2.2.1) ((f_M_ask nw k n c Z P U V pr u t).2.2.2.2.2.1) ((f_M_ask nw k n c Z P U V pr u t).2.2.2.2.2.2.1) ((f_M_ask nw k n c Z P U V pr u t).2.2.2.2.2.2.2.1) ((f_M_ask nw k n c Z P U V pr u t).2.2.2.2.2.2.2.2)) (some (.int (f_M_ask nw k n c Z P U V pr u t).1)) := by
  refine zW.of (by decide) (Nat.le_of_ble_eq_true rfl) ?_
  intro p e s m below meth c0 ls A E hrt hlk hN hK hA G hl
  have hx := E.1
  have hb := E.2.1
  have hl : lv_has ls 6 [(0, .ref (a 0)), (1, .int pr), (2, .int u), (3, .int t)] := hl
  refine lv_aload_n hx hb d_M_ask_0 rfl (lv_at hl 0 rfl) ?_
  refine lv_iconst (v := 0) hx hb d_M_ask_1 (by decide) ?_
  refine z_put (ty := .int) (ws' := wM a cI 0 nw (nI k) (nI n) (nI c) Z P U V) E hK G i_M t_M t_M_ok n_M 0 0 rfl rfl (by decide) kf_M_65 rfl rfl rfl rfl (Nat.le_of_ble_eq_true rfl) rfl d_M_ask_2 (fun H locs G => ?_)
  refine lv_iload_n hx hb d_M_ask_5 rfl (lv_at hl 1 rfl) ?_
  refine z_rs (As := [.int pr]) (rest := []) E hN hK hl.1 (c_M_isPerson l D [(cI, .int)] pr) kz_M_79 rfl ⟨Nat.le_of_ble_eq_true rfl, Nat.le_of_ble_eq_true rfl⟩ rfl (Nat.le_of_ble_eq_true rfl) ⟨Nat.zero_le _, Nat.zero_le _⟩ d_M_ask_6 ?_
  refine lv_if_eq (tgt := 19) hx hb d_M_ask_9 (by decide) (fun c_1 => ?_) (fun c_1 => ?_)
  · refine lv_iconst (v := (-1)) hx hb d_M_ask_19 (by decide) ?_
    have hf : f_M_ask nw k n c Z P U V pr u t = ((-1), 0, nw, nI n, nI c, Z, P, U, V) := by unfold f_M_ask; rw [if_pos c_1]
    exact zW.iret E hrt hlk G (by rw [hf]) (by rw [hf]) d_M_ask_20
  · refine lv_iload_n hx hb d_M_ask_12 rfl (lv_at hl 2 rfl) ?_
    refine z_rs (As := [.int u]) (rest := []) E hN hK hl.1 (c_M_isUnit l D [(cI, .int)] u) kz_M_103 rfl ⟨Nat.le_of_ble_eq_true rfl, Nat.le_of_ble_eq_true rfl⟩ rfl (Nat.le_of_ble_eq_true rfl) ⟨Nat.zero_le _, Nat.zero_le _⟩ d_M_ask_13 ?_
    refine lv_if_ne (tgt := 21) hx hb d_M_ask_16 (by decide) (fun c_2 => ?_) (fun c_2 => ?_)
    · refine lv_aload_n hx hb d_M_ask_21 rfl (lv_at hl 0 rfl) ?_
      refine lv_iload_n hx hb d_M_ask_22 rfl (lv_at hl 3 rfl) ?_
      refine z_rv (As := [.int t]) (rest := []) E hN hK G.1 hl.1 (c_M_isNow l D cI a 0 nw k n c Z P U V t hk hn hc) [0, 1, 2, 3, 4, 5, 6, 7, 8, 9, 10, 11, 12, 13, 14, 15, 16, 17] rfl 0 rfl rfl kz_M_106 rfl ⟨Nat.le_of_ble_eq_true rfl, Nat.le_of_ble_eq_true rfl⟩ rfl (Nat.le_of_ble_eq_true rfl) ⟨Nat.zero_le _, Nat.zero_le _⟩ d_M_ask_23 ?_
      refine lv_if_ne (tgt := 32) hx hb d_M_ask_26 (by decide) (fun c_3 => ?_) (fun c_3 => ?_)
      · refine lv_aload_n hx hb d_M_ask_32 rfl (lv_at hl 0 rfl) ?_
        refine lv_iload_n hx hb d_M_ask_33 rfl (lv_at hl 1 rfl) ?_
        refine z_rv (As := [.int pr]) (rest := []) E hN hK G.1 hl.1 (c_M_seatOf l D cI a 0 nw k n c Z P U V pr hk hn hc) [0, 1, 2, 3, 4, 5, 6, 7, 8, 9, 10, 11, 12, 13, 14, 15, 16, 17] rfl 0 rfl rfl kz_M_83 rfl ⟨Nat.le_of_ble_eq_true rfl, Nat.le_of_ble_eq_true rfl⟩ rfl (Nat.le_of_ble_eq_true rfl) ⟨Nat.zero_le _, Nat.zero_le _⟩ d_M_ask_34 ?_
        refine lv_if_ge (tgt := 44) hx hb d_M_ask_37 (by decide) (fun c_4 => ?_) (fun c_4 => ?_)
        · refine lv_iconst (v := 0) hx hb d_M_ask_44 (by decide) ?_
          refine lv_istore (lv' := [(4, .int 0), (0, .ref (a 0)), (1, .int pr), (2, .int u), (3, .int t)]) hx hb d_M_ask_45 hl (by decide) rfl (fun ls hl => ?_)
          refine lv_iconst (v := 0) hx hb d_M_ask_47 (by decide) ?_
          refine lv_istore (lv' := [(5, .int 0), (4, .int 0), (0, .ref (a 0)), (1, .int pr), (2, .int u), (3, .int t)]) hx hb d_M_ask_48 hl (by decide) rfl (fun ls hl => ?_)
          exact lp_M_ask l D cI a nw k n c Z P U V pr u t hk hn hc E hrt hlk hN hK hA c 0 0 (by omega) ⟨c_1, c_2⟩ _ (by unfold f_M_ask; rw [if_neg c_1, if_neg c_2, if_neg c_3, if_pos c_4]) _ _ G ls (by rw [nI_0]; exact lv_sub hl [0, 1, 2, 3, 4, 5] rfl)
        · refine lv_iconst (v := 1) hx hb d_M_ask_40 (by decide) ?_
          refine lv_goto (tgt := 45) hx hb d_M_ask_41 (by decide) ?_
          refine lv_istore (lv' := [(4, .int 1), (0, .ref (a 0)), (1, .int pr), (2, .int u), (3, .int t)]) hx hb d_M_ask_45 hl (by decide) rfl (fun ls hl => ?_)
          refine lv_iconst (v := 0) hx hb d_M_ask_47 (by decide) ?_
          refine lv_istore (lv' := [(5, .int 0), (4, .int 1), (0, .ref (a 0)), (1, .int pr), (2, .int u), (3, .int t)]) hx hb d_M_ask_48 hl (by decide) rfl (fun ls hl => ?_)
          exact lp_M_ask l D cI a nw k n c Z P U V pr u t hk hn hc E hrt hlk hN hK hA c 0 1 (by omega) ⟨c_1, c_2⟩ _ (by unfold f_M_ask; rw [if_neg c_1, if_neg c_2, if_neg c_3, if_neg c_4]) _ _ G ls (by rw [nI_0]; exact lv_sub hl [0, 1, 2, 3, 4, 5] rfl)
      · refine lv_bipush (v := (-2)) hx hb d_M_ask_29 (by decide) ?_
        have hf : f_M_ask nw k n c Z P U V pr u t = ((-2), 0, nw, nI n, nI c, Z, P, U, V) := by unfold f_M_ask; rw [if_neg c_1, if_neg c_2, if_pos c_3]
        exact zW.iret E hrt hlk G (by rw [hf]) (by rw [hf]) d_M_ask_31
    · refine lv_iconst (v := (-1)) hx hb d_M_ask_19 (by decide) ?_
      have hf : f_M_ask nw k n c Z P U V pr u t = ((-1), 0, nw, nI n, nI c, Z, P, U, V) := by unfold f_M_ask; rw [if_neg c_1, if_pos c_2]
      exact zW.iret E hrt hlk G (by rw [hf]) (by rw [hf]) d_M_ask_20
end
section
def f_M_fetchFor (U : Nat → Nat → Int32) (V : Nat → Nat → Int32) (u : Int32) (i : Int32) : Int32 × (Nat → Nat → Int32) × (Nat → Nat → Int32) := (i, up2 (up2 U 0 u.toNatClampNeg 1) 3 u.toNatClampNeg i, up2 V 2 i.toNatClampNeg 1)
set_option maxHeartbeats 4000000 in
set_option maxRecDepth 100000 in
theorem c_M_fetchFor (l : Launch) (D : va_G) (cI : ClassId) (a : Nat → Nat) (th : Int32) (nw : Int32) (k : Nat) (n : Nat) (c : Nat) (Z : Nat → Nat → Int32) (P : Nat → Nat → Int32) (U : Nat → Nat → Int32) (V : Nat → Nat → Int32) (u : Int32) (i : Int32) (hk : k ≤ 20) (hn : n ≤ 60) (hc : c ≤ 300) (hu : vp_in u 80) (hi : vp_in i 300) : zW l D [(cI, .int)] y_M_fetchFor b_M_fetchFor 3 (some .int) 0 0 [.ref (a 0), .int u, .int i] (wM a cI th nw (nI k) (nI n) (nI c) Z P U V) (wM a cI th nw (nI k) (nI n) (nI c) Z P ((f_M_fetchFor U V u i).2.1) ((f_M_fetchFor U V u i).2.2)) (some (.int (f_M_fetchFor U V u i).1)) := by
  refine zW.of (by decide) (Nat.le_of_ble_eq_true rfl) ?_
  intro p e s m below meth c0 ls A E hrt hlk hN hK hA G hl
  have hx := E.1
  have hb := E.2.1
  have hl : lv_has ls 3 [(0, .ref (a 0)), (1, .int u), (2, .int i)] := hl
  refine lv_aload_n hx hb d_M_fetchFor_0 rfl (lv_at hl 0 rfl) ?_
  refine z_get (v := .ref (a 8)) E hK G.1 i_M 0 11 rfl rfl (by decide) kf_M_31 rfl d_M_fetchFor_1 ?_
  refine lv_iload_n hx hb d_M_fetchFor_4 rfl (lv_at hl 1 rfl) ?_
  refine lv_iconst (v := 1) hx hb d_M_fetchFor_5 (by decide) ?_
  refine z_ast (f := U 0) (ws' := wM a cI th nw (nI k) (nI n) (nI c) Z P (up2 U 0 u.toNatClampNeg 1) V) E hK G 8 0 rfl rfl hu rfl d_M_fetchFor_6 (fun H locs G => ?_)
  refine lv_aload_n hx hb d_M_fetchFor_7 rfl (lv_at hl 0 rfl) ?_
  refine z_get (v := .ref (a 11)) E hK G.1 i_M 0 14 rfl rfl (by decide) kf_M_40 rfl d_M_fetchFor_8 ?_
  refine lv_iload_n hx hb d_M_fetchFor_11 rfl (lv_at hl 1 rfl) ?_
  refine lv_iload_n hx hb d_M_fetchFor_12 rfl (lv_at hl 2 rfl) ?_
  refine z_ast (f := (up2 U 0 u.toNatClampNeg 1) 3) (ws' := wM a cI th nw (nI k) (nI n) (nI c) Z P (up2 (up2 U 0 u.toNatClampNeg 1) 3 u.toNatClampNeg i) V) E hK G 11 0 rfl rfl hu rfl d_M_fetchFor_13 (fun H locs G => ?_)
  refine lv_aload_n hx hb d_M_fetchFor_14 rfl (lv_at hl 0 rfl) ?_
  refine z_get (v := .ref (a 14)) E hK G.1 i_M 0 18 rfl rfl (by decide) kf_M_49 rfl d_M_fetchFor_15 ?_
  refine lv_iload_n hx hb d_M_fetchFor_18 rfl (lv_at hl 2 rfl) ?_
  refine lv_iconst (v := 1) hx hb d_M_fetchFor_19 (by decide) ?_
  refine z_ast (f := V 2) (ws' := wM a cI th nw (nI k) (nI n) (nI c) Z P (up2 (up2 U 0 u.toNatClampNeg 1) 3 u.toNatClampNeg i) (up2 V 2 i.toNatClampNeg 1)) E hK G 14 0 rfl rfl hi rfl d_M_fetchFor_20 (fun H locs G => ?_)
  refine lv_iload_n hx hb d_M_fetchFor_21 rfl (lv_at hl 2 rfl) ?_
  have hf : f_M_fetchFor U V u i = (i, up2 (up2 U 0 u.toNatClampNeg 1) 3 u.toNatClampNeg i, up2 V 2 i.toNatClampNeg 1) := by rfl
  exact zW.iret E hrt hlk G (by rw [hf]) (by rw [hf]) d_M_fetchFor_22
def f_M_fetch (nw : Int32) (n : Nat) (c : Nat) (Z : Nat → Nat → Int32) (P : Nat → Nat → Int32) (U : Nat → Nat → Int32) (V : Nat → Nat → Int32) (u : Int32) (t : Int32) : Int32 × Int32 × Int32 × Int32 × Int32 × (Nat → Nat → Int32) × (Nat → Nat → Int32) × (Nat → Nat → Int32) × (Nat → Nat → Int32) := (if (f_M_isUnit u) = 0 then ((-1), 0, nw, nI n, nI c, Z, P, U, V) else (if (f_M_isNow nw t) = 0 then ((-2), 0, nw, nI n, nI c, Z, P, U, V) else (if (U 0 u.toNatClampNeg) = 0 then (if (f_M_ahead c V u) < 0 then ((-3), 0, nw, nI n, nI c, Z, P, U, V) else (if (U 1 u.toNatClampNeg) = 3 then ((-3), 0, nw, nI n, nI c, Z, P, U, V) else ((f_M_fetchFor U V u (f_M_ahead c V u)).1, 0, t, nI n, nI c, Z, P, (f_M_fetchFor U V u (f_M_ahead c V u)).2.1, (f_M_fetchFor U V u (f_M_ahead c V u)).2.2))) else ((-3), 0, nw, nI n, nI c, Z, P, U, V))))
set_option maxHeartbeats 4000000 in
set_option maxRecDepth 100000 in
theorem c_M_fetch (l : Launch) (D : va_G) (cI : ClassId) (a : Nat → Nat) (th : Int32) (nw : Int32) (k : Nat) (n : Nat) (c : Nat) (Z : Nat → Nat → Int32) (P : Nat → Nat → Int32) (U : Nat → Nat → Int32) (V : Nat → Nat → Int32) (u : Int32) (t : Int32) (hk : k ≤ 20) (hn : n ≤ 60) (hc : c ≤ 300) : zW l D [(cI, .int)] y_M_fetch b_M_fetch 3 (some .int) 2 43 [.ref (a 0), .int u, .int t] (wM a cI th nw (nI k) (nI n) (nI c) Z P U V) (wM a cI ((f_M_fetch nw n c Z P U V u t).2.1) ((f_M_fetch nw n c Z P U V u t).2.2.1) (nI k) ((f_M_fetch nw n c Z P U V u t).2.2.2.1) ((f_M_fetch nw n c Z P U V u t).2.2.2.2.1) ((f_M_fetch nw n c Z P U V u t).2.2.2.2.2.1) ((f_M_fetch nw n c Z P U V u t).2.2.2.2.2.2.1) ((f_M_fetch nw n c Z P U V u t).2.2.2.2.2.2.2.1) ((f_M_fetch nw n c Z P U V u t).2.2.2.2.2.2.2.2)) (some (.int (f_M_fetch nw n c Z P U V u t).1)) := by
  refine zW.of (by decide) (Nat.le_of_ble_eq_true rfl) ?_
  intro p e s m below meth c0 ls A E hrt hlk hN hK hA G hl
  have hx := E.1
  have hb := E.2.1
  have hl : lv_has ls 3 [(0, .ref (a 0)), (1, .int u), (2, .int t)] := hl
  refine lv_aload_n hx hb d_M_fetch_0 rfl (lv_at hl 0 rfl) ?_
  refine lv_iconst (v := 0) hx hb d_M_fetch_1 (by decide) ?_
  refine z_put (ty := .int) (ws' := wM a cI 0 nw (nI k) (nI n) (nI c) Z P U V) E hK G i_M t_M t_M_ok n_M 0 0 rfl rfl (by decide) kf_M_65 rfl rfl rfl rfl (Nat.le_of_ble_eq_true rfl) rfl d_M_fetch_2 (fun H locs G => ?_)
  refine lv_iload_n hx hb d_M_fetch_5 rfl (lv_at hl 1 rfl) ?_
  refine z_rs (As := [.int u]) (rest := []) E hN hK hl.1 (c_M_isUnit l D [(cI, .int)] u) kz_M_103 rfl ⟨Nat.le_of_ble_eq_true rfl, Nat.le_of_ble_eq_true rfl⟩ rfl (Nat.le_of_ble_eq_true rfl) ⟨Nat.zero_le _, Nat.zero_le _⟩ d_M_fetch_6 ?_
  refine lv_if_ne (tgt := 14) hx hb d_M_fetch_9 (by decide) (fun c_1 => ?_) (fun c_1 => ?_)
  · refine lv_aload_n hx hb d_M_fetch_14 rfl (lv_at hl 0 rfl) ?_
    refine lv_iload_n hx hb d_M_fetch_15 rfl (lv_at hl 2 rfl) ?_
    refine z_rv (As := [.int t]) (rest := []) E hN hK G.1 hl.1 (c_M_isNow l D cI a 0 nw k n c Z P U V t hk hn hc) [0, 1, 2, 3, 4, 5, 6, 7, 8, 9, 10, 11, 12, 13, 14, 15, 16, 17] rfl 0 rfl rfl kz_M_106 rfl ⟨Nat.le_of_ble_eq_true rfl, Nat.le_of_ble_eq_true rfl⟩ rfl (Nat.le_of_ble_eq_true rfl) ⟨Nat.zero_le _, Nat.zero_le _⟩ d_M_fetch_16 ?_
    refine lv_if_ne (tgt := 25) hx hb d_M_fetch_19 (by decide) (fun c_2 => ?_) (fun c_2 => ?_)
    · refine lv_aload_n hx hb d_M_fetch_25 rfl (lv_at hl 0 rfl) ?_
      refine z_get (v := .ref (a 8)) E hK G.1 i_M 0 11 rfl rfl (by decide) kf_M_31 rfl d_M_fetch_26 ?_
      refine lv_iload_n hx hb d_M_fetch_29 rfl (lv_at hl 1 rfl) ?_
      refine z_ald (f := U 0) E hK G.1 8 0 rfl rfl (in_unitM c_1) d_M_fetch_30 ?_
      refine lv_if_ne (tgt := 52) hx hb d_M_fetch_31 (by decide) (fun c_3 => ?_) (fun c_3 => ?_)
      · refine lv_bipush (v := (-3)) hx hb d_M_fetch_52 (by decide) ?_
        have hf : f_M_fetch nw n c Z P U V u t = ((-3), 0, nw, nI n, nI c, Z, P, U, V) := by unfold f_M_fetch; rw [if_neg c_1, if_neg c_2, if_neg c_3]
        exact zW.iret E hrt hlk G (by rw [hf]) (by rw [hf]) d_M_fetch_54
      · refine lv_aload_n hx hb d_M_fetch_34 rfl (lv_at hl 0 rfl) ?_
        refine lv_iload_n hx hb d_M_fetch_35 rfl (lv_at hl 1 rfl) ?_
        refine z_rv (As := [.int u]) (rest := []) E hN hK G.1 hl.1 (c_M_ahead l D cI a 0 nw k n c Z P U V u hk hn hc) [0, 1, 2, 3, 4, 5, 6, 7, 8, 9, 10, 11, 12, 13, 14, 15, 16, 17] rfl 0 rfl rfl kz_M_112 rfl ⟨Nat.le_of_ble_eq_true rfl, Nat.le_of_ble_eq_true rfl⟩ rfl (Nat.le_of_ble_eq_true rfl) ⟨Nat.zero_le _, Nat.zero_le _⟩ d_M_fetch_36 ?_
        refine lv_if_lt (tgt := 52) hx hb d_M_fetch_39 (by decide) (fun c_4 => ?_) (fun c_4 => ?_)
        · refine lv_bipush (v := (-3)) hx hb d_M_fetch_52 (by decide) ?_
          have hf : f_M_fetch nw n c Z P U V u t = ((-3), 0, nw, nI n, nI c, Z, P, U, V) := by unfold f_M_fetch; rw [if_neg c_1, if_neg c_2, if_pos c_3, if_pos c_4]
          exact zW.iret E hrt hlk G (by rw [hf]) (by rw [hf]) d_M_fetch_54
        · refine lv_aload_n hx hb d_M_fetch_42 rfl (lv_at hl 0 rfl) ?_
          refine z_get (v := .ref (a 9)) E hK G.1 i_M 0 12 rfl rfl (by decide) kf_M_34 rfl d_M_fetch_43 ?_
          refine lv_iload_n hx hb d_M_fetch_46 rfl (lv_at hl 1 rfl) ?_
          refine z_ald (f := U 1) E hK G.1 9 0 rfl rfl (in_unitM c_1) d_M_fetch_47 ?_
          refine lv_iconst (v := 3) hx hb d_M_fetch_48 (by decide) ?_
          refine lv_icmp_ne (tgt := 55) hx hb d_M_fetch_49 (by decide) (fun c_5 => ?_) (fun c_5 => ?_)
          · refine lv_aload_n hx hb d_M_fetch_55 rfl (lv_at hl 0 rfl) ?_
            refine lv_iload_n hx hb d_M_fetch_56 rfl (lv_at hl 2 rfl) ?_
            refine z_put (ty := .int) (ws' := wM a cI 0 t (nI k) (nI n) (nI c) Z P U V) E hK G i_M t_M t_M_ok n_M 0 1 rfl rfl (by decide) kf_M_72 rfl rfl rfl rfl (Nat.le_of_ble_eq_true rfl) rfl d_M_fetch_57 (fun H locs G => ?_)
            refine lv_aload_n hx hb d_M_fetch_60 rfl (lv_at hl 0 rfl) ?_
            refine lv_iload_n hx hb d_M_fetch_61 rfl (lv_at hl 1 rfl) ?_
            refine lv_aload_n hx hb d_M_fetch_62 rfl (lv_at hl 0 rfl) ?_
            refine lv_iload_n hx hb d_M_fetch_63 rfl (lv_at hl 1 rfl) ?_
            refine z_rv (As := [.int u]) (rest := [.int u, .ref (a 0)]) E hN hK G.1 hl.1 (c_M_ahead l D cI a 0 t k n c Z P U V u hk hn hc) [0, 1, 2, 3, 4, 5, 6, 7, 8, 9, 10, 11, 12, 13, 14, 15, 16, 17] rfl 0 rfl rfl kz_M_112 rfl ⟨Nat.le_of_ble_eq_true rfl, Nat.le_of_ble_eq_true rfl⟩ rfl (Nat.le_of_ble_eq_true rfl) ⟨Nat.zero_le _, Nat.zero_le _⟩ d_M_fetch_64 ?_
            refine z_wv (As := [.int u, .int (f_M_ahead c V u)]) (rest := []) (wr := ([] : List Nat).filterMap (fun i => (wM a cI 0 t (nI k) (nI n) (nI c) Z P U V)[i]?)) (ws' := wM a cI 0 t (nI k) (nI n) (nI c) Z P ((f_M_fetchFor U V u (f_M_ahead c V u)).2.1) ((f_M_fetchFor U V u (f_M_ahead c V u)).2.2)) E hN hK hA G hl.1 (c_M_fetchFor l D cI a 0 t k n c Z P U V u (f_M_ahead c V u) hk hn hc (in_unitM c_1) (ah_in hc c_4)) [0, 1, 2, 3, 4, 5, 6, 7, 8, 9, 10, 11, 12, 13, 14, 15, 16, 17] [] [0, 1, 2, 3, 4, 5, 6, 7, 8, 9, 10, 11, 12, 13, 14, 15, 16, 17] rfl rfl rfl rfl rfl rfl (by decide) 0 rfl rfl kz_M_115 rfl ⟨Nat.le_of_ble_eq_true rfl, Nat.le_of_ble_eq_true rfl⟩ rfl (Nat.le_of_ble_eq_true rfl) ⟨Nat.zero_le _, Nat.zero_le _⟩ d_M_fetch_67 (fun H locs G => ?_)
            refine W.eq (g2 := F0 m 70 ls [.int ((f_M_fetchFor U V u (f_M_ahead c V u)).1)]) rfl ?_
            have hf : f_M_fetch nw n c Z P U V u t = ((f_M_fetchFor U V u (f_M_ahead c V u)).1, 0, t, nI n, nI c, Z, P, (f_M_fetchFor U V u (f_M_ahead c V u)).2.1, (f_M_fetchFor U V u (f_M_ahead c V u)).2.2) := by unfold f_M_fetch; rw [if_neg c_1, if_neg c_2, if_pos c_3, if_neg c_4, if_neg c_5]
            exact zW.iret E hrt hlk G (by rw [hf]) (by rw [hf]) d_M_fetch_70
          · refine lv_bipush (v := (-3)) hx hb d_M_fetch_52 (by decide) ?_
            have hf : f_M_fetch nw n c Z P U V u t = ((-3), 0, nw, nI n, nI c, Z, P, U, V) := by unfold f_M_fetch; rw [if_neg c_1, if_neg c_2, if_pos c_3, if_neg c_4, if_pos c_5]
            exact zW.iret E hrt hlk G (by rw [hf]) (by rw [hf]) d_M_fetch_54
    · refine lv_bipush (v := (-2)) hx hb d_M_fetch_22 (by decide) ?_
      have hf : f_M_fetch nw n c Z P U V u t = ((-2), 0, nw, nI n, nI c, Z, P, U, V) := by unfold f_M_fetch; rw [if_neg c_1, if_pos c_2]
      exact zW.iret E hrt hlk G (by rw [hf]) (by rw [hf]) d_M_fetch_24
  · refine lv_iconst (v := (-1)) hx hb d_M_fetch_12 (by decide) ?_
    have hf : f_M_fetch nw n c Z P U V u t = ((-1), 0, nw, nI n, nI c, Z, P, U, V) := by unfold f_M_fetch; rw [if_pos c_1]
    exact zW.iret E hrt hlk G (by rw [hf]) (by rw [hf]) d_M_fetch_13
def f_M_handOut (nw : Int32) (k : Nat) (n : Nat) (c : Nat) (Z : Nat → Nat → Int32) (P : Nat → Nat → Int32) (U : Nat → Nat → Int32) (V : Nat → Nat → Int32) (u : Int32) (t : Int32) : Int32 × Int32 × Int32 × Int32 × Int32 × (Nat → Nat → Int32) × (Nat → Nat → Int32) × (Nat → Nat → Int32) × (Nat → Nat → Int32) := (if (f_M_isUnit u) = 0 then ((-1), 0, nw, nI n, nI c, Z, P, U, V) else (if (f_M_isNow nw t) = 0 then ((-2), 0, nw, nI n, nI c, Z, P, U, V) else (if (U 0 u.toNatClampNeg) = 1 then (if 0 ≤ (f_M_seatOf k Z (V 0 (U 3 u.toNatClampNeg).toNatClampNeg)) then (if (U 2 u.toNatClampNeg) ≤ (P 0 (V 0 (U 3 u.toNatClampNeg).toNatClampNeg).toNatClampNeg) then (V 0 (U 3 u.toNatClampNeg).toNatClampNeg, 0, t, nI n, nI c, Z, P, up2 U 0 u.toNatClampNeg 2, up2 (up2 V 2 (U 3 u.toNatClampNeg).toNatClampNeg 2) 4 (U 3 u.toNatClampNeg).toNatClampNeg t) else ((-5), 0, nw, nI n, nI c, Z, P, U, V)) else ((-3), 0, nw, nI n, nI c, Z, P, U, V)) else ((-3), 0, nw, nI n, nI c, Z, P, U, V))))
set_option maxHeartbeats 4000000 in
set_option maxRecDepth 100000 in
theorem c_M_handOut (l : Launch) (D : va_G) (cI : ClassId) (a : Nat → Nat) (th : Int32) (nw : Int32) (k : Nat) (n : Nat) (c : Nat) (Z : Nat → Nat → Int32) (P : Nat → Nat → Int32) (U : Nat → Nat → Int32) (V : Nat → Nat → Int32) (u : Int32) (t : Int32) (hk : k ≤ 20) (hn : n ≤ 60) (hc : c ≤ 300) (hU : ∀ u, u < 80 → (U 0 u = 1 ∨ U 0 u = 2) → vp_in (U 3 u) 300) (hV : ∀ i, vp_in (V 0 i) 60) : zW l D [(cI, .int)] y_M_handOut b_M_handOut 4 (some .int) 2 43 [.ref (a 0), .int u, .int t] (wM a cI th nw (nI k) (nI n) (nI c) Z P U V) (wM a cI ((f_M_handOut nw k n c Z P U V u t).2.1) ((f_M_handOut nw k n c Z P U V u t).2.2.1) (nI k) ((f_M_handOut nw k n c Z P U V u t).2.2.2.1) ((f_M_handOut nw k n c Z P U V u t).2.2.2.2.1) ((f_M_handOut nw k n c Z P U V u t).2.2.2.2.2.1) ((f_M_handOut nw k n c Z P U V u t).2.2.2.2.2.2.1) ((f_M_handOut nw k n c Z P U V u t).2.2.2.2.2.2.2.1) ((f_M_handOut nw k n c Z P U V u t).2.2.2.2.2.2.2.2)) (some (.int (f_M_handOut nw k n c Z P U V u t).1)) := by
  refine zW.of (by decide) (Nat.le_of_ble_eq_true rfl) ?_
  intro p e s m below meth c0 ls A E hrt hlk hN hK hA G hl
  have hx := E.1
  have hb := E.2.1
  have hl : lv_has ls 4 [(0, .ref (a 0)), (1, .int u), (2, .int t)] := hl
  refine lv_aload_n hx hb d_M_handOut_0 rfl (lv_at hl 0 rfl) ?_
  refine lv_iconst (v := 0) hx hb d_M_handOut_1 (by decide) ?_
  refine z_put (ty := .int) (ws' := wM a cI 0 nw (nI k) (nI n) (nI c) Z P U V) E hK G i_M t_M t_M_ok n_M 0 0 rfl rfl (by decide) kf_M_65 rfl rfl rfl rfl (Nat.le_of_ble_eq_true rfl) rfl d_M_handOut_2 (fun H locs G => ?_)
  refine lv_iload_n hx hb d_M_handOut_5 rfl (lv_at hl 1 rfl) ?_
  refine z_rs (As := [.int u]) (rest := []) E hN hK hl.1 (c_M_isUnit l D [(cI, .int)] u) kz_M_103 rfl ⟨Nat.le_of_ble_eq_true rfl, Nat.le_of_ble_eq_true rfl⟩ rfl (Nat.le_of_ble_eq_true rfl) ⟨Nat.zero_le _, Nat.zero_le _⟩ d_M_handOut_6 ?_
  refine lv_if_ne (tgt := 14) hx hb d_M_handOut_9 (by decide) (fun c_1 => ?_) (fun c_1 => ?_)
  · refine lv_aload_n hx hb d_M_handOut_14 rfl (lv_at hl 0 rfl) ?_
    refine lv_iload_n hx hb d_M_handOut_15 rfl (lv_at hl 2 rfl) ?_
    refine z_rv (As := [.int t]) (rest := []) E hN hK G.1 hl.1 (c_M_isNow l D cI a 0 nw k n c Z P U V t hk hn hc) [0, 1, 2, 3, 4, 5, 6, 7, 8, 9, 10, 11, 12, 13, 14, 15, 16, 17] rfl 0 rfl rfl kz_M_106 rfl ⟨Nat.le_of_ble_eq_true rfl, Nat.le_of_ble_eq_true rfl⟩ rfl (Nat.le_of_ble_eq_true rfl) ⟨Nat.zero_le _, Nat.zero_le _⟩ d_M_handOut_16 ?_
    refine lv_if_ne (tgt := 25) hx hb d_M_handOut_19 (by decide) (fun c_2 => ?_) (fun c_2 => ?_)
    · refine lv_aload_n hx hb d_M_handOut_25 rfl (lv_at hl 0 rfl) ?_
      refine z_get (v := .ref (a 8)) E hK G.1 i_M 0 11 rfl rfl (by decide) kf_M_31 rfl d_M_handOut_26 ?_
      refine lv_iload_n hx hb d_M_handOut_29 rfl (lv_at hl 1 rfl) ?_
      refine z_ald (f := U 0) E hK G.1 8 0 rfl rfl (in_unitM c_1) d_M_handOut_30 ?_
      refine lv_iconst (v := 1) hx hb d_M_handOut_31 (by decide) ?_
      refine lv_icmp_ne (tgt := 53) hx hb d_M_handOut_32 (by decide) (fun c_3 => ?_) (fun c_3 => ?_)
      · refine lv_bipush (v := (-3)) hx hb d_M_handOut_53 (by decide) ?_
        have hf : f_M_handOut nw k n c Z P U V u t = ((-3), 0, nw, nI n, nI c, Z, P, U, V) := by unfold f_M_handOut; rw [if_neg c_1, if_neg c_2, if_neg c_3]
        exact zW.iret E hrt hlk G (by rw [hf]) (by rw [hf]) d_M_handOut_55
      · refine lv_aload_n hx hb d_M_handOut_35 rfl (lv_at hl 0 rfl) ?_
        refine lv_aload_n hx hb d_M_handOut_36 rfl (lv_at hl 0 rfl) ?_
        refine z_get (v := .ref (a 12)) E hK G.1 i_M 0 16 rfl rfl (by decide) kf_M_43 rfl d_M_handOut_37 ?_
        refine lv_aload_n hx hb d_M_handOut_40 rfl (lv_at hl 0 rfl) ?_
        refine z_get (v := .ref (a 11)) E hK G.1 i_M 0 14 rfl rfl (by decide) kf_M_40 rfl d_M_handOut_41 ?_
        refine lv_iload_n hx hb d_M_handOut_44 rfl (lv_at hl 1 rfl) ?_
        refine z_ald (f := U 3) E hK G.1 11 0 rfl rfl (in_unitM c_1) d_M_handOut_45 ?_
        refine z_ald (f := V 0) E hK G.1 12 0 rfl rfl (hU _ (unit_lt c_1) (Or.inl c_3)) d_M_handOut_46 ?_
        refine z_rv (As := [.int (V 0 (U 3 u.toNatClampNeg).toNatClampNeg)]) (rest := []) E hN hK G.1 hl.1 (c_M_seatOf l D cI a 0 nw k n c Z P U V (V 0 (U 3 u.toNatClampNeg).toNatClampNeg) hk hn hc) [0, 1, 2, 3, 4, 5, 6, 7, 8, 9, 10, 11, 12, 13, 14, 15, 16, 17] rfl 0 rfl rfl kz_M_83 rfl ⟨Nat.le_of_ble_eq_true rfl, Nat.le_of_ble_eq_true rfl⟩ rfl (Nat.le_of_ble_eq_true rfl) ⟨Nat.zero_le _, Nat.zero_le _⟩ d_M_handOut_47 ?_
        refine lv_if_ge (tgt := 56) hx hb d_M_handOut_50 (by decide) (fun c_4 => ?_) (fun c_4 => ?_)
        · refine lv_aload_n hx hb d_M_handOut_56 rfl (lv_at hl 0 rfl) ?_
          refine z_get (v := .ref (a 11)) E hK G.1 i_M 0 14 rfl rfl (by decide) kf_M_40 rfl d_M_handOut_57 ?_
          refine lv_iload_n hx hb d_M_handOut_60 rfl (lv_at hl 1 rfl) ?_
          refine z_ald (f := U 3) E hK G.1 11 0 rfl rfl (in_unitM c_1) d_M_handOut_61 ?_
          refine lv_istore_n (lv' := [(3, .int (U 3 u.toNatClampNeg)), (0, .ref (a 0)), (1, .int u), (2, .int t)]) hx hb d_M_handOut_62 rfl hl (by decide) rfl (fun ls hl => ?_)
          refine lv_aload_n hx hb d_M_handOut_63 rfl (lv_at hl 1 rfl) ?_
          refine z_get (v := .ref (a 3)) E hK G.1 i_M 0 6 rfl rfl (by decide) kf_M_16 rfl d_M_handOut_64 ?_
          refine lv_aload_n hx hb d_M_handOut_67 rfl (lv_at hl 1 rfl) ?_
          refine z_get (v := .ref (a 12)) E hK G.1 i_M 0 16 rfl rfl (by decide) kf_M_43 rfl d_M_handOut_68 ?_
          refine lv_iload_n hx hb d_M_handOut_71 rfl (lv_at hl 0 rfl) ?_
          refine z_ald (f := V 0) E hK G.1 12 0 rfl rfl (hU _ (unit_lt c_1) (Or.inl c_3)) d_M_handOut_72 ?_
          refine z_ald (f := P 0) E hK G.1 3 0 rfl rfl (hV _) d_M_handOut_73 ?_
          refine lv_aload_n hx hb d_M_handOut_74 rfl (lv_at hl 1 rfl) ?_
          refine z_get (v := .ref (a 10)) E hK G.1 i_M 0 13 rfl rfl (by decide) kf_M_37 rfl d_M_handOut_75 ?_
          refine lv_iload_n hx hb d_M_handOut_78 rfl (lv_at hl 2 rfl) ?_
          refine z_ald (f := U 2) E hK G.1 10 0 rfl rfl (in_unitM c_1) d_M_handOut_79 ?_
          refine lv_icmp_ge (tgt := 86) hx hb d_M_handOut_80 (by decide) (fun c_5 => ?_) (fun c_5 => ?_)
          · refine lv_aload_n hx hb d_M_handOut_86 rfl (lv_at hl 1 rfl) ?_
            refine lv_iload_n hx hb d_M_handOut_87 rfl (lv_at hl 3 rfl) ?_
            refine z_put (ty := .int) (ws' := wM a cI 0 t (nI k) (nI n) (nI c) Z P U V) E hK G i_M t_M t_M_ok n_M 0 1 rfl rfl (by decide) kf_M_72 rfl rfl rfl rfl (Nat.le_of_ble_eq_true rfl) rfl d_M_handOut_88 (fun H locs G => ?_)
            refine lv_aload_n hx hb d_M_handOut_91 rfl (lv_at hl 1 rfl) ?_
            refine z_get (v := .ref (a 8)) E hK G.1 i_M 0 11 rfl rfl (by decide) kf_M_31 rfl d_M_handOut_92 ?_
            refine lv_iload_n hx hb d_M_handOut_95 rfl (lv_at hl 2 rfl) ?_
            refine lv_iconst (v := 2) hx hb d_M_handOut_96 (by decide) ?_
            refine z_ast (f := U 0) (ws' := wM a cI 0 t (nI k) (nI n) (nI c) Z P (up2 U 0 u.toNatClampNeg 2) V) E hK G 8 0 rfl rfl (in_unitM c_1) rfl d_M_handOut_97 (fun H locs G => ?_)
            refine lv_aload_n hx hb d_M_handOut_98 rfl (lv_at hl 1 rfl) ?_
            refine z_get (v := .ref (a 14)) E hK G.1 i_M 0 18 rfl rfl (by decide) kf_M_49 rfl d_M_handOut_99 ?_
            refine lv_iload_n hx hb d_M_handOut_102 rfl (lv_at hl 0 rfl) ?_
            refine lv_iconst (v := 2) hx hb d_M_handOut_103 (by decide) ?_
            refine z_ast (f := V 2) (ws' := wM a cI 0 t (nI k) (nI n) (nI c) Z P (up2 U 0 u.toNatClampNeg 2) (up2 V 2 (U 3 u.toNatClampNeg).toNatClampNeg 2)) E hK G 14 0 rfl rfl (hU _ (unit_lt c_1) (Or.inl c_3)) rfl d_M_handOut_104 (fun H locs G => ?_)
            refine lv_aload_n hx hb d_M_handOut_105 rfl (lv_at hl 1 rfl) ?_
            refine z_get (v := .ref (a 16)) E hK G.1 i_M 0 20 rfl rfl (by decide) kf_M_55 rfl d_M_handOut_106 ?_
            refine lv_iload_n hx hb d_M_handOut_109 rfl (lv_at hl 0 rfl) ?_
            refine lv_iload_n hx hb d_M_handOut_110 rfl (lv_at hl 3 rfl) ?_
            refine z_ast (f := (up2 V 2 (U 3 u.toNatClampNeg).toNatClampNeg 2) 4) (ws' := wM a cI 0 t (nI k) (nI n) (nI c) Z P (up2 U 0 u.toNatClampNeg 2) (up2 (up2 V 2 (U 3 u.toNatClampNeg).toNatClampNeg 2) 4 (U 3 u.toNatClampNeg).toNatClampNeg t)) E hK G 16 0 rfl rfl (hU _ (unit_lt c_1) (Or.inl c_3)) rfl d_M_handOut_111 (fun H locs G => ?_)
            refine lv_aload_n hx hb d_M_handOut_112 rfl (lv_at hl 1 rfl) ?_
            refine z_get (v := .ref (a 12)) E hK G.1 i_M 0 16 rfl rfl (by decide) kf_M_43 rfl d_M_handOut_113 ?_
            refine lv_iload_n hx hb d_M_handOut_116 rfl (lv_at hl 0 rfl) ?_
            refine z_ald (f := V 0) E hK G.1 12 0 rfl rfl (hU _ (unit_lt c_1) (Or.inl c_3)) d_M_handOut_117 ?_
            have hf : f_M_handOut nw k n c Z P U V u t = (V 0 (U 3 u.toNatClampNeg).toNatClampNeg, 0, t, nI n, nI c, Z, P, up2 U 0 u.toNatClampNeg 2, up2 (up2 V 2 (U 3 u.toNatClampNeg).toNatClampNeg 2) 4 (U 3 u.toNatClampNeg).toNatClampNeg t) := by unfold f_M_handOut; rw [if_neg c_1, if_neg c_2, if_pos c_3, if_pos c_4, if_pos c_5]
            exact zW.iret E hrt hlk G (by rw [hf]) (by rw [hf]) d_M_handOut_118
          · refine lv_bipush (v := (-5)) hx hb d_M_handOut_83 (by decide) ?_
            have hf : f_M_handOut nw k n c Z P U V u t = ((-5), 0, nw, nI n, nI c, Z, P, U, V) := by unfold f_M_handOut; rw [if_neg c_1, if_neg c_2, if_pos c_3, if_pos c_4, if_neg c_5]
            exact zW.iret E hrt hlk G (by rw [hf]) (by rw [hf]) d_M_handOut_85
        · refine lv_bipush (v := (-3)) hx hb d_M_handOut_53 (by decide) ?_
          have hf : f_M_handOut nw k n c Z P U V u t = ((-3), 0, nw, nI n, nI c, Z, P, U, V) := by unfold f_M_handOut; rw [if_neg c_1, if_neg c_2, if_pos c_3, if_neg c_4]
          exact zW.iret E hrt hlk G (by rw [hf]) (by rw [hf]) d_M_handOut_55
    · refine lv_bipush (v := (-2)) hx hb d_M_handOut_22 (by decide) ?_
      have hf : f_M_handOut nw k n c Z P U V u t = ((-2), 0, nw, nI n, nI c, Z, P, U, V) := by unfold f_M_handOut; rw [if_neg c_1, if_pos c_2]
      exact zW.iret E hrt hlk G (by rw [hf]) (by rw [hf]) d_M_handOut_24
  · refine lv_iconst (v := (-1)) hx hb d_M_handOut_12 (by decide) ?_
    have hf : f_M_handOut nw k n c Z P U V u t = ((-1), 0, nw, nI n, nI c, Z, P, U, V) := by unfold f_M_handOut; rw [if_pos c_1]
    exact zW.iret E hrt hlk G (by rw [hf]) (by rw [hf]) d_M_handOut_13
def f_M_back (nw : Int32) (n : Nat) (c : Nat) (Z : Nat → Nat → Int32) (P : Nat → Nat → Int32) (U : Nat → Nat → Int32) (V : Nat → Nat → Int32) (u : Int32) (t : Int32) : Int32 × Int32 × Int32 × Int32 × Int32 × (Nat → Nat → Int32) × (Nat → Nat → Int32) × (Nat → Nat → Int32) × (Nat → Nat → Int32) := (if (f_M_isUnit u) = 0 then ((-1), 0, nw, nI n, nI c, Z, P, U, V) else (if (f_M_isNow nw t) = 0 then ((-2), 0, nw, nI n, nI c, Z, P, U, V) else (if (U 0 u.toNatClampNeg) = 2 then (U 3 u.toNatClampNeg, 0, t, nI n, nI c, Z, P, up2 U 0 u.toNatClampNeg 3, up2 (up2 V 2 (U 3 u.toNatClampNeg).toNatClampNeg 3) 5 (U 3 u.toNatClampNeg).toNatClampNeg t) else ((-3), 0, nw, nI n, nI c, Z, P, U, V))))
set_option maxHeartbeats 4000000 in
set_option maxRecDepth 100000 in
theorem c_M_back (l : Launch) (D : va_G) (cI : ClassId) (a : Nat → Nat) (th : Int32) (nw : Int32) (k : Nat) (n : Nat) (c : Nat) (Z : Nat → Nat → Int32) (P : Nat → Nat → Int32) (U : Nat → Nat → Int32) (V : Nat → Nat → Int32) (u : Int32) (t : Int32) (hk : k ≤ 20) (hn : n ≤ 60) (hc : c ≤ 300) (hU : ∀ u, u < 80 → (U 0 u = 1 ∨ U 0 u = 2) → vp_in (U 3 u) 300) : zW l D [(cI, .int)] y_M_back b_M_back 3 (some .int) 2 43 [.ref (a 0), .int u, .int t] (wM a cI th nw (nI k) (nI n) (nI c) Z P U V) (wM a cI ((f_M_back nw n c Z P U V u t).2.1) ((f_M_back nw n c Z P U V u t).2.2.1) (nI k) ((f_M_back nw n c Z P U V u t).2.2.2.1) ((f_M_back nw n c Z P U V u t).2.2.2.2.1) ((f_M_back nw n c Z P U V u t).2.2.2.2.2.1) ((f_M_back nw n c Z P U V u t).2.2.2.2.2.2.1) ((f_M_back nw n c Z P U V u t).2.2.2.2.2.2.2.1) ((f_M_back nw n c Z P U V u t).2.2.2.2.2.2.2.2)) (some (.int (f_M_back nw n c Z P U V u t).1)) := by
  refine zW.of (by decide) (Nat.le_of_ble_eq_true rfl) ?_
  intro p e s m below meth c0 ls A E hrt hlk hN hK hA G hl
  have hx := E.1
  have hb := E.2.1
  have hl : lv_has ls 3 [(0, .ref (a 0)), (1, .int u), (2, .int t)] := hl
  refine lv_aload_n hx hb d_M_back_0 rfl (lv_at hl 0 rfl) ?_
  refine lv_iconst (v := 0) hx hb d_M_back_1 (by decide) ?_
  refine z_put (ty := .int) (ws' := wM a cI 0 nw (nI k) (nI n) (nI c) Z P U V) E hK G i_M t_M t_M_ok n_M 0 0 rfl rfl (by decide) kf_M_65 rfl rfl rfl rfl (Nat.le_of_ble_eq_true rfl) rfl d_M_back_2 (fun H locs G => ?_)
  refine lv_iload_n hx hb d_M_back_5 rfl (lv_at hl 1 rfl) ?_
  refine z_rs (As := [.int u]) (rest := []) E hN hK hl.1 (c_M_isUnit l D [(cI, .int)] u) kz_M_103 rfl ⟨Nat.le_of_ble_eq_true rfl, Nat.le_of_ble_eq_true rfl⟩ rfl (Nat.le_of_ble_eq_true rfl) ⟨Nat.zero_le _, Nat.zero_le _⟩ d_M_back_6 ?_
  refine lv_if_ne (tgt := 14) hx hb d_M_back_9 (by decide) (fun c_1 => ?_) (fun c_1 => ?_)
  · refine lv_aload_n hx hb d_M_back_14 rfl (lv_at hl 0 rfl) ?_
    refine lv_iload_n hx hb d_M_back_15 rfl (lv_at hl 2 rfl) ?_
    refine z_rv (As := [.int t]) (rest := []) E hN hK G.1 hl.1 (c_M_isNow l D cI a 0 nw k n c Z P U V t hk hn hc) [0, 1, 2, 3, 4, 5, 6, 7, 8, 9, 10, 11, 12, 13, 14, 15, 16, 17] rfl 0 rfl rfl kz_M_106 rfl ⟨Nat.le_of_ble_eq_true rfl, Nat.le_of_ble_eq_true rfl⟩ rfl (Nat.le_of_ble_eq_true rfl) ⟨Nat.zero_le _, Nat.zero_le _⟩ d_M_back_16 ?_
    refine lv_if_ne (tgt := 25) hx hb d_M_back_19 (by decide) (fun c_2 => ?_) (fun c_2 => ?_)
    · refine lv_aload_n hx hb d_M_back_25 rfl (lv_at hl 0 rfl) ?_
      refine z_get (v := .ref (a 8)) E hK G.1 i_M 0 11 rfl rfl (by decide) kf_M_31 rfl d_M_back_26 ?_
      refine lv_iload_n hx hb d_M_back_29 rfl (lv_at hl 1 rfl) ?_
      refine z_ald (f := U 0) E hK G.1 8 0 rfl rfl (in_unitM c_1) d_M_back_30 ?_
      refine lv_iconst (v := 2) hx hb d_M_back_31 (by decide) ?_
      refine lv_icmp_eq (tgt := 38) hx hb d_M_back_32 (by decide) (fun c_3 => ?_) (fun c_3 => ?_)
      · refine lv_aload_n hx hb d_M_back_38 rfl (lv_at hl 0 rfl) ?_
        refine lv_iload_n hx hb d_M_back_39 rfl (lv_at hl 2 rfl) ?_
        refine z_put (ty := .int) (ws' := wM a cI 0 t (nI k) (nI n) (nI c) Z P U V) E hK G i_M t_M t_M_ok n_M 0 1 rfl rfl (by decide) kf_M_72 rfl rfl rfl rfl (Nat.le_of_ble_eq_true rfl) rfl d_M_back_40 (fun H locs G => ?_)
        refine lv_aload_n hx hb d_M_back_43 rfl (lv_at hl 0 rfl) ?_
        refine z_get (v := .ref (a 8)) E hK G.1 i_M 0 11 rfl rfl (by decide) kf_M_31 rfl d_M_back_44 ?_
        refine lv_iload_n hx hb d_M_back_47 rfl (lv_at hl 1 rfl) ?_
        refine lv_iconst (v := 3) hx hb d_M_back_48 (by decide) ?_
        refine z_ast (f := U 0) (ws' := wM a cI 0 t (nI k) (nI n) (nI c) Z P (up2 U 0 u.toNatClampNeg 3) V) E hK G 8 0 rfl rfl (in_unitM c_1) rfl d_M_back_49 (fun H locs G => ?_)
        refine lv_aload_n hx hb d_M_back_50 rfl (lv_at hl 0 rfl) ?_
        refine z_get (v := .ref (a 14)) E hK G.1 i_M 0 18 rfl rfl (by decide) kf_M_49 rfl d_M_back_51 ?_
        refine lv_aload_n hx hb d_M_back_54 rfl (lv_at hl 0 rfl) ?_
        refine z_get (v := .ref (a 11)) E hK G.1 i_M 0 14 rfl rfl (by decide) kf_M_40 rfl d_M_back_55 ?_
        refine lv_iload_n hx hb d_M_back_58 rfl (lv_at hl 1 rfl) ?_
        refine z_ald (f := U 3) E hK G.1 11 0 rfl rfl (in_unitM c_1) d_M_back_59 ?_
        refine lv_iconst (v := 3) hx hb d_M_back_60 (by decide) ?_
        refine z_ast (f := V 2) (ws' := wM a cI 0 t (nI k) (nI n) (nI c) Z P (up2 U 0 u.toNatClampNeg 3) (up2 V 2 (U 3 u.toNatClampNeg).toNatClampNeg 3)) E hK G 14 0 rfl rfl (hU _ (unit_lt c_1) (Or.inr c_3)) rfl d_M_back_61 (fun H locs G => ?_)
        refine lv_aload_n hx hb d_M_back_62 rfl (lv_at hl 0 rfl) ?_
        refine z_get (v := .ref (a 17)) E hK G.1 i_M 0 21 rfl rfl (by decide) kf_M_58 rfl d_M_back_63 ?_
        refine lv_aload_n hx hb d_M_back_66 rfl (lv_at hl 0 rfl) ?_
        refine z_get (v := .ref (a 11)) E hK G.1 i_M 0 14 rfl rfl (by decide) kf_M_40 rfl d_M_back_67 ?_
        refine lv_iload_n hx hb d_M_back_70 rfl (lv_at hl 1 rfl) ?_
        refine z_ald (f := U 3) E hK G.1 11 0 rfl rfl (in_unitM c_1) d_M_back_71 ?_
        refine lv_iload_n hx hb d_M_back_72 rfl (lv_at hl 2 rfl) ?_
        refine z_ast (f := (up2 V 2 (U 3 u.toNatClampNeg).toNatClampNeg 3) 5) (ws' := wM a cI 0 t (nI k) (nI n) (nI c) Z P (up2 U 0 u.toNatClampNeg 3) (up2 (up2 V 2 (U 3 u.toNatClampNeg).toNatClampNeg 3) 5 (U 3 u.toNatClampNeg).toNatClampNeg t)) E hK G 17 0 rfl rfl (hU _ (unit_lt c_1) (Or.inr c_3)) rfl d_M_back_73 (fun H locs G => ?_)
        refine lv_aload_n hx hb d_M_back_74 rfl (lv_at hl 0 rfl) ?_
        refine z_get (v := .ref (a 11)) E hK G.1 i_M 0 14 rfl rfl (by decide) kf_M_40 rfl d_M_back_75 ?_
        refine lv_iload_n hx hb d_M_back_78 rfl (lv_at hl 1 rfl) ?_
        refine z_ald (f := U 3) E hK G.1 11 0 rfl rfl (in_unitM c_1) d_M_back_79 ?_
        have hf : f_M_back nw n c Z P U V u t = (U 3 u.toNatClampNeg, 0, t, nI n, nI c, Z, P, up2 U 0 u.toNatClampNeg 3, up2 (up2 V 2 (U 3 u.toNatClampNeg).toNatClampNeg 3) 5 (U 3 u.toNatClampNeg).toNatClampNeg t) := by unfold f_M_back; rw [if_neg c_1, if_neg c_2, if_pos c_3]
        exact zW.iret E hrt hlk G (by rw [hf]) (by rw [hf]) d_M_back_80
      · refine lv_bipush (v := (-3)) hx hb d_M_back_35 (by decide) ?_
        have hf : f_M_back nw n c Z P U V u t = ((-3), 0, nw, nI n, nI c, Z, P, U, V) := by unfold f_M_back; rw [if_neg c_1, if_neg c_2, if_neg c_3]
        exact zW.iret E hrt hlk G (by rw [hf]) (by rw [hf]) d_M_back_37
    · refine lv_bipush (v := (-2)) hx hb d_M_back_22 (by decide) ?_
      have hf : f_M_back nw n c Z P U V u t = ((-2), 0, nw, nI n, nI c, Z, P, U, V) := by unfold f_M_back; rw [if_neg c_1, if_pos c_2]
      exact zW.iret E hrt hlk G (by rw [hf]) (by rw [hf]) d_M_back_24
  · refine lv_iconst (v := (-1)) hx hb d_M_back_12 (by decide) ?_
    have hf : f_M_back nw n c Z P U V u t = ((-1), 0, nw, nI n, nI c, Z, P, U, V) := by unfold f_M_back; rw [if_pos c_1]
    exact zW.iret E hrt hlk G (by rw [hf]) (by rw [hf]) d_M_back_13
def f_M_look (nw : Int32) (n : Nat) (c : Nat) (Z : Nat → Nat → Int32) (P : Nat → Nat → Int32) (U : Nat → Nat → Int32) (V : Nat → Nat → Int32) (u : Int32) (to : Int32) : Int32 × Int32 × Int32 × Int32 × Int32 × (Nat → Nat → Int32) × (Nat → Nat → Int32) × (Nat → Nat → Int32) × (Nat → Nat → Int32) := (if (f_M_isUnit u) = 0 then ((-1), 0, nw, nI n, nI c, Z, P, U, V) else (if (f_M_in to (U 1 u.toNatClampNeg) 3) = 0 then ((-2), 0, nw, nI n, nI c, Z, P, U, V) else (if (U 0 u.toNatClampNeg) = 3 then (if 2 ≤ to then (1000, 0, nw, nI n, nI c, Z, P, up2 (up2 (up2 U 1 u.toNatClampNeg to) 0 u.toNatClampNeg 0) 3 u.toNatClampNeg (-1), V) else (if (f_M_ahead c V u) < 0 then (1000, 0, nw, nI n, nI c, Z, P, up2 (up2 (up2 U 1 u.toNatClampNeg to) 0 u.toNatClampNeg 0) 3 u.toNatClampNeg (-1), V) else ((f_M_fetchFor (up2 U 1 u.toNatClampNeg to) V u (f_M_ahead c V u)).1, 0, nw, nI n, nI c, Z, P, (f_M_fetchFor (up2 U 1 u.toNatClampNeg to) V u (f_M_ahead c V u)).2.1, (f_M_fetchFor (up2 U 1 u.toNatClampNeg to) V u (f_M_ahead c V u)).2.2))) else ((-3), 0, nw, nI n, nI c, Z, P, U, V))))
set_option maxHeartbeats 4000000 in
set_option maxRecDepth 100000 in
theorem c_M_look (l : Launch) (D : va_G) (cI : ClassId) (a : Nat → Nat) (th : Int32) (nw : Int32) (k : Nat) (n : Nat) (c : Nat) (Z : Nat → Nat → Int32) (P : Nat → Nat → Int32) (U : Nat → Nat → Int32) (V : Nat → Nat → Int32) (u : Int32) (to : Int32) (hk : k ≤ 20) (hn : n ≤ 60) (hc : c ≤ 300) : zW l D [(cI, .int)] y_M_look b_M_look 3 (some .int) 2 42 [.ref (a 0), .int u, .int to] (wM a cI th nw (nI k) (nI n) (nI c) Z P U V) (wM a cI ((f_M_look nw n c Z P U V u to).2.1) ((f_M_look nw n c Z P U V u to).2.2.1) (nI k) ((f_M_look nw n c Z P U V u to).2.2.2.1) ((f_M_look nw n c Z P U V u to).2.2.2.2.1) ((f_M_look nw n c Z P U V u to).2.2.2.2.2.1) ((f_M_look nw n c Z P U V u to).2.2.2.2.2.2.1) ((f_M_look nw n c Z P U V u to).2.2.2.2.2.2.2.1) ((f_M_look nw n c Z P U V u to).2.2.2.2.2.2.2.2)) (some (.int (f_M_look nw n c Z P U V u to).1)) := by
  refine zW.of (by decide) (Nat.le_of_ble_eq_true rfl) ?_
  intro p e s m below meth c0 ls A E hrt hlk hN hK hA G hl
  have hx := E.1
  have hb := E.2.1
  have hl : lv_has ls 3 [(0, .ref (a 0)), (1, .int u), (2, .int to)] := hl
  refine lv_aload_n hx hb d_M_look_0 rfl (lv_at hl 0 rfl) ?_
  refine lv_iconst (v := 0) hx hb d_M_look_1 (by decide) ?_
  refine z_put (ty := .int) (ws' := wM a cI 0 nw (nI k) (nI n) (nI c) Z P U V) E hK G i_M t_M t_M_ok n_M 0 0 rfl rfl (by decide) kf_M_65 rfl rfl rfl rfl (Nat.le_of_ble_eq_true rfl) rfl d_M_look_2 (fun H locs G => ?_)
  refine lv_iload_n hx hb d_M_look_5 rfl (lv_at hl 1 rfl) ?_
  refine z_rs (As := [.int u]) (rest := []) E hN hK hl.1 (c_M_isUnit l D [(cI, .int)] u) kz_M_103 rfl ⟨Nat.le_of_ble_eq_true rfl, Nat.le_of_ble_eq_true rfl⟩ rfl (Nat.le_of_ble_eq_true rfl) ⟨Nat.zero_le _, Nat.zero_le _⟩ d_M_look_6 ?_
  refine lv_if_ne (tgt := 14) hx hb d_M_look_9 (by decide) (fun c_1 => ?_) (fun c_1 => ?_)
  · refine lv_iload_n hx hb d_M_look_14 rfl (lv_at hl 2 rfl) ?_
    refine lv_aload_n hx hb d_M_look_15 rfl (lv_at hl 0 rfl) ?_
    refine z_get (v := .ref (a 9)) E hK G.1 i_M 0 12 rfl rfl (by decide) kf_M_34 rfl d_M_look_16 ?_
    refine lv_iload_n hx hb d_M_look_19 rfl (lv_at hl 1 rfl) ?_
    refine z_ald (f := U 1) E hK G.1 9 0 rfl rfl (in_unitM c_1) d_M_look_20 ?_
    refine lv_iconst (v := 3) hx hb d_M_look_21 (by decide) ?_
    refine z_rs (As := [.int to, .int (U 1 u.toNatClampNeg), .int 3]) (rest := []) E hN hK hl.1 (c_M_in l D [(cI, .int)] to (U 1 u.toNatClampNeg) 3) kz_M_68 rfl ⟨Nat.le_of_ble_eq_true rfl, Nat.le_of_ble_eq_true rfl⟩ rfl (Nat.le_of_ble_eq_true rfl) ⟨Nat.zero_le _, Nat.zero_le _⟩ d_M_look_22 ?_
    refine lv_if_ne (tgt := 31) hx hb d_M_look_25 (by decide) (fun c_2 => ?_) (fun c_2 => ?_)
    · refine lv_aload_n hx hb d_M_look_31 rfl (lv_at hl 0 rfl) ?_
      refine z_get (v := .ref (a 8)) E hK G.1 i_M 0 11 rfl rfl (by decide) kf_M_31 rfl d_M_look_32 ?_
      refine lv_iload_n hx hb d_M_look_35 rfl (lv_at hl 1 rfl) ?_
      refine z_ald (f := U 0) E hK G.1 8 0 rfl rfl (in_unitM c_1) d_M_look_36 ?_
      refine lv_iconst (v := 3) hx hb d_M_look_37 (by decide) ?_
      refine lv_icmp_eq (tgt := 44) hx hb d_M_look_38 (by decide) (fun c_3 => ?_) (fun c_3 => ?_)
      · refine lv_aload_n hx hb d_M_look_44 rfl (lv_at hl 0 rfl) ?_
        refine z_get (v := .ref (a 9)) E hK G.1 i_M 0 12 rfl rfl (by decide) kf_M_34 rfl d_M_look_45 ?_
        refine lv_iload_n hx hb d_M_look_48 rfl (lv_at hl 1 rfl) ?_
        refine lv_iload_n hx hb d_M_look_49 rfl (lv_at hl 2 rfl) ?_
        refine z_ast (f := U 1) (ws' := wM a cI 0 nw (nI k) (nI n) (nI c) Z P (up2 U 1 u.toNatClampNeg to) V) E hK G 9 0 rfl rfl (in_unitM c_1) rfl d_M_look_50 (fun H locs G => ?_)
        refine lv_iload_n hx hb d_M_look_51 rfl (lv_at hl 2 rfl) ?_
        refine lv_iconst (v := 2) hx hb d_M_look_52 (by decide) ?_
        refine lv_icmp_ge (tgt := 75) hx hb d_M_look_53 (by decide) (fun c_4 => ?_) (fun c_4 => ?_)
        · refine lv_aload_n hx hb d_M_look_75 rfl (lv_at hl 0 rfl) ?_
          refine z_get (v := .ref (a 8)) E hK G.1 i_M 0 11 rfl rfl (by decide) kf_M_31 rfl d_M_look_76 ?_
          refine lv_iload_n hx hb d_M_look_79 rfl (lv_at hl 1 rfl) ?_
          refine lv_iconst (v := 0) hx hb d_M_look_80 (by decide) ?_
          refine z_ast (f := (up2 U 1 u.toNatClampNeg to) 0) (ws' := wM a cI 0 nw (nI k) (nI n) (nI c) Z P (up2 (up2 U 1 u.toNatClampNeg to) 0 u.toNatClampNeg 0) V) E hK G 8 0 rfl rfl (in_unitM c_1) rfl d_M_look_81 (fun H locs G => ?_)
          refine lv_aload_n hx hb d_M_look_82 rfl (lv_at hl 0 rfl) ?_
          refine z_get (v := .ref (a 11)) E hK G.1 i_M 0 14 rfl rfl (by decide) kf_M_40 rfl d_M_look_83 ?_
          refine lv_iload_n hx hb d_M_look_86 rfl (lv_at hl 1 rfl) ?_
          refine lv_iconst (v := (-1)) hx hb d_M_look_87 (by decide) ?_
          refine z_ast (f := (up2 (up2 U 1 u.toNatClampNeg to) 0 u.toNatClampNeg 0) 3) (ws' := wM a cI 0 nw (nI k) (nI n) (nI c) Z P (up2 (up2 (up2 U 1 u.toNatClampNeg to) 0 u.toNatClampNeg 0) 3 u.toNatClampNeg (-1)) V) E hK G 11 0 rfl rfl (in_unitM c_1) rfl d_M_look_88 (fun H locs G => ?_)
          refine lv_sipush (v := 1000) hx hb d_M_look_89 (by decide) ?_
          have hf : f_M_look nw n c Z P U V u to = (1000, 0, nw, nI n, nI c, Z, P, up2 (up2 (up2 U 1 u.toNatClampNeg to) 0 u.toNatClampNeg 0) 3 u.toNatClampNeg (-1), V) := by unfold f_M_look; rw [if_neg c_1, if_neg c_2, if_pos c_3, if_pos c_4]
          exact zW.iret E hrt hlk G (by rw [hf]) (by rw [hf]) d_M_look_92
        · refine lv_aload_n hx hb d_M_look_56 rfl (lv_at hl 0 rfl) ?_
          refine lv_iload_n hx hb d_M_look_57 rfl (lv_at hl 1 rfl) ?_
          refine z_rv (As := [.int u]) (rest := []) E hN hK G.1 hl.1 (c_M_ahead l D cI a 0 nw k n c Z P (up2 U 1 u.toNatClampNeg to) V u hk hn hc) [0, 1, 2, 3, 4, 5, 6, 7, 8, 9, 10, 11, 12, 13, 14, 15, 16, 17] rfl 0 rfl rfl kz_M_112 rfl ⟨Nat.le_of_ble_eq_true rfl, Nat.le_of_ble_eq_true rfl⟩ rfl (Nat.le_of_ble_eq_true rfl) ⟨Nat.zero_le _, Nat.zero_le _⟩ d_M_look_58 ?_
          refine lv_if_lt (tgt := 75) hx hb d_M_look_61 (by decide) (fun c_5 => ?_) (fun c_5 => ?_)
          · refine lv_aload_n hx hb d_M_look_75 rfl (lv_at hl 0 rfl) ?_
            refine z_get (v := .ref (a 8)) E hK G.1 i_M 0 11 rfl rfl (by decide) kf_M_31 rfl d_M_look_76 ?_
            refine lv_iload_n hx hb d_M_look_79 rfl (lv_at hl 1 rfl) ?_
            refine lv_iconst (v := 0) hx hb d_M_look_80 (by decide) ?_
            refine z_ast (f := (up2 U 1 u.toNatClampNeg to) 0) (ws' := wM a cI 0 nw (nI k) (nI n) (nI c) Z P (up2 (up2 U 1 u.toNatClampNeg to) 0 u.toNatClampNeg 0) V) E hK G 8 0 rfl rfl (in_unitM c_1) rfl d_M_look_81 (fun H locs G => ?_)
            refine lv_aload_n hx hb d_M_look_82 rfl (lv_at hl 0 rfl) ?_
            refine z_get (v := .ref (a 11)) E hK G.1 i_M 0 14 rfl rfl (by decide) kf_M_40 rfl d_M_look_83 ?_
            refine lv_iload_n hx hb d_M_look_86 rfl (lv_at hl 1 rfl) ?_
            refine lv_iconst (v := (-1)) hx hb d_M_look_87 (by decide) ?_
            refine z_ast (f := (up2 (up2 U 1 u.toNatClampNeg to) 0 u.toNatClampNeg 0) 3) (ws' := wM a cI 0 nw (nI k) (nI n) (nI c) Z P (up2 (up2 (up2 U 1 u.toNatClampNeg to) 0 u.toNatClampNeg 0) 3 u.toNatClampNeg (-1)) V) E hK G 11 0 rfl rfl (in_unitM c_1) rfl d_M_look_88 (fun H locs G => ?_)
            refine lv_sipush (v := 1000) hx hb d_M_look_89 (by decide) ?_
            have hf : f_M_look nw n c Z P U V u to = (1000, 0, nw, nI n, nI c, Z, P, up2 (up2 (up2 U 1 u.toNatClampNeg to) 0 u.toNatClampNeg 0) 3 u.toNatClampNeg (-1), V) := by unfold f_M_look; rw [if_neg c_1, if_neg c_2, if_pos c_3, if_neg c_4, if_pos c_5]
            exact zW.iret E hrt hlk G (by rw [hf]) (by rw [hf]) d_M_look_92
          · refine lv_aload_n hx hb d_M_look_64 rfl (lv_at hl 0 rfl) ?_
            refine lv_iload_n hx hb d_M_look_65 rfl (lv_at hl 1 rfl) ?_
            refine lv_aload_n hx hb d_M_look_66 rfl (lv_at hl 0 rfl) ?_
            refine lv_iload_n hx hb d_M_look_67 rfl (lv_at hl 1 rfl) ?_
            refine z_rv (As := [.int u]) (rest := [.int u, .ref (a 0)]) E hN hK G.1 hl.1 (c_M_ahead l D cI a 0 nw k n c Z P (up2 U 1 u.toNatClampNeg to) V u hk hn hc) [0, 1, 2, 3, 4, 5, 6, 7, 8, 9, 10, 11, 12, 13, 14, 15, 16, 17] rfl 0 rfl rfl kz_M_112 rfl ⟨Nat.le_of_ble_eq_true rfl, Nat.le_of_ble_eq_true rfl⟩ rfl (Nat.le_of_ble_eq_true rfl) ⟨Nat.zero_le _, Nat.zero_le _⟩ d_M_look_68 ?_
            refine z_wv (As := [.int u, .int (f_M_ahead c V u)]) (rest := []) (wr := ([] : List Nat).filterMap (fun i => (wM a cI 0 nw (nI k) (nI n) (nI c) Z P (up2 U 1 u.toNatClampNeg to) V)[i]?)) (ws' := wM a cI 0 nw (nI k) (nI n) (nI c) Z P ((f_M_fetchFor (up2 U 1 u.toNatClampNeg to) V u (f_M_ahead c V u)).2.1) ((f_M_fetchFor (up2 U 1 u.toNatClampNeg to) V u (f_M_ahead c V u)).2.2)) E hN hK hA G hl.1 (c_M_fetchFor l D cI a 0 nw k n c Z P (up2 U 1 u.toNatClampNeg to) V u (f_M_ahead c V u) hk hn hc (in_unitM c_1) (ah_in hc c_5)) [0, 1, 2, 3, 4, 5, 6, 7, 8, 9, 10, 11, 12, 13, 14, 15, 16, 17] [] [0, 1, 2, 3, 4, 5, 6, 7, 8, 9, 10, 11, 12, 13, 14, 15, 16, 17] rfl rfl rfl rfl rfl rfl (by decide) 0 rfl rfl kz_M_115 rfl ⟨Nat.le_of_ble_eq_true rfl, Nat.le_of_ble_eq_true rfl⟩ rfl (Nat.le_of_ble_eq_true rfl) ⟨Nat.zero_le _, Nat.zero_le _⟩ d_M_look_71 (fun H locs G => ?_)
            refine W.eq (g2 := F0 m 74 ls [.int ((f_M_fetchFor (up2 U 1 u.toNatClampNeg to) V u (f_M_ahead c V u)).1)]) rfl ?_
            have hf : f_M_look nw n c Z P U V u to = ((f_M_fetchFor (up2 U 1 u.toNatClampNeg to) V u (f_M_ahead c V u)).1, 0, nw, nI n, nI c, Z, P, (f_M_fetchFor (up2 U 1 u.toNatClampNeg to) V u (f_M_ahead c V u)).2.1, (f_M_fetchFor (up2 U 1 u.toNatClampNeg to) V u (f_M_ahead c V u)).2.2) := by unfold f_M_look; rw [if_neg c_1, if_neg c_2, if_pos c_3, if_neg c_4, if_neg c_5]
            exact zW.iret E hrt hlk G (by rw [hf]) (by rw [hf]) d_M_look_74
      · refine lv_bipush (v := (-3)) hx hb d_M_look_41 (by decide) ?_
        have hf : f_M_look nw n c Z P U V u to = ((-3), 0, nw, nI n, nI c, Z, P, U, V) := by unfold f_M_look; rw [if_neg c_1, if_neg c_2, if_neg c_3]
        exact zW.iret E hrt hlk G (by rw [hf]) (by rw [hf]) d_M_look_43
    · refine lv_bipush (v := (-2)) hx hb d_M_look_28 (by decide) ?_
      have hf : f_M_look nw n c Z P U V u to = ((-2), 0, nw, nI n, nI c, Z, P, U, V) := by unfold f_M_look; rw [if_neg c_1, if_pos c_2]
      exact zW.iret E hrt hlk G (by rw [hf]) (by rw [hf]) d_M_look_30
  · refine lv_iconst (v := (-1)) hx hb d_M_look_12 (by decide) ?_
    have hf : f_M_look nw n c Z P U V u to = ((-1), 0, nw, nI n, nI c, Z, P, U, V) := by unfold f_M_look; rw [if_pos c_1]
    exact zW.iret E hrt hlk G (by rw [hf]) (by rw [hf]) d_M_look_13
def f_M_mend (nw : Int32) (n : Nat) (c : Nat) (Z : Nat → Nat → Int32) (P : Nat → Nat → Int32) (U : Nat → Nat → Int32) (V : Nat → Nat → Int32) (u : Int32) : Int32 × Int32 × Int32 × Int32 × Int32 × (Nat → Nat → Int32) × (Nat → Nat → Int32) × (Nat → Nat → Int32) × (Nat → Nat → Int32) := (if (f_M_isUnit u) = 0 then ((-1), 0, nw, nI n, nI c, Z, P, U, V) else (if (U 0 u.toNatClampNeg) = 0 then (1, 0, nw, nI n, nI c, Z, P, up2 U 1 u.toNatClampNeg 0, V) else ((-3), 0, nw, nI n, nI c, Z, P, U, V)))
set_option maxHeartbeats 4000000 in
set_option maxRecDepth 100000 in
theorem c_M_mend (l : Launch) (D : va_G) (cI : ClassId) (a : Nat → Nat) (th : Int32) (nw : Int32) (k : Nat) (n : Nat) (c : Nat) (Z : Nat → Nat → Int32) (P : Nat → Nat → Int32) (U : Nat → Nat → Int32) (V : Nat → Nat → Int32) (u : Int32) (hk : k ≤ 20) (hn : n ≤ 60) (hc : c ≤ 300) : zW l D [(cI, .int)] y_M_mend b_M_mend 2 (some .int) 2 42 [.ref (a 0), .int u] (wM a cI th nw (nI k) (nI n) (nI c) Z P U V) (wM a cI ((f_M_mend nw n c Z P U V u).2.1) ((f_M_mend nw n c Z P U V u).2.2.1) (nI k) ((f_M_mend nw n c Z P U V u).2.2.2.1) ((f_M_mend nw n c Z P U V u).2.2.2.2.1) ((f_M_mend nw n c Z P U V u).2.2.2.2.2.1) ((f_M_mend nw n c Z P U V u).2.2.2.2.2.2.1) ((f_M_mend nw n c Z P U V u).2.2.2.2.2.2.2.1) ((f_M_mend nw n c Z P U V u).2.2.2.2.2.2.2.2)) (some (.int (f_M_mend nw n c Z P U V u).1)) := by
  refine zW.of (by decide) (Nat.le_of_ble_eq_true rfl) ?_
  intro p e s m below meth c0 ls A E hrt hlk hN hK hA G hl
  have hx := E.1
  have hb := E.2.1
  have hl : lv_has ls 2 [(0, .ref (a 0)), (1, .int u)] := hl
  refine lv_aload_n hx hb d_M_mend_0 rfl (lv_at hl 0 rfl) ?_
  refine lv_iconst (v := 0) hx hb d_M_mend_1 (by decide) ?_
  refine z_put (ty := .int) (ws' := wM a cI 0 nw (nI k) (nI n) (nI c) Z P U V) E hK G i_M t_M t_M_ok n_M 0 0 rfl rfl (by decide) kf_M_65 rfl rfl rfl rfl (Nat.le_of_ble_eq_true rfl) rfl d_M_mend_2 (fun H locs G => ?_)
  refine lv_iload_n hx hb d_M_mend_5 rfl (lv_at hl 1 rfl) ?_
  refine z_rs (As := [.int u]) (rest := []) E hN hK hl.1 (c_M_isUnit l D [(cI, .int)] u) kz_M_103 rfl ⟨Nat.le_of_ble_eq_true rfl, Nat.le_of_ble_eq_true rfl⟩ rfl (Nat.le_of_ble_eq_true rfl) ⟨Nat.zero_le _, Nat.zero_le _⟩ d_M_mend_6 ?_
  refine lv_if_ne (tgt := 14) hx hb d_M_mend_9 (by decide) (fun c_1 => ?_) (fun c_1 => ?_)
  · refine lv_aload_n hx hb d_M_mend_14 rfl (lv_at hl 0 rfl) ?_
    refine z_get (v := .ref (a 8)) E hK G.1 i_M 0 11 rfl rfl (by decide) kf_M_31 rfl d_M_mend_15 ?_
    refine lv_iload_n hx hb d_M_mend_18 rfl (lv_at hl 1 rfl) ?_
    refine z_ald (f := U 0) E hK G.1 8 0 rfl rfl (in_unitM c_1) d_M_mend_19 ?_
    refine lv_if_eq (tgt := 26) hx hb d_M_mend_20 (by decide) (fun c_2 => ?_) (fun c_2 => ?_)
    · refine lv_aload_n hx hb d_M_mend_26 rfl (lv_at hl 0 rfl) ?_
      refine z_get (v := .ref (a 9)) E hK G.1 i_M 0 12 rfl rfl (by decide) kf_M_34 rfl d_M_mend_27 ?_
      refine lv_iload_n hx hb d_M_mend_30 rfl (lv_at hl 1 rfl) ?_
      refine lv_iconst (v := 0) hx hb d_M_mend_31 (by decide) ?_
      refine z_ast (f := U 1) (ws' := wM a cI 0 nw (nI k) (nI n) (nI c) Z P (up2 U 1 u.toNatClampNeg 0) V) E hK G 9 0 rfl rfl (in_unitM c_1) rfl d_M_mend_32 (fun H locs G => ?_)
      refine lv_iconst (v := 1) hx hb d_M_mend_33 (by decide) ?_
      have hf : f_M_mend nw n c Z P U V u = (1, 0, nw, nI n, nI c, Z, P, up2 U 1 u.toNatClampNeg 0, V) := by unfold f_M_mend; rw [if_neg c_1, if_pos c_2]
      exact zW.iret E hrt hlk G (by rw [hf]) (by rw [hf]) d_M_mend_34
    · refine lv_bipush (v := (-3)) hx hb d_M_mend_23 (by decide) ?_
      have hf : f_M_mend nw n c Z P U V u = ((-3), 0, nw, nI n, nI c, Z, P, U, V) := by unfold f_M_mend; rw [if_neg c_1, if_neg c_2]
      exact zW.iret E hrt hlk G (by rw [hf]) (by rw [hf]) d_M_mend_25
  · refine lv_iconst (v := (-1)) hx hb d_M_mend_12 (by decide) ?_
    have hf : f_M_mend nw n c Z P U V u = ((-1), 0, nw, nI n, nI c, Z, P, U, V) := by unfold f_M_mend; rw [if_pos c_1]
    exact zW.iret E hrt hlk G (by rw [hf]) (by rw [hf]) d_M_mend_13
def f_M_restrict_L (nw : Int32) (n : Nat) (c : Nat) (Z : Nat → Nat → Int32) (P : Nat → Nat → Int32) (u : Int32) (to : Int32) : Nat → Nat → Int32 → (Nat → Nat → Int32) → (Nat → Nat → Int32) → Int32 × Int32 × Int32 × Int32 × Int32 × (Nat → Nat → Int32) × (Nat → Nat → Int32) × (Nat → Nat → Int32) × (Nat → Nat → Int32)
  | 0, k0, x3, U, V => (x3, 0, nw, nI n, nI c, Z, P, U, V)
  | d + 1, k0, x3, U, V => (if (V 1 k0) = u then (if (V 2 k0) = 0 then (if (P 0 (V 0 k0).toNatClampNeg) < to then (f_M_restrict_L nw n c Z P u to d (k0 + 1) (x3 + 1) U (up2 V 2 k0 4)) else (f_M_restrict_L nw n c Z P u to d (k0 + 1) x3 U V)) else (f_M_restrict_L nw n c Z P u to d (k0 + 1) x3 U V)) else (f_M_restrict_L nw n c Z P u to d (k0 + 1) x3 U V))
theorem f_M_restrict_L_0 (nw : Int32) (n : Nat) (c : Nat) (Z : Nat → Nat → Int32) (P : Nat → Nat → Int32) (u : Int32) (to : Int32) (k0 : Nat) (x3 : Int32) (U : Nat → Nat → Int32) (V : Nat → Nat → Int32) : f_M_restrict_L nw n c Z P u to 0 k0 x3 U V = (x3, 0, nw, nI n, nI c, Z, P, U, V) := rfl
theorem f_M_restrict_L_s (nw : Int32) (n : Nat) (c : Nat) (Z : Nat → Nat → Int32) (P : Nat → Nat → Int32) (u : Int32) (to : Int32) (d k0 : Nat) (x3 : Int32) (U : Nat → Nat → Int32) (V : Nat → Nat → Int32) : f_M_restrict_L nw n c Z P u to (d + 1) k0 x3 U V = (if (V 1 k0) = u then (if (V 2 k0) = 0 then (if (P 0 (V 0 k0).toNatClampNeg) < to then (f_M_restrict_L nw n c Z P u to d (k0 + 1) (x3 + 1) U (up2 V 2 k0 4)) else (f_M_restrict_L nw n c Z P u to d (k0 + 1) x3 U V)) else (f_M_restrict_L nw n c Z P u to d (k0 + 1) x3 U V)) else (f_M_restrict_L nw n c Z P u to d (k0 + 1) x3 U V)) := rfl
def f_M_restrict (nw : Int32) (n : Nat) (c : Nat) (Z : Nat → Nat → Int32) (P : Nat → Nat → Int32) (U : Nat → Nat → Int32) (V : Nat → Nat → Int32) (u : Int32) (to : Int32) : Int32 × Int32 × Int32 × Int32 × Int32 × (Nat → Nat → Int32) × (Nat → Nat → Int32) × (Nat → Nat → Int32) × (Nat → Nat → Int32) := (if (f_M_isUnit u) = 0 then ((-1), 0, nw, nI n, nI c, Z, P, U, V) else (if (f_M_in to 0 3) = 0 then ((-2), 0, nw, nI n, nI c, Z, P, U, V) else (f_M_restrict_L nw n c Z P u to c 0 0 (up2 U 2 u.toNatClampNeg to) V)))
set_option maxHeartbeats 4000000 in
set_option maxRecDepth 100000 in
theorem lp_M_restrict (l : Launch) (D : va_G) (cI : ClassId) (a : Nat → Nat) (nw : Int32) (k : Nat) (n : Nat) (c : Nat) (Z : Nat → Nat → Int32) (P : Nat → Nat → Int32) (u : Int32) (to : Int32) (hk : k ≤ 20) (hn : n ≤ 60) (hc : c ≤ 300) {p : Program} {e : Env} {s : State} {m : MethodId} {below : List Frame} {meth : Method} {c0 : Code} {A : Nat → Prop} (E : CallFix p m c0 b_M_restrict 5 s ([.ref (a 0), .int u, .int to] : List Value).toArray zB y_M_restrict.cls) (hrt : meth.sig.returnType = (some .int)) (hlk : meth.locks = false) (hN : zN s) (hK : va_K D vwCl [(cI, .int)] s) (hA : ∀ q, s.heap.size ≤ q → A q) :
    ∀ (d k0 : Nat) (x3 : Int32) (U : Nat → Nat → Int32) (V : Nat → Nat → Int32), k0 + d = c → (∀ i, vp_in (V 0 i) 60) → ∀ X : Int32 × Int32 × Int32 × Int32 × Int32 × (Nat → Nat → Int32) × (Nat → Nat → Int32) × (Nat → Nat → Int32) × (Nat → Nat → Int32), f_M_restrict_L nw n c Z P u to d k0 x3 U V = X → ∀ (H : Heap) (locs : List Loc), zG D A s H locs (wM a cI 0 nw (nI k) (nI n) (nI c) Z P U V) → ∀ ls : Array Slot, lv_has ls 5 [(4, .int (nI k0)), (3, .int x3), (0, .ref (a 0)), (1, .int u), (2, .int to)] → W p l e { frames := 2, cells := 0, slots := 0, locals := 42 } s m ([.ref (a 0), .int u, .int to] : List Value).toArray below meth c0 H locs 0 0 (MQ below (zQ D A (wM a cI X.2.1 X.2.2.1 (nI k) X.2.2.2.1 X.2.2.2.2.1 X.2.2.2.2.2.1 X.2.2.2.2.2.2.1 X.2.2.2.2.2.2.2.1 X.2.2.2.2.2.2.2.2) (some (.int X.1))) ([.ref (a 0), .int u, .int to] : List Value).toArray s 0 0 A) (F0 m 38 ls []) := by
  have hx := E.1
  have hb := E.2.1
  intro d
  induction d with
  | zero =>
    intro k0 x3 U V hkd hiv X hr H locs G ls hl
    refine lv_iload hx hb d_M_restrict_38 (lv_at hl 0 rfl) ?_
    refine lv_aload_n hx hb d_M_restrict_40 rfl (lv_at hl 2 rfl) ?_
    refine z_get (v := .int (nI c)) E hK G.1 i_M 0 15 rfl rfl (by decide) kf_M_97 rfl d_M_restrict_41 ?_
    refine lv_icmp_ge (tgt := 104) hx hb d_M_restrict_44 (by decide) (fun c_1 => ?_) (fun c_1 => absurd (nI_le (by omega) (by omega)) c_1)
    refine lv_iload_n hx hb d_M_restrict_104 rfl (lv_at hl 1 rfl) ?_
    have hf : X = (x3, 0, nw, nI n, nI c, Z, P, U, V) := by rw [← hr, f_M_restrict_L_0]
    exact zW.iret E hrt hlk G (by rw [hf]) (by rw [hf]) d_M_restrict_105
  | succ d ih =>
    intro k0 x3 U V hkd hiv X hr H locs G ls hl
    refine lv_iload hx hb d_M_restrict_38 (lv_at hl 0 rfl) ?_
    refine lv_aload_n hx hb d_M_restrict_40 rfl (lv_at hl 2 rfl) ?_
    refine z_get (v := .int (nI c)) E hK G.1 i_M 0 15 rfl rfl (by decide) kf_M_97 rfl d_M_restrict_41 ?_
    refine lv_icmp_ge (tgt := 104) hx hb d_M_restrict_44 (by decide) (fun c_2 => absurd c_2 (nI_ge (by omega) (by omega))) (fun c_2 => ?_)
    refine lv_aload_n hx hb d_M_restrict_47 rfl (lv_at hl 2 rfl) ?_
    refine z_get (v := .ref (a 13)) E hK G.1 i_M 0 17 rfl rfl (by decide) kf_M_46 rfl d_M_restrict_48 ?_
    refine lv_iload hx hb d_M_restrict_51 (lv_at hl 0 rfl) ?_
    refine z_aldN (f := V 1) (j := k0) E hK G.1 13 0 rfl rfl rfl (by omega) (by decide) d_M_restrict_53 ?_
    refine lv_iload_n hx hb d_M_restrict_54 rfl (lv_at hl 3 rfl) ?_
    refine lv_icmp_ne (tgt := 98) hx hb d_M_restrict_55 (by decide) (fun c_3 => ?_) (fun c_3 => ?_)
    · refine lv_iinc (v := nI (k0 + 1)) (lv' := [(4, .int (nI (k0 + 1))), (3, .int x3), (0, .ref (a 0)), (1, .int u), (2, .int to)]) hx hb d_M_restrict_98 hl (k := 0) rfl (nI_1 _) (by decide) rfl (fun ls hl => ?_)
      refine lv_goto (tgt := 38) hx hb d_M_restrict_101 (by decide) ?_
      exact ih (k0 + 1) x3 U V (by omega) hiv X (by rw [← hr, f_M_restrict_L_s, if_neg c_3]) H locs G ls (lv_sub hl [0, 1, 2, 3, 4] rfl)
    · refine lv_aload_n hx hb d_M_restrict_58 rfl (lv_at hl 2 rfl) ?_
      refine z_get (v := .ref (a 14)) E hK G.1 i_M 0 18 rfl rfl (by decide) kf_M_49 rfl d_M_restrict_59 ?_
      refine lv_iload hx hb d_M_restrict_62 (lv_at hl 0 rfl) ?_
      refine z_aldN (f := V 2) (j := k0) E hK G.1 14 0 rfl rfl rfl (by omega) (by decide) d_M_restrict_64 ?_
      refine lv_if_ne (tgt := 98) hx hb d_M_restrict_65 (by decide) (fun c_4 => ?_) (fun c_4 => ?_)
      · refine lv_iinc (v := nI (k0 + 1)) (lv' := [(4, .int (nI (k0 + 1))), (3, .int x3), (0, .ref (a 0)), (1, .int u), (2, .int to)]) hx hb d_M_restrict_98 hl (k := 0) rfl (nI_1 _) (by decide) rfl (fun ls hl => ?_)
        refine lv_goto (tgt := 38) hx hb d_M_restrict_101 (by decide) ?_
        exact ih (k0 + 1) x3 U V (by omega) hiv X (by rw [← hr, f_M_restrict_L_s, if_pos c_3, if_neg c_4]) H locs G ls (lv_sub hl [0, 1, 2, 3, 4] rfl)
      · refine lv_aload_n hx hb d_M_restrict_68 rfl (lv_at hl 2 rfl) ?_
        refine z_get (v := .ref (a 3)) E hK G.1 i_M 0 6 rfl rfl (by decide) kf_M_16 rfl d_M_restrict_69 ?_
        refine lv_aload_n hx hb d_M_restrict_72 rfl (lv_at hl 2 rfl) ?_
        refine z_get (v := .ref (a 12)) E hK G.1 i_M 0 16 rfl rfl (by decide) kf_M_43 rfl d_M_restrict_73 ?_
        refine lv_iload hx hb d_M_restrict_76 (lv_at hl 0 rfl) ?_
        refine z_aldN (f := V 0) (j := k0) E hK G.1 12 0 rfl rfl rfl (by omega) (by decide) d_M_restrict_78 ?_
        refine z_ald (f := P 0) E hK G.1 3 0 rfl rfl (hiv _) d_M_restrict_79 ?_
        refine lv_iload_n hx hb d_M_restrict_80 rfl (lv_at hl 4 rfl) ?_
        refine lv_icmp_lt (tgt := 87) hx hb d_M_restrict_81 (by decide) (fun c_5 => ?_) (fun c_5 => ?_)
        · refine lv_aload_n hx hb d_M_restrict_87 rfl (lv_at hl 2 rfl) ?_
          refine z_get (v := .ref (a 14)) E hK G.1 i_M 0 18 rfl rfl (by decide) kf_M_49 rfl d_M_restrict_88 ?_
          refine lv_iload hx hb d_M_restrict_91 (lv_at hl 0 rfl) ?_
          refine lv_iconst (v := 4) hx hb d_M_restrict_93 (by decide) ?_
          refine z_astN (f := V 2) (j := k0) (ws' := wM a cI 0 nw (nI k) (nI n) (nI c) Z P U (up2 V 2 k0 4)) E hK G 14 0 rfl rfl rfl (by omega) (by decide) rfl d_M_restrict_94 (fun H locs G => ?_)
          refine lv_iinc (v := x3 + 1) (lv' := [(3, .int (x3 + 1)), (4, .int (nI k0)), (0, .ref (a 0)), (1, .int u), (2, .int to)]) hx hb d_M_restrict_95 hl (k := 1) rfl rfl (by decide) rfl (fun ls hl => ?_)
          refine lv_iinc (v := nI (k0 + 1)) (lv' := [(4, .int (nI (k0 + 1))), (3, .int (x3 + 1)), (0, .ref (a 0)), (1, .int u), (2, .int to)]) hx hb d_M_restrict_98 hl (k := 1) rfl (nI_1 _) (by decide) rfl (fun ls hl => ?_)
          refine lv_goto (tgt := 38) hx hb d_M_restrict_101 (by decide) ?_
          exact ih (k0 + 1) (x3 + 1) U (up2 V 2 k0 4) (by omega) hiv X (by rw [← hr, f_M_restrict_L_s, if_pos c_3, if_pos c_4, if_pos c_5]) H locs G ls (lv_sub hl [0, 1, 2, 3, 4] rfl)
        · refine lv_goto (tgt := 98) hx hb d_M_restrict_84 (by decide) ?_
          refine lv_iinc (v := nI (k0 + 1)) (lv' := [(4, .int (nI (k0 + 1))), (3, .int x3), (0, .ref (a 0)), (1, .int u), (2, .int to)]) hx hb d_M_restrict_98 hl (k := 0) rfl (nI_1 _) (by decide) rfl (fun ls hl => ?_)
          refine lv_goto (tgt := 38) hx hb d_M_restrict_101 (by decide) ?_
          exact ih (k0 + 1) x3 U V (by omega) hiv X (by rw [← hr, f_M_restrict_L_s, if_pos c_3, if_pos c_4, if_neg c_5]) H locs G ls (lv_sub hl [0, 1, 2, 3, 4] rfl)
set_option maxHeartbeats 4000000 in
set_option maxRecDepth 100000 in
theorem c_M_restrict (l : Launch) (D : va_G) (cI : ClassId) (a : Nat → Nat) (th : Int32) (nw : Int32) (k : Nat) (n : Nat) (c : Nat) (Z : Nat → Nat → Int32) (P : Nat → Nat → Int32) (U : Nat → Nat → Int32) (V : Nat → Nat → Int32) (u : Int32) (to : Int32) (hk : k ≤ 20) (hn : n ≤ 60) (hc : c ≤ 300) (hV : ∀ i, vp_in (V 0 i) 60) : zW l D [(cI, .int)] y_M_restrict b_M_restrict 5 (some .int) 2 42 [.ref (a 0), .int u, .int to] (wM a cI th nw (nI k) (nI n) (nI c) Z P U V) (wM a cI ((f_M_restrict nw n c Z P U V u to).2.1) ((f_M_restrict nw n c Z P U V u to).2.2.1) (nI k) ((f_M_restrict nw n c Z P U V u to).2.2.2.1) ((f_M_restrict nw n c Z P U V u to).2.2.2.2.1) ((f_M_restrict nw n c Z P U V u to).2.2.2.2.2.1) ((f_M_restrict nw n c Z P U V u to).2.2.2.2.2.2.1) ((f_M_restrict nw n c Z P U V u to).2.2.2.2.2.2.2.1) ((f_M_restrict nw n c Z P U V u to).2.2.2.2.2.2.2.2)) (some (.int (f_M_restrict nw n c Z P U V u to).1)) := by
  refine zW.of (by decide) (Nat.le_of_ble_eq_true rfl) ?_
  intro p e s m below meth c0 ls A E hrt hlk hN hK hA G hl
  have hx := E.1
  have hb := E.2.1
  have hl : lv_has ls 5 [(0, .ref (a 0)), (1, .int u), (2, .int to)] := hl
  refine lv_aload_n hx hb d_M_restrict_0 rfl (lv_at hl 0 rfl) ?_
  refine lv_iconst (v := 0) hx hb d_M_restrict_1 (by decide) ?_
  refine z_put (ty := .int) (ws' := wM a cI 0 nw (nI k) (nI n) (nI c) Z P U V) E hK G i_M t_M t_M_ok n_M 0 0 rfl rfl (by decide) kf_M_65 rfl rfl rfl rfl (Nat.le_of_ble_eq_true rfl) rfl d_M_restrict_2 (fun H locs G => ?_)
  refine lv_iload_n hx hb d_M_restrict_5 rfl (lv_at hl 1 rfl) ?_
  refine z_rs (As := [.int u]) (rest := []) E hN hK hl.1 (c_M_isUnit l D [(cI, .int)] u) kz_M_103 rfl ⟨Nat.le_of_ble_eq_true rfl, Nat.le_of_ble_eq_true rfl⟩ rfl (Nat.le_of_ble_eq_true rfl) ⟨Nat.zero_le _, Nat.zero_le _⟩ d_M_restrict_6 ?_
  refine lv_if_ne (tgt := 14) hx hb d_M_restrict_9 (by decide) (fun c_1 => ?_) (fun c_1 => ?_)
  · refine lv_iload_n hx hb d_M_restrict_14 rfl (lv_at hl 2 rfl) ?_
    refine lv_iconst (v := 0) hx hb d_M_restrict_15 (by decide) ?_
    refine lv_iconst (v := 3) hx hb d_M_restrict_16 (by decide) ?_
    refine z_rs (As := [.int to, .int 0, .int 3]) (rest := []) E hN hK hl.1 (c_M_in l D [(cI, .int)] to 0 3) kz_M_68 rfl ⟨Nat.le_of_ble_eq_true rfl, Nat.le_of_ble_eq_true rfl⟩ rfl (Nat.le_of_ble_eq_true rfl) ⟨Nat.zero_le _, Nat.zero_le _⟩ d_M_restrict_17 ?_
    refine lv_if_ne (tgt := 26) hx hb d_M_restrict_20 (by decide) (fun c_2 => ?_) (fun c_2 => ?_)
    · refine lv_aload_n hx hb d_M_restrict_26 rfl (lv_at hl 0 rfl) ?_
      refine z_get (v := .ref (a 10)) E hK G.1 i_M 0 13 rfl rfl (by decide) kf_M_37 rfl d_M_restrict_27 ?_
      refine lv_iload_n hx hb d_M_restrict_30 rfl (lv_at hl 1 rfl) ?_
      refine lv_iload_n hx hb d_M_restrict_31 rfl (lv_at hl 2 rfl) ?_
      refine z_ast (f := U 2) (ws' := wM a cI 0 nw (nI k) (nI n) (nI c) Z P (up2 U 2 u.toNatClampNeg to) V) E hK G 10 0 rfl rfl (in_unitM c_1) rfl d_M_restrict_32 (fun H locs G => ?_)
      refine lv_iconst (v := 0) hx hb d_M_restrict_33 (by decide) ?_
      refine lv_istore_n (lv' := [(3, .int 0), (0, .ref (a 0)), (1, .int u), (2, .int to)]) hx hb d_M_restrict_34 rfl hl (by decide) rfl (fun ls hl => ?_)
      refine lv_iconst (v := 0) hx hb d_M_restrict_35 (by decide) ?_
      refine lv_istore (lv' := [(4, .int 0), (3, .int 0), (0, .ref (a 0)), (1, .int u), (2, .int to)]) hx hb d_M_restrict_36 hl (by decide) rfl (fun ls hl => ?_)
      exact lp_M_restrict l D cI a nw k n c Z P u to hk hn hc E hrt hlk hN hK hA c 0 0 (up2 U 2 u.toNatClampNeg to) V (by omega) hV _ (by unfold f_M_restrict; rw [if_neg c_1, if_neg c_2]) _ _ G ls (by rw [nI_0]; exact lv_sub hl [0, 1, 2, 3, 4] rfl)
    · refine lv_bipush (v := (-2)) hx hb d_M_restrict_23 (by decide) ?_
      have hf : f_M_restrict nw n c Z P U V u to = ((-2), 0, nw, nI n, nI c, Z, P, U, V) := by unfold f_M_restrict; rw [if_neg c_1, if_pos c_2]
      exact zW.iret E hrt hlk G (by rw [hf]) (by rw [hf]) d_M_restrict_25
  · refine lv_iconst (v := (-1)) hx hb d_M_restrict_12 (by decide) ?_
    have hf : f_M_restrict nw n c Z P U V u to = ((-1), 0, nw, nI n, nI c, Z, P, U, V) := by unfold f_M_restrict; rw [if_pos c_1]
    exact zW.iret E hrt hlk G (by rw [hf]) (by rw [hf]) d_M_restrict_13
def f_M_copy (nw : Int32) (n : Nat) (c : Nat) (Z : Nat → Nat → Int32) (P : Nat → Nat → Int32) (U : Nat → Nat → Int32) (V : Nat → Nat → Int32) (u : Int32) (pages : Int32) (t : Int32) : Int32 × Int32 × Int32 × Int32 × Int32 × (Nat → Nat → Int32) × (Nat → Nat → Int32) × (Nat → Nat → Int32) × (Nat → Nat → Int32) := (if (f_M_isUnit u) = 0 then ((-1), 0, nw, nI n, nI c, Z, P, U, V) else (if (f_M_in pages 1 500) = 0 then ((-2), 0, nw, nI n, nI c, Z, P, U, V) else (if (f_M_isNow nw t) = 0 then ((-2), 0, nw, nI n, nI c, Z, P, U, V) else (if (U 0 u.toNatClampNeg) = 2 then (if (U 1 u.toNatClampNeg) ≤ 1 then (if (P 3 (V 0 (U 3 u.toNatClampNeg).toNatClampNeg).toNatClampNeg) = (t / 86400) then (if ((P 4 (V 0 (U 3 u.toNatClampNeg).toNatClampNeg).toNatClampNeg) + pages) ≤ (P 2 (V 0 (U 3 u.toNatClampNeg).toNatClampNeg).toNatClampNeg) then ((P 2 (V 0 (U 3 u.toNatClampNeg).toNatClampNeg).toNatClampNeg) - ((up2 P 4 (V 0 (U 3 u.toNatClampNeg).toNatClampNeg).toNatClampNeg ((P 4 (V 0 (U 3 u.toNatClampNeg).toNatClampNeg).toNatClampNeg) + pages)) 4 (V 0 (U 3 u.toNatClampNeg).toNatClampNeg).toNatClampNeg), 0, t, nI n, nI c, Z, up2 (up2 P 4 (V 0 (U 3 u.toNatClampNeg).toNatClampNeg).toNatClampNeg ((P 4 (V 0 (U 3 u.toNatClampNeg).toNatClampNeg).toNatClampNeg) + pages)) 3 (V 0 (U 3 u.toNatClampNeg).toNatClampNeg).toNatClampNeg (t / 86400), U, V) else ((-4), 0, nw, nI n, nI c, Z, P, U, V)) else (if (0 + pages) ≤ (P 2 (V 0 (U 3 u.toNatClampNeg).toNatClampNeg).toNatClampNeg) then ((P 2 (V 0 (U 3 u.toNatClampNeg).toNatClampNeg).toNatClampNeg) - ((up2 P 4 (V 0 (U 3 u.toNatClampNeg).toNatClampNeg).toNatClampNeg (0 + pages)) 4 (V 0 (U 3 u.toNatClampNeg).toNatClampNeg).toNatClampNeg), 0, t, nI n, nI c, Z, up2 (up2 P 4 (V 0 (U 3 u.toNatClampNeg).toNatClampNeg).toNatClampNeg (0 + pages)) 3 (V 0 (U 3 u.toNatClampNeg).toNatClampNeg).toNatClampNeg (t / 86400), U, V) else ((-4), 0, nw, nI n, nI c, Z, P, U, V))) else ((-3), 0, nw, nI n, nI c, Z, P, U, V)) else ((-3), 0, nw, nI n, nI c, Z, P, U, V)))))
set_option maxHeartbeats 4000000 in
set_option maxRecDepth 100000 in
theorem c_M_copy (l : Launch) (D : va_G) (cI : ClassId) (a : Nat → Nat) (th : Int32) (nw : Int32) (k : Nat) (n : Nat) (c : Nat) (Z : Nat → Nat → Int32) (P : Nat → Nat → Int32) (U : Nat → Nat → Int32) (V : Nat → Nat → Int32) (u : Int32) (pages : Int32) (t : Int32) (hk : k ≤ 20) (hn : n ≤ 60) (hc : c ≤ 300) (hU : ∀ u, u < 80 → (U 0 u = 1 ∨ U 0 u = 2) → vp_in (U 3 u) 300) (hV : ∀ i, vp_in (V 0 i) 60) : zW l D [(cI, .int)] y_M_copy b_M_copy 6 (some .int) 2 43 [.ref (a 0), .int u, .int pages, .int t] (wM a cI th nw (nI k) (nI n) (nI c) Z P U V) (wM a cI ((f_M_copy nw n c Z P U V u pages t).2.1) ((f_M_copy nw n c Z P U V u pages t).2.2.1) (nI k) ((f_M_copy nw n c Z P U V u pages t).2.2.2.1) ((f_M_copy nw n c Z P U V u pages t).2.2.2.2.1) ((f_M_copy nw n c Z P U V u pages t).2.2.2.2.2.1) ((f_M_copy nw n c Z P U V u pages t).2.2.2.2.2.2.1) ((f_M_copy nw n c Z P U V u pages t).2.2.2.2.2.2.2.1) ((f_M_copy nw n c Z P U V u pages t).2.2.2.2.2.2.2.2)) (some (.int (f_M_copy nw n c Z P U V u pages t).1)) := by
  refine zW.of (by decide) (Nat.le_of_ble_eq_true rfl) ?_
  intro p e s m below meth c0 ls A E hrt hlk hN hK hA G hl
  have hx := E.1
  have hb := E.2.1
  have hl : lv_has ls 6 [(0, .ref (a 0)), (1, .int u), (2, .int pages), (3, .int t)] := hl
  refine lv_aload_n hx hb d_M_copy_0 rfl (lv_at hl 0 rfl) ?_
  refine lv_iconst (v := 0) hx hb d_M_copy_1 (by decide) ?_
  refine z_put (ty := .int) (ws' := wM a cI 0 nw (nI k) (nI n) (nI c) Z P U V) E hK G i_M t_M t_M_ok n_M 0 0 rfl rfl (by decide) kf_M_65 rfl rfl rfl rfl (Nat.le_of_ble_eq_true rfl) rfl d_M_copy_2 (fun H locs G => ?_)
  refine lv_iload_n hx hb d_M_copy_5 rfl (lv_at hl 1 rfl) ?_
  refine z_rs (As := [.int u]) (rest := []) E hN hK hl.1 (c_M_isUnit l D [(cI, .int)] u) kz_M_103 rfl ⟨Nat.le_of_ble_eq_true rfl, Nat.le_of_ble_eq_true rfl⟩ rfl (Nat.le_of_ble_eq_true rfl) ⟨Nat.zero_le _, Nat.zero_le _⟩ d_M_copy_6 ?_
  refine lv_if_ne (tgt := 14) hx hb d_M_copy_9 (by decide) (fun c_1 => ?_) (fun c_1 => ?_)
  · refine lv_iload_n hx hb d_M_copy_14 rfl (lv_at hl 2 rfl) ?_
    refine lv_iconst (v := 1) hx hb d_M_copy_15 (by decide) ?_
    refine lv_sipush (v := 500) hx hb d_M_copy_16 (by decide) ?_
    refine z_rs (As := [.int pages, .int 1, .int 500]) (rest := []) E hN hK hl.1 (c_M_in l D [(cI, .int)] pages 1 500) kz_M_68 rfl ⟨Nat.le_of_ble_eq_true rfl, Nat.le_of_ble_eq_true rfl⟩ rfl (Nat.le_of_ble_eq_true rfl) ⟨Nat.zero_le _, Nat.zero_le _⟩ d_M_copy_19 ?_
    refine lv_if_eq (tgt := 33) hx hb d_M_copy_22 (by decide) (fun c_2 => ?_) (fun c_2 => ?_)
    · refine lv_bipush (v := (-2)) hx hb d_M_copy_33 (by decide) ?_
      have hf : f_M_copy nw n c Z P U V u pages t = ((-2), 0, nw, nI n, nI c, Z, P, U, V) := by unfold f_M_copy; rw [if_neg c_1, if_pos c_2]
      exact zW.iret E hrt hlk G (by rw [hf]) (by rw [hf]) d_M_copy_35
    · refine lv_aload_n hx hb d_M_copy_25 rfl (lv_at hl 0 rfl) ?_
      refine lv_iload_n hx hb d_M_copy_26 rfl (lv_at hl 3 rfl) ?_
      refine z_rv (As := [.int t]) (rest := []) E hN hK G.1 hl.1 (c_M_isNow l D cI a 0 nw k n c Z P U V t hk hn hc) [0, 1, 2, 3, 4, 5, 6, 7, 8, 9, 10, 11, 12, 13, 14, 15, 16, 17] rfl 0 rfl rfl kz_M_106 rfl ⟨Nat.le_of_ble_eq_true rfl, Nat.le_of_ble_eq_true rfl⟩ rfl (Nat.le_of_ble_eq_true rfl) ⟨Nat.zero_le _, Nat.zero_le _⟩ d_M_copy_27 ?_
      refine lv_if_ne (tgt := 36) hx hb d_M_copy_30 (by decide) (fun c_3 => ?_) (fun c_3 => ?_)
      · refine lv_aload_n hx hb d_M_copy_36 rfl (lv_at hl 0 rfl) ?_
        refine z_get (v := .ref (a 8)) E hK G.1 i_M 0 11 rfl rfl (by decide) kf_M_31 rfl d_M_copy_37 ?_
        refine lv_iload_n hx hb d_M_copy_40 rfl (lv_at hl 1 rfl) ?_
        refine z_ald (f := U 0) E hK G.1 8 0 rfl rfl (in_unitM c_1) d_M_copy_41 ?_
        refine lv_iconst (v := 2) hx hb d_M_copy_42 (by decide) ?_
        refine lv_icmp_ne (tgt := 56) hx hb d_M_copy_43 (by decide) (fun c_4 => ?_) (fun c_4 => ?_)
        · refine lv_bipush (v := (-3)) hx hb d_M_copy_56 (by decide) ?_
          have hf : f_M_copy nw n c Z P U V u pages t = ((-3), 0, nw, nI n, nI c, Z, P, U, V) := by unfold f_M_copy; rw [if_neg c_1, if_neg c_2, if_neg c_3, if_neg c_4]
          exact zW.iret E hrt hlk G (by rw [hf]) (by rw [hf]) d_M_copy_58
        · refine lv_aload_n hx hb d_M_copy_46 rfl (lv_at hl 0 rfl) ?_
          refine z_get (v := .ref (a 9)) E hK G.1 i_M 0 12 rfl rfl (by decide) kf_M_34 rfl d_M_copy_47 ?_
          refine lv_iload_n hx hb d_M_copy_50 rfl (lv_at hl 1 rfl) ?_
          refine z_ald (f := U 1) E hK G.1 9 0 rfl rfl (in_unitM c_1) d_M_copy_51 ?_
          refine lv_iconst (v := 1) hx hb d_M_copy_52 (by decide) ?_
          refine lv_icmp_le (tgt := 59) hx hb d_M_copy_53 (by decide) (fun c_5 => ?_) (fun c_5 => ?_)
          · refine lv_aload_n hx hb d_M_copy_59 rfl (lv_at hl 0 rfl) ?_
            refine z_get (v := .ref (a 12)) E hK G.1 i_M 0 16 rfl rfl (by decide) kf_M_43 rfl d_M_copy_60 ?_
            refine lv_aload_n hx hb d_M_copy_63 rfl (lv_at hl 0 rfl) ?_
            refine z_get (v := .ref (a 11)) E hK G.1 i_M 0 14 rfl rfl (by decide) kf_M_40 rfl d_M_copy_64 ?_
            refine lv_iload_n hx hb d_M_copy_67 rfl (lv_at hl 1 rfl) ?_
            refine z_ald (f := U 3) E hK G.1 11 0 rfl rfl (in_unitM c_1) d_M_copy_68 ?_
            refine z_ald (f := V 0) E hK G.1 12 0 rfl rfl (hU _ (unit_lt c_1) (Or.inr c_4)) d_M_copy_69 ?_
            refine lv_istore (lv' := [(4, .int (V 0 (U 3 u.toNatClampNeg).toNatClampNeg)), (0, .ref (a 0)), (1, .int u), (2, .int pages), (3, .int t)]) hx hb d_M_copy_70 hl (by decide) rfl (fun ls hl => ?_)
            refine lv_aload_n hx hb d_M_copy_72 rfl (lv_at hl 1 rfl) ?_
            refine z_get (v := .ref (a 7)) E hK G.1 i_M 0 10 rfl rfl (by decide) kf_M_28 rfl d_M_copy_73 ?_
            refine lv_iload hx hb d_M_copy_76 (lv_at hl 0 rfl) ?_
            refine z_ald (f := P 3) E hK G.1 7 0 rfl rfl (hV _) d_M_copy_78 ?_
            refine lv_iload_n hx hb d_M_copy_79 rfl (lv_at hl 4 rfl) ?_
            refine lv_ldc (v := 86400) hx hb E.2.2.2.1 (E.2.2.2.2 _ kc_M_119) d_M_copy_80 ?_
            refine lv_idiv hx hb d_M_copy_82 (by decide) ?_
            refine lv_icmp_ne (tgt := 96) hx hb d_M_copy_83 (by decide) (fun c_6 => ?_) (fun c_6 => ?_)
            · refine lv_iconst (v := 0) hx hb d_M_copy_96 (by decide) ?_
              refine lv_istore (lv' := [(5, .int 0), (4, .int (V 0 (U 3 u.toNatClampNeg).toNatClampNeg)), (0, .ref (a 0)), (1, .int u), (2, .int pages), (3, .int t)]) hx hb d_M_copy_97 hl (by decide) rfl (fun ls hl => ?_)
              refine lv_iload hx hb d_M_copy_99 (lv_at hl 0 rfl) ?_
              refine lv_iload_n hx hb d_M_copy_101 rfl (lv_at hl 4 rfl) ?_
              refine lv_iadd hx hb d_M_copy_102 ?_
              refine lv_aload_n hx hb d_M_copy_103 rfl (lv_at hl 2 rfl) ?_
              refine z_get (v := .ref (a 5)) E hK G.1 i_M 0 8 rfl rfl (by decide) kf_M_22 rfl d_M_copy_104 ?_
              refine lv_iload hx hb d_M_copy_107 (lv_at hl 1 rfl) ?_
              refine z_ald (f := P 2) E hK G.1 5 0 rfl rfl (hV _) d_M_copy_109 ?_
              refine lv_icmp_le (tgt := 116) hx hb d_M_copy_110 (by decide) (fun c_7 => ?_) (fun c_7 => ?_)
              · refine lv_aload_n hx hb d_M_copy_116 rfl (lv_at hl 2 rfl) ?_
                refine lv_iload_n hx hb d_M_copy_117 rfl (lv_at hl 5 rfl) ?_
                refine z_put (ty := .int) (ws' := wM a cI 0 t (nI k) (nI n) (nI c) Z P U V) E hK G i_M t_M t_M_ok n_M 0 1 rfl rfl (by decide) kf_M_72 rfl rfl rfl rfl (Nat.le_of_ble_eq_true rfl) rfl d_M_copy_118 (fun H locs G => ?_)
                refine lv_aload_n hx hb d_M_copy_121 rfl (lv_at hl 2 rfl) ?_
                refine z_get (v := .ref (a 6)) E hK G.1 i_M 0 9 rfl rfl (by decide) kf_M_25 rfl d_M_copy_122 ?_
                refine lv_iload hx hb d_M_copy_125 (lv_at hl 1 rfl) ?_
                refine lv_iload hx hb d_M_copy_127 (lv_at hl 0 rfl) ?_
                refine lv_iload_n hx hb d_M_copy_129 rfl (lv_at hl 4 rfl) ?_
                refine lv_iadd hx hb d_M_copy_130 ?_
                refine z_ast (f := P 4) (ws' := wM a cI 0 t (nI k) (nI n) (nI c) Z (up2 P 4 (V 0 (U 3 u.toNatClampNeg).toNatClampNeg).toNatClampNeg (0 + pages)) U V) E hK G 6 0 rfl rfl (hV _) rfl d_M_copy_131 (fun H locs G => ?_)
                refine lv_aload_n hx hb d_M_copy_132 rfl (lv_at hl 2 rfl) ?_
                refine z_get (v := .ref (a 7)) E hK G.1 i_M 0 10 rfl rfl (by decide) kf_M_28 rfl d_M_copy_133 ?_
                refine lv_iload hx hb d_M_copy_136 (lv_at hl 1 rfl) ?_
                refine lv_iload_n hx hb d_M_copy_138 rfl (lv_at hl 5 rfl) ?_
                refine lv_ldc (v := 86400) hx hb E.2.2.2.1 (E.2.2.2.2 _ kc_M_119) d_M_copy_139 ?_
                refine lv_idiv hx hb d_M_copy_141 (by decide) ?_
                refine z_ast (f := (up2 P 4 (V 0 (U 3 u.toNatClampNeg).toNatClampNeg).toNatClampNeg (0 + pages)) 3) (ws' := wM a cI 0 t (nI k) (nI n) (nI c) Z (up2 (up2 P 4 (V 0 (U 3 u.toNatClampNeg).toNatClampNeg).toNatClampNeg (0 + pages)) 3 (V 0 (U 3 u.toNatClampNeg).toNatClampNeg).toNatClampNeg (t / 86400)) U V) E hK G 7 0 rfl rfl (hV _) rfl d_M_copy_142 (fun H locs G => ?_)
                refine lv_aload_n hx hb d_M_copy_143 rfl (lv_at hl 2 rfl) ?_
                refine z_get (v := .ref (a 5)) E hK G.1 i_M 0 8 rfl rfl (by decide) kf_M_22 rfl d_M_copy_144 ?_
                refine lv_iload hx hb d_M_copy_147 (lv_at hl 1 rfl) ?_
                refine z_ald (f := P 2) E hK G.1 5 0 rfl rfl (hV _) d_M_copy_149 ?_
                refine lv_aload_n hx hb d_M_copy_150 rfl (lv_at hl 2 rfl) ?_
                refine z_get (v := .ref (a 6)) E hK G.1 i_M 0 9 rfl rfl (by decide) kf_M_25 rfl d_M_copy_151 ?_
                refine lv_iload hx hb d_M_copy_154 (lv_at hl 1 rfl) ?_
                refine z_ald (f := (up2 P 4 (V 0 (U 3 u.toNatClampNeg).toNatClampNeg).toNatClampNeg (0 + pages)) 4) E hK G.1 6 0 rfl rfl (hV _) d_M_copy_156 ?_
                refine lv_isub hx hb d_M_copy_157 ?_
                have hf : f_M_copy nw n c Z P U V u pages t = ((P 2 (V 0 (U 3 u.toNatClampNeg).toNatClampNeg).toNatClampNeg) - ((up2 P 4 (V 0 (U 3 u.toNatClampNeg).toNatClampNeg).toNatClampNeg (0 + pages)) 4 (V 0 (U 3 u.toNatClampNeg).toNatClampNeg).toNatClampNeg), 0, t, nI n, nI c, Z, up2 (up2 P 4 (V 0 (U 3 u.toNatClampNeg).toNatClampNeg).toNatClampNeg (0 + pages)) 3 (V 0 (U 3 u.toNatClampNeg).toNatClampNeg).toNatClampNeg (t / 86400), U, V) := by unfold f_M_copy; rw [if_neg c_1, if_neg c_2, if_neg c_3, if_pos c_4, if_pos c_5, if_neg c_6, if_pos c_7]
                exact zW.iret E hrt hlk G (by rw [hf]) (by rw [hf]) d_M_copy_158
              · refine lv_bipush (v := (-4)) hx hb d_M_copy_113 (by decide) ?_
                have hf : f_M_copy nw n c Z P U V u pages t = ((-4), 0, nw, nI n, nI c, Z, P, U, V) := by unfold f_M_copy; rw [if_neg c_1, if_neg c_2, if_neg c_3, if_pos c_4, if_pos c_5, if_neg c_6, if_neg c_7]
                exact zW.iret E hrt hlk G (by rw [hf]) (by rw [hf]) d_M_copy_115
            · refine lv_aload_n hx hb d_M_copy_86 rfl (lv_at hl 1 rfl) ?_
              refine z_get (v := .ref (a 6)) E hK G.1 i_M 0 9 rfl rfl (by decide) kf_M_25 rfl d_M_copy_87 ?_
              refine lv_iload hx hb d_M_copy_90 (lv_at hl 0 rfl) ?_
              refine z_ald (f := P 4) E hK G.1 6 0 rfl rfl (hV _) d_M_copy_92 ?_
              refine lv_goto (tgt := 97) hx hb d_M_copy_93 (by decide) ?_
              refine lv_istore (lv' := [(5, .int (P 4 (V 0 (U 3 u.toNatClampNeg).toNatClampNeg).toNatClampNeg)), (4, .int (V 0 (U 3 u.toNatClampNeg).toNatClampNeg)), (0, .ref (a 0)), (1, .int u), (2, .int pages), (3, .int t)]) hx hb d_M_copy_97 hl (by decide) rfl (fun ls hl => ?_)
              refine lv_iload hx hb d_M_copy_99 (lv_at hl 0 rfl) ?_
              refine lv_iload_n hx hb d_M_copy_101 rfl (lv_at hl 4 rfl) ?_
              refine lv_iadd hx hb d_M_copy_102 ?_
              refine lv_aload_n hx hb d_M_copy_103 rfl (lv_at hl 2 rfl) ?_
              refine z_get (v := .ref (a 5)) E hK G.1 i_M 0 8 rfl rfl (by decide) kf_M_22 rfl d_M_copy_104 ?_
              refine lv_iload hx hb d_M_copy_107 (lv_at hl 1 rfl) ?_
              refine z_ald (f := P 2) E hK G.1 5 0 rfl rfl (hV _) d_M_copy_109 ?_
              refine lv_icmp_le (tgt := 116) hx hb d_M_copy_110 (by decide) (fun c_8 => ?_) (fun c_8 => ?_)
              · refine lv_aload_n hx hb d_M_copy_116 rfl (lv_at hl 2 rfl) ?_
                refine lv_iload_n hx hb d_M_copy_117 rfl (lv_at hl 5 rfl) ?_
                refine z_put (ty := .int) (ws' := wM a cI 0 t (nI k) (nI n) (nI c) Z P U V) E hK G i_M t_M t_M_ok n_M 0 1 rfl rfl (by decide) kf_M_72 rfl rfl rfl rfl (Nat.le_of_ble_eq_true rfl) rfl d_M_copy_118 (fun H locs G => ?_)
                refine lv_aload_n hx hb d_M_copy_121 rfl (lv_at hl 2 rfl) ?_
                refine z_get (v := .ref (a 6)) E hK G.1 i_M 0 9 rfl rfl (by decide) kf_M_25 rfl d_M_copy_122 ?_
                refine lv_iload hx hb d_M_copy_125 (lv_at hl 1 rfl) ?_
                refine lv_iload hx hb d_M_copy_127 (lv_at hl 0 rfl) ?_
                refine lv_iload_n hx hb d_M_copy_129 rfl (lv_at hl 4 rfl) ?_
                refine lv_iadd hx hb d_M_copy_130 ?_
                refine z_ast (f := P 4) (ws' := wM a cI 0 t (nI k) (nI n) (nI c) Z (up2 P 4 (V 0 (U 3 u.toNatClampNeg).toNatClampNeg).toNatClampNeg ((P 4 (V 0 (U 3 u.toNatClampNeg).toNatClampNeg).toNatClampNeg) + pages)) U V) E hK G 6 0 rfl rfl (hV _) rfl d_M_copy_131 (fun H locs G => ?_)
                refine lv_aload_n hx hb d_M_copy_132 rfl (lv_at hl 2 rfl) ?_
                refine z_get (v := .ref (a 7)) E hK G.1 i_M 0 10 rfl rfl (by decide) kf_M_28 rfl d_M_copy_133 ?_
                refine lv_iload hx hb d_M_copy_136 (lv_at hl 1 rfl) ?_
                refine lv_iload_n hx hb d_M_copy_138 rfl (lv_at hl 5 rfl) ?_
                refine lv_ldc (v := 86400) hx hb E.2.2.2.1 (E.2.2.2.2 _ kc_M_119) d_M_copy_139 ?_
                refine lv_idiv hx hb d_M_copy_141 (by decide) ?_
                refine z_ast (f := (up2 P 4 (V 0 (U 3 u.toNatClampNeg).toNatClampNeg).toNatClampNeg ((P 4 (V 0 (U 3 u.toNatClampNeg).toNatClampNeg).toNatClampNeg) + pages)) 3) (ws' := wM a cI 0 t (nI k) (nI n) (nI c) Z (up2 (up2 P 4 (V 0 (U 3 u.toNatClampNeg).toNatClampNeg).toNatClampNeg ((P 4 (V 0 (U 3 u.toNatClampNeg).toNatClampNeg).toNatClampNeg) + pages)) 3 (V 0 (U 3 u.toNatClampNeg).toNatClampNeg).toNatClampNeg (t / 86400)) U V) E hK G 7 0 rfl rfl (hV _) rfl d_M_copy_142 (fun H locs G => ?_)
                refine lv_aload_n hx hb d_M_copy_143 rfl (lv_at hl 2 rfl) ?_
                refine z_get (v := .ref (a 5)) E hK G.1 i_M 0 8 rfl rfl (by decide) kf_M_22 rfl d_M_copy_144 ?_
                refine lv_iload hx hb d_M_copy_147 (lv_at hl 1 rfl) ?_
                refine z_ald (f := P 2) E hK G.1 5 0 rfl rfl (hV _) d_M_copy_149 ?_
                refine lv_aload_n hx hb d_M_copy_150 rfl (lv_at hl 2 rfl) ?_
                refine z_get (v := .ref (a 6)) E hK G.1 i_M 0 9 rfl rfl (by decide) kf_M_25 rfl d_M_copy_151 ?_
                refine lv_iload hx hb d_M_copy_154 (lv_at hl 1 rfl) ?_
                refine z_ald (f := (up2 P 4 (V 0 (U 3 u.toNatClampNeg).toNatClampNeg).toNatClampNeg ((P 4 (V 0 (U 3 u.toNatClampNeg).toNatClampNeg).toNatClampNeg) + pages)) 4) E hK G.1 6 0 rfl rfl (hV _) d_M_copy_156 ?_
                refine lv_isub hx hb d_M_copy_157 ?_
                have hf : f_M_copy nw n c Z P U V u pages t = ((P 2 (V 0 (U 3 u.toNatClampNeg).toNatClampNeg).toNatClampNeg) - ((up2 P 4 (V 0 (U 3 u.toNatClampNeg).toNatClampNeg).toNatClampNeg ((P 4 (V 0 (U 3 u.toNatClampNeg).toNatClampNeg).toNatClampNeg) + pages)) 4 (V 0 (U 3 u.toNatClampNeg).toNatClampNeg).toNatClampNeg), 0, t, nI n, nI c, Z, up2 (up2 P 4 (V 0 (U 3 u.toNatClampNeg).toNatClampNeg).toNatClampNeg ((P 4 (V 0 (U 3 u.toNatClampNeg).toNatClampNeg).toNatClampNeg) + pages)) 3 (V 0 (U 3 u.toNatClampNeg).toNatClampNeg).toNatClampNeg (t / 86400), U, V) := by unfold f_M_copy; rw [if_neg c_1, if_neg c_2, if_neg c_3, if_pos c_4, if_pos c_5, if_pos c_6, if_pos c_8]
                exact zW.iret E hrt hlk G (by rw [hf]) (by rw [hf]) d_M_copy_158
              · refine lv_bipush (v := (-4)) hx hb d_M_copy_113 (by decide) ?_
                have hf : f_M_copy nw n c Z P U V u pages t = ((-4), 0, nw, nI n, nI c, Z, P, U, V) := by unfold f_M_copy; rw [if_neg c_1, if_neg c_2, if_neg c_3, if_pos c_4, if_pos c_5, if_pos c_6, if_neg c_8]
                exact zW.iret E hrt hlk G (by rw [hf]) (by rw [hf]) d_M_copy_115
          · refine lv_bipush (v := (-3)) hx hb d_M_copy_56 (by decide) ?_
            have hf : f_M_copy nw n c Z P U V u pages t = ((-3), 0, nw, nI n, nI c, Z, P, U, V) := by unfold f_M_copy; rw [if_neg c_1, if_neg c_2, if_neg c_3, if_pos c_4, if_neg c_5]
            exact zW.iret E hrt hlk G (by rw [hf]) (by rw [hf]) d_M_copy_58
      · refine lv_bipush (v := (-2)) hx hb d_M_copy_33 (by decide) ?_
        have hf : f_M_copy nw n c Z P U V u pages t = ((-2), 0, nw, nI n, nI c, Z, P, U, V) := by unfold f_M_copy; rw [if_neg c_1, if_neg c_2, if_pos c_3]
        exact zW.iret E hrt hlk G (by rw [hf]) (by rw [hf]) d_M_copy_35
  · refine lv_iconst (v := (-1)) hx hb d_M_copy_12 (by decide) ?_
    have hf : f_M_copy nw n c Z P U V u pages t = ((-1), 0, nw, nI n, nI c, Z, P, U, V) := by unfold f_M_copy; rw [if_pos c_1]
    exact zW.iret E hrt hlk G (by rw [hf]) (by rw [hf]) d_M_copy_13
end
section
def f_M_close_L3 (c : Nat) (P : Nat → Nat → Int32) (t : Int32) : Nat → Nat → Int32 → (Nat → Nat → Int32) → (Nat → Nat → Int32) → (Nat → Nat → Int32) → Int32 × Int32 × Int32 × Int32 × Int32 × (Nat → Nat → Int32) × (Nat → Nat → Int32) × (Nat → Nat → Int32) × (Nat → Nat → Int32)
  | 0, k0, x2, Z, U, V => (x2, 0, t, 0, nI c, Z, P, U, V)
  | d + 1, k0, x2, Z, U, V => (f_M_close_L3 c P t d (k0 + 1) x2 (up2 Z 0 k0 (-1)) U V)
theorem f_M_close_L3_0 (c : Nat) (P : Nat → Nat → Int32) (t : Int32) (k0 : Nat) (x2 : Int32) (Z : Nat → Nat → Int32) (U : Nat → Nat → Int32) (V : Nat → Nat → Int32) : f_M_close_L3 c P t 0 k0 x2 Z U V = (x2, 0, t, 0, nI c, Z, P, U, V) := rfl
theorem f_M_close_L3_s (c : Nat) (P : Nat → Nat → Int32) (t : Int32) (d k0 : Nat) (x2 : Int32) (Z : Nat → Nat → Int32) (U : Nat → Nat → Int32) (V : Nat → Nat → Int32) : f_M_close_L3 c P t (d + 1) k0 x2 Z U V = (f_M_close_L3 c P t d (k0 + 1) x2 (up2 Z 0 k0 (-1)) U V) := rfl
def f_M_close_L2 (k : Nat) (c : Nat) (Z : Nat → Nat → Int32) (P : Nat → Nat → Int32) (t : Int32) : Nat → Nat → Int32 → (Nat → Nat → Int32) → (Nat → Nat → Int32) → Int32 × Int32 × Int32 × Int32 × Int32 × (Nat → Nat → Int32) × (Nat → Nat → Int32) × (Nat → Nat → Int32) × (Nat → Nat → Int32)
  | 0, k0, x2, U, V => (f_M_close_L3 c P t k 0 x2 Z U V)
  | d + 1, k0, x2, U, V => (if (V 2 k0) = 2 then (if (V 2 k0) = 0 then (f_M_close_L2 k c Z P t d (k0 + 1) x2 U (up2 (up2 V 5 k0 t) 2 k0 4)) else (if 3 ≤ (V 2 k0) then (f_M_close_L2 k c Z P t d (k0 + 1) x2 U (up2 (up2 V 5 k0 t) 2 k0 (V 2 k0))) else (f_M_close_L2 k c Z P t d (k0 + 1) x2 U (up2 (up2 V 5 k0 t) 2 k0 3)))) else (if (V 2 k0) = 0 then (f_M_close_L2 k c Z P t d (k0 + 1) x2 U (up2 V 2 k0 4)) else (if 3 ≤ (V 2 k0) then (f_M_close_L2 k c Z P t d (k0 + 1) x2 U (up2 V 2 k0 (V 2 k0))) else (f_M_close_L2 k c Z P t d (k0 + 1) x2 U (up2 V 2 k0 3)))))
theorem f_M_close_L2_0 (k : Nat) (c : Nat) (Z : Nat → Nat → Int32) (P : Nat → Nat → Int32) (t : Int32) (k0 : Nat) (x2 : Int32) (U : Nat → Nat → Int32) (V : Nat → Nat → Int32) : f_M_close_L2 k c Z P t 0 k0 x2 U V = (f_M_close_L3 c P t k 0 x2 Z U V) := rfl
theorem f_M_close_L2_s (k : Nat) (c : Nat) (Z : Nat → Nat → Int32) (P : Nat → Nat → Int32) (t : Int32) (d k0 : Nat) (x2 : Int32) (U : Nat → Nat → Int32) (V : Nat → Nat → Int32) : f_M_close_L2 k c Z P t (d + 1) k0 x2 U V = (if (V 2 k0) = 2 then (if (V 2 k0) = 0 then (f_M_close_L2 k c Z P t d (k0 + 1) x2 U (up2 (up2 V 5 k0 t) 2 k0 4)) else (if 3 ≤ (V 2 k0) then (f_M_close_L2 k c Z P t d (k0 + 1) x2 U (up2 (up2 V 5 k0 t) 2 k0 (V 2 k0))) else (f_M_close_L2 k c Z P t d (k0 + 1) x2 U (up2 (up2 V 5 k0 t) 2 k0 3)))) else (if (V 2 k0) = 0 then (f_M_close_L2 k c Z P t d (k0 + 1) x2 U (up2 V 2 k0 4)) else (if 3 ≤ (V 2 k0) then (f_M_close_L2 k c Z P t d (k0 + 1) x2 U (up2 V 2 k0 (V 2 k0))) else (f_M_close_L2 k c Z P t d (k0 + 1) x2 U (up2 V 2 k0 3))))) := rfl
def f_M_close_L1 (k : Nat) (c : Nat) (Z : Nat → Nat → Int32) (P : Nat → Nat → Int32) (V : Nat → Nat → Int32) (t : Int32) : Nat → Nat → Int32 → (Nat → Nat → Int32) → Int32 × Int32 × Int32 × Int32 × Int32 × (Nat → Nat → Int32) × (Nat → Nat → Int32) × (Nat → Nat → Int32) × (Nat → Nat → Int32)
  | 0, k0, x2, U => (f_M_close_L2 k c Z P t c 0 x2 U V)
  | d + 1, k0, x2, U => (if (U 0 k0) = 0 then (f_M_close_L1 k c Z P V t d (k0 + 1) (x2 + 0) (up2 (up2 U 0 k0 0) 3 k0 (-1))) else (f_M_close_L1 k c Z P V t d (k0 + 1) (x2 + 1) (up2 (up2 U 0 k0 0) 3 k0 (-1))))
theorem f_M_close_L1_0 (k : Nat) (c : Nat) (Z : Nat → Nat → Int32) (P : Nat → Nat → Int32) (V : Nat → Nat → Int32) (t : Int32) (k0 : Nat) (x2 : Int32) (U : Nat → Nat → Int32) : f_M_close_L1 k c Z P V t 0 k0 x2 U = (f_M_close_L2 k c Z P t c 0 x2 U V) := rfl
theorem f_M_close_L1_s (k : Nat) (c : Nat) (Z : Nat → Nat → Int32) (P : Nat → Nat → Int32) (V : Nat → Nat → Int32) (t : Int32) (d k0 : Nat) (x2 : Int32) (U : Nat → Nat → Int32) : f_M_close_L1 k c Z P V t (d + 1) k0 x2 U = (if (U 0 k0) = 0 then (f_M_close_L1 k c Z P V t d (k0 + 1) (x2 + 0) (up2 (up2 U 0 k0 0) 3 k0 (-1))) else (f_M_close_L1 k c Z P V t d (k0 + 1) (x2 + 1) (up2 (up2 U 0 k0 0) 3 k0 (-1)))) := rfl
def f_M_close (nw : Int32) (k : Nat) (n : Nat) (c : Nat) (Z : Nat → Nat → Int32) (P : Nat → Nat → Int32) (U : Nat → Nat → Int32) (V : Nat → Nat → Int32) (t : Int32) : Int32 × Int32 × Int32 × Int32 × Int32 × (Nat → Nat → Int32) × (Nat → Nat → Int32) × (Nat → Nat → Int32) × (Nat → Nat → Int32) := (if (f_M_isNow nw t) = 0 then ((-2), 0, nw, nI n, nI c, Z, P, U, V) else (f_M_close_L1 k c Z P V t 80 0 0 U))
set_option maxHeartbeats 4000000 in
set_option maxRecDepth 100000 in
theorem lp_M_close3 (l : Launch) (D : va_G) (cI : ClassId) (a : Nat → Nat) (k : Nat) (n : Nat) (c : Nat) (P : Nat → Nat → Int32) (t : Int32) (hk : k ≤ 20) (hn : n ≤ 60) (hc : c ≤ 300) {p : Program} {e : Env} {s : State} {m : MethodId} {below : List Frame} {meth : Method} {c0 : Code} {A : Nat → Prop} (E : CallFix p m c0 b_M_close 4 s ([.ref (a 0), .int t] : List Value).toArray zB y_M_close.cls) (hrt : meth.sig.returnType = (some .int)) (hlk : meth.locks = false) (hN : zN s) (hK : va_K D vwCl [(cI, .int)] s) (hA : ∀ q, s.heap.size ≤ q → A q) :
    ∀ (d k0 : Nat) (x2 : Int32) (Z : Nat → Nat → Int32) (U : Nat → Nat → Int32) (V : Nat → Nat → Int32), k0 + d = k → ∀ X : Int32 × Int32 × Int32 × Int32 × Int32 × (Nat → Nat → Int32) × (Nat → Nat → Int32) × (Nat → Nat → Int32) × (Nat → Nat → Int32), f_M_close_L3 c P t d k0 x2 Z U V = X → ∀ (H : Heap) (locs : List Loc), zG D A s H locs (wM a cI 0 t (nI k) (nI n) (nI c) Z P U V) → ∀ ls : Array Slot, lv_has ls 4 [(3, .int (nI k0)), (2, .int x2), (0, .ref (a 0)), (1, .int t)] → W p l e { frames := 2, cells := 0, slots := 0, locals := 43 } s m ([.ref (a 0), .int t] : List Value).toArray below meth c0 H locs 0 0 (MQ below (zQ D A (wM a cI X.2.1 X.2.2.1 (nI k) X.2.2.2.1 X.2.2.2.2.1 X.2.2.2.2.2.1 X.2.2.2.2.2.2.1 X.2.2.2.2.2.2.2.1 X.2.2.2.2.2.2.2.2) (some (.int X.1))) ([.ref (a 0), .int t] : List Value).toArray s 0 0 A) (F0 m 142 ls []) := by
  have hx := E.1
  have hb := E.2.1
  intro d
  induction d with
  | zero =>
    intro k0 x2 Z U V hkd X hr H locs G ls hl
    refine lv_iload_n hx hb d_M_close_142 rfl (lv_at hl 0 rfl) ?_
    refine lv_aload_n hx hb d_M_close_143 rfl (lv_at hl 2 rfl) ?_
    refine z_get (v := .int (nI k)) E hK G.1 i_M 0 2 rfl rfl (by decide) kf_M_61 rfl d_M_close_144 ?_
    refine lv_icmp_ge (tgt := 163) hx hb d_M_close_147 (by decide) (fun c_1 => ?_) (fun c_1 => absurd (nI_le (by omega) (by omega)) c_1)
    refine lv_aload_n hx hb d_M_close_163 rfl (lv_at hl 2 rfl) ?_
    refine lv_iconst (v := 0) hx hb d_M_close_164 (by decide) ?_
    refine z_put (ty := .int) (ws' := wM a cI 0 t (nI k) 0 (nI c) Z P U V) E hK G i_M t_M t_M_ok n_M 0 4 rfl rfl (by decide) kf_M_76 rfl rfl rfl rfl (Nat.le_of_ble_eq_true rfl) rfl d_M_close_165 (fun H locs G => ?_)
    refine lv_iload_n hx hb d_M_close_168 rfl (lv_at hl 1 rfl) ?_
    have hf : X = (x2, 0, t, 0, nI c, Z, P, U, V) := by rw [← hr, f_M_close_L3_0]
    exact zW.iret E hrt hlk G (by rw [hf]) (by rw [hf]) d_M_close_169
  | succ d ih =>
    intro k0 x2 Z U V hkd X hr H locs G ls hl
    refine lv_iload_n hx hb d_M_close_142 rfl (lv_at hl 0 rfl) ?_
    refine lv_aload_n hx hb d_M_close_143 rfl (lv_at hl 2 rfl) ?_
    refine z_get (v := .int (nI k)) E hK G.1 i_M 0 2 rfl rfl (by decide) kf_M_61 rfl d_M_close_144 ?_
    refine lv_icmp_ge (tgt := 163) hx hb d_M_close_147 (by decide) (fun c_2 => absurd c_2 (nI_ge (by omega) (by omega))) (fun c_2 => ?_)
    refine lv_aload_n hx hb d_M_close_150 rfl (lv_at hl 2 rfl) ?_
    refine z_get (v := .ref (a 1)) E hK G.1 i_M 0 3 rfl rfl (by decide) kf_M_7 rfl d_M_close_151 ?_
    refine lv_iload_n hx hb d_M_close_154 rfl (lv_at hl 0 rfl) ?_
    refine lv_iconst (v := (-1)) hx hb d_M_close_155 (by decide) ?_
    refine z_astN (f := Z 0) (j := k0) (ws' := wM a cI 0 t (nI k) (nI n) (nI c) (up2 Z 0 k0 (-1)) P U V) E hK G 1 0 rfl rfl rfl (by omega) (by decide) rfl d_M_close_156 (fun H locs G => ?_)
    refine lv_iinc (v := nI (k0 + 1)) (lv' := [(3, .int (nI (k0 + 1))), (2, .int x2), (0, .ref (a 0)), (1, .int t)]) hx hb d_M_close_157 hl (k := 0) rfl (nI_1 _) (by decide) rfl (fun ls hl => ?_)
    refine lv_goto (tgt := 142) hx hb d_M_close_160 (by decide) ?_
    exact ih (k0 + 1) x2 (up2 Z 0 k0 (-1)) U V (by omega) X (by rw [← hr, f_M_close_L3_s]) H locs G ls (lv_sub hl [0, 1, 2, 3] rfl)
set_option maxHeartbeats 4000000 in
set_option maxRecDepth 100000 in
theorem lp_M_close2 (l : Launch) (D : va_G) (cI : ClassId) (a : Nat → Nat) (k : Nat) (n : Nat) (c : Nat) (Z : Nat → Nat → Int32) (P : Nat → Nat → Int32) (t : Int32) (hk : k ≤ 20) (hn : n ≤ 60) (hc : c ≤ 300) {p : Program} {e : Env} {s : State} {m : MethodId} {below : List Frame} {meth : Method} {c0 : Code} {A : Nat → Prop} (E : CallFix p m c0 b_M_close 4 s ([.ref (a 0), .int t] : List Value).toArray zB y_M_close.cls) (hrt : meth.sig.returnType = (some .int)) (hlk : meth.locks = false) (hN : zN s) (hK : va_K D vwCl [(cI, .int)] s) (hA : ∀ q, s.heap.size ≤ q → A q) :
    ∀ (d k0 : Nat) (x2 : Int32) (U : Nat → Nat → Int32) (V : Nat → Nat → Int32), k0 + d = c → ∀ X : Int32 × Int32 × Int32 × Int32 × Int32 × (Nat → Nat → Int32) × (Nat → Nat → Int32) × (Nat → Nat → Int32) × (Nat → Nat → Int32), f_M_close_L2 k c Z P t d k0 x2 U V = X → ∀ (H : Heap) (locs : List Loc), zG D A s H locs (wM a cI 0 t (nI k) (nI n) (nI c) Z P U V) → ∀ ls : Array Slot, lv_has ls 4 [(3, .int (nI k0)), (2, .int x2), (0, .ref (a 0)), (1, .int t)] → W p l e { frames := 2, cells := 0, slots := 0, locals := 43 } s m ([.ref (a 0), .int t] : List Value).toArray below meth c0 H locs 0 0 (MQ below (zQ D A (wM a cI X.2.1 X.2.2.1 (nI k) X.2.2.2.1 X.2.2.2.2.1 X.2.2.2.2.2.1 X.2.2.2.2.2.2.1 X.2.2.2.2.2.2.2.1 X.2.2.2.2.2.2.2.2) (some (.int X.1))) ([.ref (a 0), .int t] : List Value).toArray s 0 0 A) (F0 m 70 ls []) := by
  have hx := E.1
  have hb := E.2.1
  intro d
  induction d with
  | zero =>
    intro k0 x2 U V hkd X hr H locs G ls hl
    refine lv_iload_n hx hb d_M_close_70 rfl (lv_at hl 0 rfl) ?_
    refine lv_aload_n hx hb d_M_close_71 rfl (lv_at hl 2 rfl) ?_
    refine z_get (v := .int (nI c)) E hK G.1 i_M 0 15 rfl rfl (by decide) kf_M_97 rfl d_M_close_72 ?_
    refine lv_icmp_ge (tgt := 140) hx hb d_M_close_75 (by decide) (fun c_3 => ?_) (fun c_3 => absurd (nI_le (by omega) (by omega)) c_3)
    refine lv_iconst (v := 0) hx hb d_M_close_140 (by decide) ?_
    refine lv_istore_n (lv' := [(3, .int 0), (2, .int x2), (0, .ref (a 0)), (1, .int t)]) hx hb d_M_close_141 rfl hl (by decide) rfl (fun ls hl => ?_)
    exact lp_M_close3 l D cI a k n c P t hk hn hc E hrt hlk hN hK hA k 0 x2 Z U V (by omega) _ (by rw [← hr, f_M_close_L2_0]) _ _ G ls (by rw [nI_0]; exact lv_sub hl [0, 1, 2, 3] rfl)
  | succ d ih =>
    intro k0 x2 U V hkd X hr H locs G ls hl
    refine lv_iload_n hx hb d_M_close_70 rfl (lv_at hl 0 rfl) ?_
    refine lv_aload_n hx hb d_M_close_71 rfl (lv_at hl 2 rfl) ?_
    refine z_get (v := .int (nI c)) E hK G.1 i_M 0 15 rfl rfl (by decide) kf_M_97 rfl d_M_close_72 ?_
    refine lv_icmp_ge (tgt := 140) hx hb d_M_close_75 (by decide) (fun c_4 => absurd c_4 (nI_ge (by omega) (by omega))) (fun c_4 => ?_)
    refine lv_aload_n hx hb d_M_close_78 rfl (lv_at hl 2 rfl) ?_
    refine z_get (v := .ref (a 14)) E hK G.1 i_M 0 18 rfl rfl (by decide) kf_M_49 rfl d_M_close_79 ?_
    refine lv_iload_n hx hb d_M_close_82 rfl (lv_at hl 0 rfl) ?_
    refine z_aldN (f := V 2) (j := k0) E hK G.1 14 0 rfl rfl rfl (by omega) (by decide) d_M_close_83 ?_
    refine lv_iconst (v := 2) hx hb d_M_close_84 (by decide) ?_
    refine lv_icmp_ne (tgt := 95) hx hb d_M_close_85 (by decide) (fun c_5 => ?_) (fun c_5 => ?_)
    · refine lv_aload_n hx hb d_M_close_95 rfl (lv_at hl 2 rfl) ?_
      refine z_get (v := .ref (a 14)) E hK G.1 i_M 0 18 rfl rfl (by decide) kf_M_49 rfl d_M_close_96 ?_
      refine lv_iload_n hx hb d_M_close_99 rfl (lv_at hl 0 rfl) ?_
      refine lv_aload_n hx hb d_M_close_100 rfl (lv_at hl 2 rfl) ?_
      refine z_get (v := .ref (a 14)) E hK G.1 i_M 0 18 rfl rfl (by decide) kf_M_49 rfl d_M_close_101 ?_
      refine lv_iload_n hx hb d_M_close_104 rfl (lv_at hl 0 rfl) ?_
      refine z_aldN (f := V 2) (j := k0) E hK G.1 14 0 rfl rfl rfl (by omega) (by decide) d_M_close_105 ?_
      refine lv_if_ne (tgt := 113) hx hb d_M_close_106 (by decide) (fun c_6 => ?_) (fun c_6 => ?_)
      · refine lv_aload_n hx hb d_M_close_113 rfl (lv_at hl 2 rfl) ?_
        refine z_get (v := .ref (a 14)) E hK G.1 i_M 0 18 rfl rfl (by decide) kf_M_49 rfl d_M_close_114 ?_
        refine lv_iload_n hx hb d_M_close_117 rfl (lv_at hl 0 rfl) ?_
        refine z_aldN (f := V 2) (j := k0) E hK G.1 14 0 rfl rfl rfl (by omega) (by decide) d_M_close_118 ?_
        refine lv_iconst (v := 3) hx hb d_M_close_119 (by decide) ?_
        refine lv_icmp_ge (tgt := 127) hx hb d_M_close_120 (by decide) (fun c_7 => ?_) (fun c_7 => ?_)
        · refine lv_aload_n hx hb d_M_close_127 rfl (lv_at hl 2 rfl) ?_
          refine z_get (v := .ref (a 14)) E hK G.1 i_M 0 18 rfl rfl (by decide) kf_M_49 rfl d_M_close_128 ?_
          refine lv_iload_n hx hb d_M_close_131 rfl (lv_at hl 0 rfl) ?_
          refine z_aldN (f := V 2) (j := k0) E hK G.1 14 0 rfl rfl rfl (by omega) (by decide) d_M_close_132 ?_
          refine z_astN (f := V 2) (j := k0) (ws' := wM a cI 0 t (nI k) (nI n) (nI c) Z P U (up2 V 2 k0 (V 2 k0))) E hK G 14 0 rfl rfl rfl (by omega) (by decide) rfl d_M_close_133 (fun H locs G => ?_)
          refine lv_iinc (v := nI (k0 + 1)) (lv' := [(3, .int (nI (k0 + 1))), (2, .int x2), (0, .ref (a 0)), (1, .int t)]) hx hb d_M_close_134 hl (k := 0) rfl (nI_1 _) (by decide) rfl (fun ls hl => ?_)
          refine lv_goto (tgt := 70) hx hb d_M_close_137 (by decide) ?_
          exact ih (k0 + 1) x2 U (up2 V 2 k0 (V 2 k0)) (by omega) X (by rw [← hr, f_M_close_L2_s, if_neg c_5, if_neg c_6, if_pos c_7]) H locs G ls (lv_sub hl [0, 1, 2, 3] rfl)
        · refine lv_iconst (v := 3) hx hb d_M_close_123 (by decide) ?_
          refine lv_goto (tgt := 133) hx hb d_M_close_124 (by decide) ?_
          refine z_astN (f := V 2) (j := k0) (ws' := wM a cI 0 t (nI k) (nI n) (nI c) Z P U (up2 V 2 k0 3)) E hK G 14 0 rfl rfl rfl (by omega) (by decide) rfl d_M_close_133 (fun H locs G => ?_)
          refine lv_iinc (v := nI (k0 + 1)) (lv' := [(3, .int (nI (k0 + 1))), (2, .int x2), (0, .ref (a 0)), (1, .int t)]) hx hb d_M_close_134 hl (k := 0) rfl (nI_1 _) (by decide) rfl (fun ls hl => ?_)
          refine lv_goto (tgt := 70) hx hb d_M_close_137 (by decide) ?_
          exact ih (k0 + 1) x2 U (up2 V 2 k0 3) (by omega) X (by rw [← hr, f_M_close_L2_s, if_neg c_5, if_neg c_6, if_neg c_7]) H locs G ls (lv_sub hl [0, 1, 2, 3] rfl)
      · refine lv_iconst (v := 4) hx hb d_M_close_109 (by decide) ?_
        refine lv_goto (tgt := 133) hx hb d_M_close_110 (by decide) ?_
        refine z_astN (f := V 2) (j := k0) (ws' := wM a cI 0 t (nI k) (nI n) (nI c) Z P U (up2 V 2 k0 4)) E hK G 14 0 rfl rfl rfl (by omega) (by decide) rfl d_M_close_133 (fun H locs G => ?_)
        refine lv_iinc (v := nI (k0 + 1)) (lv' := [(3, .int (nI (k0 + 1))), (2, .int x2), (0, .ref (a 0)), (1, .int t)]) hx hb d_M_close_134 hl (k := 0) rfl (nI_1 _) (by decide) rfl (fun ls hl => ?_)
        refine lv_goto (tgt := 70) hx hb d_M_close_137 (by decide) ?_
        exact ih (k0 + 1) x2 U (up2 V 2 k0 4) (by omega) X (by rw [← hr, f_M_close_L2_s, if_neg c_5, if_pos c_6]) H locs G ls (lv_sub hl [0, 1, 2, 3] rfl)
    · refine lv_aload_n hx hb d_M_close_88 rfl (lv_at hl 2 rfl) ?_
      refine z_get (v := .ref (a 17)) E hK G.1 i_M 0 21 rfl rfl (by decide) kf_M_58 rfl d_M_close_89 ?_
      refine lv_iload_n hx hb d_M_close_92 rfl (lv_at hl 0 rfl) ?_
      refine lv_iload_n hx hb d_M_close_93 rfl (lv_at hl 3 rfl) ?_
      refine z_astN (f := V 5) (j := k0) (ws' := wM a cI 0 t (nI k) (nI n) (nI c) Z P U (up2 V 5 k0 t)) E hK G 17 0 rfl rfl rfl (by omega) (by decide) rfl d_M_close_94 (fun H locs G => ?_)
      refine lv_aload_n hx hb d_M_close_95 rfl (lv_at hl 2 rfl) ?_
      refine z_get (v := .ref (a 14)) E hK G.1 i_M 0 18 rfl rfl (by decide) kf_M_49 rfl d_M_close_96 ?_
      refine lv_iload_n hx hb d_M_close_99 rfl (lv_at hl 0 rfl) ?_
      refine lv_aload_n hx hb d_M_close_100 rfl (lv_at hl 2 rfl) ?_
      refine z_get (v := .ref (a 14)) E hK G.1 i_M 0 18 rfl rfl (by decide) kf_M_49 rfl d_M_close_101 ?_
      refine lv_iload_n hx hb d_M_close_104 rfl (lv_at hl 0 rfl) ?_
      refine z_aldN (f := V 2) (j := k0) E hK G.1 14 0 rfl rfl rfl (by omega) (by decide) d_M_close_105 ?_
      refine lv_if_ne (tgt := 113) hx hb d_M_close_106 (by decide) (fun c_8 => ?_) (fun c_8 => ?_)
      · refine lv_aload_n hx hb d_M_close_113 rfl (lv_at hl 2 rfl) ?_
        refine z_get (v := .ref (a 14)) E hK G.1 i_M 0 18 rfl rfl (by decide) kf_M_49 rfl d_M_close_114 ?_
        refine lv_iload_n hx hb d_M_close_117 rfl (lv_at hl 0 rfl) ?_
        refine z_aldN (f := V 2) (j := k0) E hK G.1 14 0 rfl rfl rfl (by omega) (by decide) d_M_close_118 ?_
        refine lv_iconst (v := 3) hx hb d_M_close_119 (by decide) ?_
        refine lv_icmp_ge (tgt := 127) hx hb d_M_close_120 (by decide) (fun c_9 => ?_) (fun c_9 => ?_)
        · refine lv_aload_n hx hb d_M_close_127 rfl (lv_at hl 2 rfl) ?_
          refine z_get (v := .ref (a 14)) E hK G.1 i_M 0 18 rfl rfl (by decide) kf_M_49 rfl d_M_close_128 ?_
          refine lv_iload_n hx hb d_M_close_131 rfl (lv_at hl 0 rfl) ?_
          refine z_aldN (f := V 2) (j := k0) E hK G.1 14 0 rfl rfl rfl (by omega) (by decide) d_M_close_132 ?_
          refine z_astN (f := (up2 V 5 k0 t) 2) (j := k0) (ws' := wM a cI 0 t (nI k) (nI n) (nI c) Z P U (up2 (up2 V 5 k0 t) 2 k0 (V 2 k0))) E hK G 14 0 rfl rfl rfl (by omega) (by decide) rfl d_M_close_133 (fun H locs G => ?_)
          refine lv_iinc (v := nI (k0 + 1)) (lv' := [(3, .int (nI (k0 + 1))), (2, .int x2), (0, .ref (a 0)), (1, .int t)]) hx hb d_M_close_134 hl (k := 0) rfl (nI_1 _) (by decide) rfl (fun ls hl => ?_)
          refine lv_goto (tgt := 70) hx hb d_M_close_137 (by decide) ?_
          exact ih (k0 + 1) x2 U (up2 (up2 V 5 k0 t) 2 k0 (V 2 k0)) (by omega) X (by rw [← hr, f_M_close_L2_s, if_pos c_5, if_neg c_8, if_pos c_9]) H locs G ls (lv_sub hl [0, 1, 2, 3] rfl)
        · refine lv_iconst (v := 3) hx hb d_M_close_123 (by decide) ?_
          refine lv_goto (tgt := 133) hx hb d_M_close_124 (by decide) ?_
          refine z_astN (f := (up2 V 5 k0 t) 2) (j := k0) (ws' := wM a cI 0 t (nI k) (nI n) (nI c) Z P U (up2 (up2 V 5 k0 t) 2 k0 3)) E hK G 14 0 rfl rfl rfl (by omega) (by decide) rfl d_M_close_133 (fun H locs G => ?_)
          refine lv_iinc (v := nI (k0 + 1)) (lv' := [(3, .int (nI (k0 + 1))), (2, .int x2), (0, .ref (a 0)), (1, .int t)]) hx hb d_M_close_134 hl (k := 0) rfl (nI_1 _) (by decide) rfl (fun ls hl => ?_)
          refine lv_goto (tgt := 70) hx hb d_M_close_137 (by decide) ?_
          exact ih (k0 + 1) x2 U (up2 (up2 V 5 k0 t) 2 k0 3) (by omega) X (by rw [← hr, f_M_close_L2_s, if_pos c_5, if_neg c_8, if_neg c_9]) H locs G ls (lv_sub hl [0, 1, 2, 3] rfl)
      · refine lv_iconst (v := 4) hx hb d_M_close_109 (by decide) ?_
        refine lv_goto (tgt := 133) hx hb d_M_close_110 (by decide) ?_
        refine z_astN (f := (up2 V 5 k0 t) 2) (j := k0) (ws' := wM a cI 0 t (nI k) (nI n) (nI c) Z P U (up2 (up2 V 5 k0 t) 2 k0 4)) E hK G 14 0 rfl rfl rfl (by omega) (by decide) rfl d_M_close_133 (fun H locs G => ?_)
        refine lv_iinc (v := nI (k0 + 1)) (lv' := [(3, .int (nI (k0 + 1))), (2, .int x2), (0, .ref (a 0)), (1, .int t)]) hx hb d_M_close_134 hl (k := 0) rfl (nI_1 _) (by decide) rfl (fun ls hl => ?_)
        refine lv_goto (tgt := 70) hx hb d_M_close_137 (by decide) ?_
        exact ih (k0 + 1) x2 U (up2 (up2 V 5 k0 t) 2 k0 4) (by omega) X (by rw [← hr, f_M_close_L2_s, if_pos c_5, if_pos c_8]) H locs G ls (lv_sub hl [0, 1, 2, 3] rfl)
set_option maxHeartbeats 4000000 in
set_option maxRecDepth 100000 in
theorem lp_M_close1 (l : Launch) (D : va_G) (cI : ClassId) (a : Nat → Nat) (k : Nat) (n : Nat) (c : Nat) (Z : Nat → Nat → Int32) (P : Nat → Nat → Int32) (V : Nat → Nat → Int32) (t : Int32) (hk : k ≤ 20) (hn : n ≤ 60) (hc : c ≤ 300) {p : Program} {e : Env} {s : State} {m : MethodId} {below : List Frame} {meth : Method} {c0 : Code} {A : Nat → Prop} (E : CallFix p m c0 b_M_close 4 s ([.ref (a 0), .int t] : List Value).toArray zB y_M_close.cls) (hrt : meth.sig.returnType = (some .int)) (hlk : meth.locks = false) (hN : zN s) (hK : va_K D vwCl [(cI, .int)] s) (hA : ∀ q, s.heap.size ≤ q → A q) :
    ∀ (d k0 : Nat) (x2 : Int32) (U : Nat → Nat → Int32), k0 + d = 80 → ∀ X : Int32 × Int32 × Int32 × Int32 × Int32 × (Nat → Nat → Int32) × (Nat → Nat → Int32) × (Nat → Nat → Int32) × (Nat → Nat → Int32), f_M_close_L1 k c Z P V t d k0 x2 U = X → ∀ (H : Heap) (locs : List Loc), zG D A s H locs (wM a cI 0 t (nI k) (nI n) (nI c) Z P U V) → ∀ ls : Array Slot, lv_has ls 4 [(3, .int (nI k0)), (2, .int x2), (0, .ref (a 0)), (1, .int t)] → W p l e { frames := 2, cells := 0, slots := 0, locals := 43 } s m ([.ref (a 0), .int t] : List Value).toArray below meth c0 H locs 0 0 (MQ below (zQ D A (wM a cI X.2.1 X.2.2.1 (nI k) X.2.2.2.1 X.2.2.2.2.1 X.2.2.2.2.2.1 X.2.2.2.2.2.2.1 X.2.2.2.2.2.2.2.1 X.2.2.2.2.2.2.2.2) (some (.int X.1))) ([.ref (a 0), .int t] : List Value).toArray s 0 0 A) (F0 m 25 ls []) := by
  have hx := E.1
  have hb := E.2.1
  intro d
  induction d with
  | zero =>
    intro k0 x2 U hkd X hr H locs G ls hl
    refine lv_iload_n hx hb d_M_close_25 rfl (lv_at hl 0 rfl) ?_
    refine lv_bipush (v := (nI 80)) hx hb d_M_close_26 (by decide) ?_
    refine lv_icmp_ge (tgt := 68) hx hb d_M_close_28 (by decide) (fun c_10 => ?_) (fun c_10 => absurd (nI_le (by omega) (by omega)) c_10)
    refine lv_iconst (v := 0) hx hb d_M_close_68 (by decide) ?_
    refine lv_istore_n (lv' := [(3, .int 0), (2, .int x2), (0, .ref (a 0)), (1, .int t)]) hx hb d_M_close_69 rfl hl (by decide) rfl (fun ls hl => ?_)
    exact lp_M_close2 l D cI a k n c Z P t hk hn hc E hrt hlk hN hK hA c 0 x2 U V (by omega) _ (by rw [← hr, f_M_close_L1_0]) _ _ G ls (by rw [nI_0]; exact lv_sub hl [0, 1, 2, 3] rfl)
  | succ d ih =>
    intro k0 x2 U hkd X hr H locs G ls hl
    refine lv_iload_n hx hb d_M_close_25 rfl (lv_at hl 0 rfl) ?_
    refine lv_bipush (v := (nI 80)) hx hb d_M_close_26 (by decide) ?_
    refine lv_icmp_ge (tgt := 68) hx hb d_M_close_28 (by decide) (fun c_11 => absurd c_11 (nI_ge (by omega) (by omega))) (fun c_11 => ?_)
    refine lv_iload_n hx hb d_M_close_31 rfl (lv_at hl 1 rfl) ?_
    refine lv_aload_n hx hb d_M_close_32 rfl (lv_at hl 2 rfl) ?_
    refine z_get (v := .ref (a 8)) E hK G.1 i_M 0 11 rfl rfl (by decide) kf_M_31 rfl d_M_close_33 ?_
    refine lv_iload_n hx hb d_M_close_36 rfl (lv_at hl 0 rfl) ?_
    refine z_aldN (f := U 0) (j := k0) E hK G.1 8 0 rfl rfl rfl (by omega) (by decide) d_M_close_37 ?_
    refine lv_if_eq (tgt := 45) hx hb d_M_close_38 (by decide) (fun c_12 => ?_) (fun c_12 => ?_)
    · refine lv_iconst (v := 0) hx hb d_M_close_45 (by decide) ?_
      refine lv_iadd hx hb d_M_close_46 ?_
      refine lv_istore_n (lv' := [(2, .int (x2 + 0)), (3, .int (nI k0)), (0, .ref (a 0)), (1, .int t)]) hx hb d_M_close_47 rfl hl (by decide) rfl (fun ls hl => ?_)
      refine lv_aload_n hx hb d_M_close_48 rfl (lv_at hl 2 rfl) ?_
      refine z_get (v := .ref (a 8)) E hK G.1 i_M 0 11 rfl rfl (by decide) kf_M_31 rfl d_M_close_49 ?_
      refine lv_iload_n hx hb d_M_close_52 rfl (lv_at hl 1 rfl) ?_
      refine lv_iconst (v := 0) hx hb d_M_close_53 (by decide) ?_
      refine z_astN (f := U 0) (j := k0) (ws' := wM a cI 0 t (nI k) (nI n) (nI c) Z P (up2 U 0 k0 0) V) E hK G 8 0 rfl rfl rfl (by omega) (by decide) rfl d_M_close_54 (fun H locs G => ?_)
      refine lv_aload_n hx hb d_M_close_55 rfl (lv_at hl 2 rfl) ?_
      refine z_get (v := .ref (a 11)) E hK G.1 i_M 0 14 rfl rfl (by decide) kf_M_40 rfl d_M_close_56 ?_
      refine lv_iload_n hx hb d_M_close_59 rfl (lv_at hl 1 rfl) ?_
      refine lv_iconst (v := (-1)) hx hb d_M_close_60 (by decide) ?_
      refine z_astN (f := (up2 U 0 k0 0) 3) (j := k0) (ws' := wM a cI 0 t (nI k) (nI n) (nI c) Z P (up2 (up2 U 0 k0 0) 3 k0 (-1)) V) E hK G 11 0 rfl rfl rfl (by omega) (by decide) rfl d_M_close_61 (fun H locs G => ?_)
      refine lv_iinc (v := nI (k0 + 1)) (lv' := [(3, .int (nI (k0 + 1))), (2, .int (x2 + 0)), (0, .ref (a 0)), (1, .int t)]) hx hb d_M_close_62 hl (k := 1) rfl (nI_1 _) (by decide) rfl (fun ls hl => ?_)
      refine lv_goto (tgt := 25) hx hb d_M_close_65 (by decide) ?_
      exact ih (k0 + 1) (x2 + 0) (up2 (up2 U 0 k0 0) 3 k0 (-1)) (by omega) X (by rw [← hr, f_M_close_L1_s, if_pos c_12]) H locs G ls (lv_sub hl [0, 1, 2, 3] rfl)
    · refine lv_iconst (v := 1) hx hb d_M_close_41 (by decide) ?_
      refine lv_goto (tgt := 46) hx hb d_M_close_42 (by decide) ?_
      refine lv_iadd hx hb d_M_close_46 ?_
      refine lv_istore_n (lv' := [(2, .int (x2 + 1)), (3, .int (nI k0)), (0, .ref (a 0)), (1, .int t)]) hx hb d_M_close_47 rfl hl (by decide) rfl (fun ls hl => ?_)
      refine lv_aload_n hx hb d_M_close_48 rfl (lv_at hl 2 rfl) ?_
      refine z_get (v := .ref (a 8)) E hK G.1 i_M 0 11 rfl rfl (by decide) kf_M_31 rfl d_M_close_49 ?_
      refine lv_iload_n hx hb d_M_close_52 rfl (lv_at hl 1 rfl) ?_
      refine lv_iconst (v := 0) hx hb d_M_close_53 (by decide) ?_
      refine z_astN (f := U 0) (j := k0) (ws' := wM a cI 0 t (nI k) (nI n) (nI c) Z P (up2 U 0 k0 0) V) E hK G 8 0 rfl rfl rfl (by omega) (by decide) rfl d_M_close_54 (fun H locs G => ?_)
      refine lv_aload_n hx hb d_M_close_55 rfl (lv_at hl 2 rfl) ?_
      refine z_get (v := .ref (a 11)) E hK G.1 i_M 0 14 rfl rfl (by decide) kf_M_40 rfl d_M_close_56 ?_
      refine lv_iload_n hx hb d_M_close_59 rfl (lv_at hl 1 rfl) ?_
      refine lv_iconst (v := (-1)) hx hb d_M_close_60 (by decide) ?_
      refine z_astN (f := (up2 U 0 k0 0) 3) (j := k0) (ws' := wM a cI 0 t (nI k) (nI n) (nI c) Z P (up2 (up2 U 0 k0 0) 3 k0 (-1)) V) E hK G 11 0 rfl rfl rfl (by omega) (by decide) rfl d_M_close_61 (fun H locs G => ?_)
      refine lv_iinc (v := nI (k0 + 1)) (lv' := [(3, .int (nI (k0 + 1))), (2, .int (x2 + 1)), (0, .ref (a 0)), (1, .int t)]) hx hb d_M_close_62 hl (k := 1) rfl (nI_1 _) (by decide) rfl (fun ls hl => ?_)
      refine lv_goto (tgt := 25) hx hb d_M_close_65 (by decide) ?_
      exact ih (k0 + 1) (x2 + 1) (up2 (up2 U 0 k0 0) 3 k0 (-1)) (by omega) X (by rw [← hr, f_M_close_L1_s, if_neg c_12]) H locs G ls (lv_sub hl [0, 1, 2, 3] rfl)
set_option maxHeartbeats 4000000 in
set_option maxRecDepth 100000 in
theorem c_M_close (l : Launch) (D : va_G) (cI : ClassId) (a : Nat → Nat) (th : Int32) (nw : Int32) (k : Nat) (n : Nat) (c : Nat) (Z : Nat → Nat → Int32) (P : Nat → Nat → Int32) (U : Nat → Nat → Int32) (V : Nat → Nat → Int32) (t : Int32) (hk : k ≤ 20) (hn : n ≤ 60) (hc : c ≤ 300) : zW l D [(cI, .int)] y_M_close b_M_close 4 (some .int) 2 43 [.ref (a 0), .int t] (wM a cI th nw (nI k) (nI n) (nI c) Z P U V) (wM a cI ((f_M_close nw k n c Z P U V t).2.1) ((f_M_close nw k n c Z P U V t).2.2.1) (nI k) ((f_M_close nw k n c Z P U V t).2.2.2.1) ((f_M_close nw k n c Z P U V t).2.2.2.2.1) ((f_M_close nw k n c Z P U V t).2.2.2.2.2.1) ((f_M_close nw k n c Z P U V t).2.2.2.2.2.2.1) ((f_M_close nw k n c Z P U V t).2.2.2.2.2.2.2.1) ((f_M_close nw k n c Z P U V t).2.2.2.2.2.2.2.2)) (some (.int (f_M_close nw k n c Z P U V t).1)) := by
  refine zW.of (by decide) (Nat.le_of_ble_eq_true rfl) ?_
  intro p e s m below meth c0 ls A E hrt hlk hN hK hA G hl
  have hx := E.1
  have hb := E.2.1
  have hl : lv_has ls 4 [(0, .ref (a 0)), (1, .int t)] := hl
  refine lv_aload_n hx hb d_M_close_0 rfl (lv_at hl 0 rfl) ?_
  refine lv_iconst (v := 0) hx hb d_M_close_1 (by decide) ?_
  refine z_put (ty := .int) (ws' := wM a cI 0 nw (nI k) (nI n) (nI c) Z P U V) E hK G i_M t_M t_M_ok n_M 0 0 rfl rfl (by decide) kf_M_65 rfl rfl rfl rfl (Nat.le_of_ble_eq_true rfl) rfl d_M_close_2 (fun H locs G => ?_)
  refine lv_aload_n hx hb d_M_close_5 rfl (lv_at hl 0 rfl) ?_
  refine lv_iload_n hx hb d_M_close_6 rfl (lv_at hl 1 rfl) ?_
  refine z_rv (As := [.int t]) (rest := []) E hN hK G.1 hl.1 (c_M_isNow l D cI a 0 nw k n c Z P U V t hk hn hc) [0, 1, 2, 3, 4, 5, 6, 7, 8, 9, 10, 11, 12, 13, 14, 15, 16, 17] rfl 0 rfl rfl kz_M_106 rfl ⟨Nat.le_of_ble_eq_true rfl, Nat.le_of_ble_eq_true rfl⟩ rfl (Nat.le_of_ble_eq_true rfl) ⟨Nat.zero_le _, Nat.zero_le _⟩ d_M_close_7 ?_
  refine lv_if_ne (tgt := 16) hx hb d_M_close_10 (by decide) (fun c_1 => ?_) (fun c_1 => ?_)
  · refine lv_aload_n hx hb d_M_close_16 rfl (lv_at hl 0 rfl) ?_
    refine lv_iload_n hx hb d_M_close_17 rfl (lv_at hl 1 rfl) ?_
    refine z_put (ty := .int) (ws' := wM a cI 0 t (nI k) (nI n) (nI c) Z P U V) E hK G i_M t_M t_M_ok n_M 0 1 rfl rfl (by decide) kf_M_72 rfl rfl rfl rfl (Nat.le_of_ble_eq_true rfl) rfl d_M_close_18 (fun H locs G => ?_)
    refine lv_iconst (v := 0) hx hb d_M_close_21 (by decide) ?_
    refine lv_istore_n (lv' := [(2, .int 0), (0, .ref (a 0)), (1, .int t)]) hx hb d_M_close_22 rfl hl (by decide) rfl (fun ls hl => ?_)
    refine lv_iconst (v := 0) hx hb d_M_close_23 (by decide) ?_
    refine lv_istore_n (lv' := [(3, .int 0), (2, .int 0), (0, .ref (a 0)), (1, .int t)]) hx hb d_M_close_24 rfl hl (by decide) rfl (fun ls hl => ?_)
    exact lp_M_close1 l D cI a k n c Z P V t hk hn hc E hrt hlk hN hK hA 80 0 0 U (by omega) _ (by unfold f_M_close; rw [if_neg c_1]) _ _ G ls (by rw [nI_0]; exact lv_sub hl [0, 1, 2, 3] rfl)
  · refine lv_bipush (v := (-2)) hx hb d_M_close_13 (by decide) ?_
    have hf : f_M_close nw k n c Z P U V t = ((-2), 0, nw, nI n, nI c, Z, P, U, V) := by unfold f_M_close; rw [if_pos c_1]
    exact zW.iret E hrt hlk G (by rw [hf]) (by rw [hf]) d_M_close_15
def f_M_unit_L (nw : Int32) (n : Nat) (c : Nat) (Z : Nat → Nat → Int32) (P : Nat → Nat → Int32) (U : Nat → Nat → Int32) (V : Nat → Nat → Int32) (u : Int32) (what : Int32) : Nat → Nat → Int32 → Int32 × Int32 × Int32 × Int32 × Int32 × (Nat → Nat → Int32) × (Nat → Nat → Int32) × (Nat → Nat → Int32) × (Nat → Nat → Int32)
  | 0, k0, x3 => (x3, 0, nw, nI n, nI c, Z, P, U, V)
  | d + 1, k0, x3 => (if (V 1 k0) = u then (if (V 2 k0) = 0 then (f_M_unit_L nw n c Z P U V u what d (k0 + 1) (x3 + 1)) else (f_M_unit_L nw n c Z P U V u what d (k0 + 1) (x3 + 0))) else (f_M_unit_L nw n c Z P U V u what d (k0 + 1) (x3 + 0)))
theorem f_M_unit_L_0 (nw : Int32) (n : Nat) (c : Nat) (Z : Nat → Nat → Int32) (P : Nat → Nat → Int32) (U : Nat → Nat → Int32) (V : Nat → Nat → Int32) (u : Int32) (what : Int32) (k0 : Nat) (x3 : Int32) : f_M_unit_L nw n c Z P U V u what 0 k0 x3 = (x3, 0, nw, nI n, nI c, Z, P, U, V) := rfl
theorem f_M_unit_L_s (nw : Int32) (n : Nat) (c : Nat) (Z : Nat → Nat → Int32) (P : Nat → Nat → Int32) (U : Nat → Nat → Int32) (V : Nat → Nat → Int32) (u : Int32) (what : Int32) (d k0 : Nat) (x3 : Int32) : f_M_unit_L nw n c Z P U V u what (d + 1) k0 x3 = (if (V 1 k0) = u then (if (V 2 k0) = 0 then (f_M_unit_L nw n c Z P U V u what d (k0 + 1) (x3 + 1)) else (f_M_unit_L nw n c Z P U V u what d (k0 + 1) (x3 + 0))) else (f_M_unit_L nw n c Z P U V u what d (k0 + 1) (x3 + 0))) := rfl
def f_M_unit (nw : Int32) (n : Nat) (c : Nat) (Z : Nat → Nat → Int32) (P : Nat → Nat → Int32) (U : Nat → Nat → Int32) (V : Nat → Nat → Int32) (u : Int32) (what : Int32) : Int32 × Int32 × Int32 × Int32 × Int32 × (Nat → Nat → Int32) × (Nat → Nat → Int32) × (Nat → Nat → Int32) × (Nat → Nat → Int32) := (if (f_M_isUnit u) = 0 then ((-1), 0, nw, nI n, nI c, Z, P, U, V) else (if (f_M_in what 0 4) = 0 then ((-1), 0, nw, nI n, nI c, Z, P, U, V) else (if 4 ≤ what then (f_M_unit_L nw n c Z P U V u what c 0 0) else (if what = 0 then (U 0 u.toNatClampNeg, 0, nw, nI n, nI c, Z, P, U, V) else (if what = 1 then (U 1 u.toNatClampNeg, 0, nw, nI n, nI c, Z, P, U, V) else (if what = 2 then (U 2 u.toNatClampNeg, 0, nw, nI n, nI c, Z, P, U, V) else (U 3 u.toNatClampNeg, 0, nw, nI n, nI c, Z, P, U, V)))))))
set_option maxHeartbeats 4000000 in
set_option maxRecDepth 100000 in
theorem lp_M_unit (l : Launch) (D : va_G) (cI : ClassId) (a : Nat → Nat) (nw : Int32) (k : Nat) (n : Nat) (c : Nat) (Z : Nat → Nat → Int32) (P : Nat → Nat → Int32) (U : Nat → Nat → Int32) (V : Nat → Nat → Int32) (u : Int32) (what : Int32) (hk : k ≤ 20) (hn : n ≤ 60) (hc : c ≤ 300) {p : Program} {e : Env} {s : State} {m : MethodId} {below : List Frame} {meth : Method} {c0 : Code} {A : Nat → Prop} (E : CallFix p m c0 b_M_unit 5 s ([.ref (a 0), .int u, .int what] : List Value).toArray zB y_M_unit.cls) (hrt : meth.sig.returnType = (some .int)) (hlk : meth.locks = false) (hN : zN s) (hK : va_K D vwCl [(cI, .int)] s) (hA : ∀ q, s.heap.size ≤ q → A q) :
    ∀ (d k0 : Nat) (x3 : Int32), k0 + d = c → ∀ X : Int32 × Int32 × Int32 × Int32 × Int32 × (Nat → Nat → Int32) × (Nat → Nat → Int32) × (Nat → Nat → Int32) × (Nat → Nat → Int32), f_M_unit_L nw n c Z P U V u what d k0 x3 = X → ∀ (H : Heap) (locs : List Loc), zG D A s H locs (wM a cI 0 nw (nI k) (nI n) (nI c) Z P U V) → ∀ ls : Array Slot, lv_has ls 5 [(4, .int (nI k0)), (3, .int x3), (0, .ref (a 0)), (1, .int u), (2, .int what)] → W p l e { frames := 2, cells := 0, slots := 0, locals := 42 } s m ([.ref (a 0), .int u, .int what] : List Value).toArray below meth c0 H locs 0 0 (MQ below (zQ D A (wM a cI X.2.1 X.2.2.1 (nI k) X.2.2.2.1 X.2.2.2.2.1 X.2.2.2.2.2.1 X.2.2.2.2.2.2.1 X.2.2.2.2.2.2.2.1 X.2.2.2.2.2.2.2.2) (some (.int X.1))) ([.ref (a 0), .int u, .int what] : List Value).toArray s 0 0 A) (F0 m 81 ls []) := by
  have hx := E.1
  have hb := E.2.1
  intro d
  induction d with
  | zero =>
    intro k0 x3 hkd X hr H locs G ls hl
    refine lv_iload hx hb d_M_unit_81 (lv_at hl 0 rfl) ?_
    refine lv_aload_n hx hb d_M_unit_83 rfl (lv_at hl 2 rfl) ?_
    refine z_get (v := .int (nI c)) E hK G.1 i_M 0 15 rfl rfl (by decide) kf_M_97 rfl d_M_unit_84 ?_
    refine lv_icmp_ge (tgt := 125) hx hb d_M_unit_87 (by decide) (fun c_1 => ?_) (fun c_1 => absurd (nI_le (by omega) (by omega)) c_1)
    refine lv_iload_n hx hb d_M_unit_125 rfl (lv_at hl 1 rfl) ?_
    have hf : X = (x3, 0, nw, nI n, nI c, Z, P, U, V) := by rw [← hr, f_M_unit_L_0]
    exact zW.iret E hrt hlk G (by rw [hf]) (by rw [hf]) d_M_unit_126
  | succ d ih =>
    intro k0 x3 hkd X hr H locs G ls hl
    refine lv_iload hx hb d_M_unit_81 (lv_at hl 0 rfl) ?_
    refine lv_aload_n hx hb d_M_unit_83 rfl (lv_at hl 2 rfl) ?_
    refine z_get (v := .int (nI c)) E hK G.1 i_M 0 15 rfl rfl (by decide) kf_M_97 rfl d_M_unit_84 ?_
    refine lv_icmp_ge (tgt := 125) hx hb d_M_unit_87 (by decide) (fun c_2 => absurd c_2 (nI_ge (by omega) (by omega))) (fun c_2 => ?_)
    refine lv_iload_n hx hb d_M_unit_90 rfl (lv_at hl 1 rfl) ?_
    refine lv_aload_n hx hb d_M_unit_91 rfl (lv_at hl 2 rfl) ?_
    refine z_get (v := .ref (a 13)) E hK G.1 i_M 0 17 rfl rfl (by decide) kf_M_46 rfl d_M_unit_92 ?_
    refine lv_iload hx hb d_M_unit_95 (lv_at hl 0 rfl) ?_
    refine z_aldN (f := V 1) (j := k0) E hK G.1 13 0 rfl rfl rfl (by omega) (by decide) d_M_unit_97 ?_
    refine lv_iload_n hx hb d_M_unit_98 rfl (lv_at hl 3 rfl) ?_
    refine lv_icmp_ne (tgt := 116) hx hb d_M_unit_99 (by decide) (fun c_3 => ?_) (fun c_3 => ?_)
    · refine lv_iconst (v := 0) hx hb d_M_unit_116 (by decide) ?_
      refine lv_iadd hx hb d_M_unit_117 ?_
      refine lv_istore_n (lv' := [(3, .int (x3 + 0)), (4, .int (nI k0)), (0, .ref (a 0)), (1, .int u), (2, .int what)]) hx hb d_M_unit_118 rfl hl (by decide) rfl (fun ls hl => ?_)
      refine lv_iinc (v := nI (k0 + 1)) (lv' := [(4, .int (nI (k0 + 1))), (3, .int (x3 + 0)), (0, .ref (a 0)), (1, .int u), (2, .int what)]) hx hb d_M_unit_119 hl (k := 1) rfl (nI_1 _) (by decide) rfl (fun ls hl => ?_)
      refine lv_goto (tgt := 81) hx hb d_M_unit_122 (by decide) ?_
      exact ih (k0 + 1) (x3 + 0) (by omega) X (by rw [← hr, f_M_unit_L_s, if_neg c_3]) H locs G ls (lv_sub hl [0, 1, 2, 3, 4] rfl)
    · refine lv_aload_n hx hb d_M_unit_102 rfl (lv_at hl 2 rfl) ?_
      refine z_get (v := .ref (a 14)) E hK G.1 i_M 0 18 rfl rfl (by decide) kf_M_49 rfl d_M_unit_103 ?_
      refine lv_iload hx hb d_M_unit_106 (lv_at hl 0 rfl) ?_
      refine z_aldN (f := V 2) (j := k0) E hK G.1 14 0 rfl rfl rfl (by omega) (by decide) d_M_unit_108 ?_
      refine lv_if_ne (tgt := 116) hx hb d_M_unit_109 (by decide) (fun c_4 => ?_) (fun c_4 => ?_)
      · refine lv_iconst (v := 0) hx hb d_M_unit_116 (by decide) ?_
        refine lv_iadd hx hb d_M_unit_117 ?_
        refine lv_istore_n (lv' := [(3, .int (x3 + 0)), (4, .int (nI k0)), (0, .ref (a 0)), (1, .int u), (2, .int what)]) hx hb d_M_unit_118 rfl hl (by decide) rfl (fun ls hl => ?_)
        refine lv_iinc (v := nI (k0 + 1)) (lv' := [(4, .int (nI (k0 + 1))), (3, .int (x3 + 0)), (0, .ref (a 0)), (1, .int u), (2, .int what)]) hx hb d_M_unit_119 hl (k := 1) rfl (nI_1 _) (by decide) rfl (fun ls hl => ?_)
        refine lv_goto (tgt := 81) hx hb d_M_unit_122 (by decide) ?_
        exact ih (k0 + 1) (x3 + 0) (by omega) X (by rw [← hr, f_M_unit_L_s, if_pos c_3, if_neg c_4]) H locs G ls (lv_sub hl [0, 1, 2, 3, 4] rfl)
      · refine lv_iconst (v := 1) hx hb d_M_unit_112 (by decide) ?_
        refine lv_goto (tgt := 117) hx hb d_M_unit_113 (by decide) ?_
        refine lv_iadd hx hb d_M_unit_117 ?_
        refine lv_istore_n (lv' := [(3, .int (x3 + 1)), (4, .int (nI k0)), (0, .ref (a 0)), (1, .int u), (2, .int what)]) hx hb d_M_unit_118 rfl hl (by decide) rfl (fun ls hl => ?_)
        refine lv_iinc (v := nI (k0 + 1)) (lv' := [(4, .int (nI (k0 + 1))), (3, .int (x3 + 1)), (0, .ref (a 0)), (1, .int u), (2, .int what)]) hx hb d_M_unit_119 hl (k := 1) rfl (nI_1 _) (by decide) rfl (fun ls hl => ?_)
        refine lv_goto (tgt := 81) hx hb d_M_unit_122 (by decide) ?_
        exact ih (k0 + 1) (x3 + 1) (by omega) X (by rw [← hr, f_M_unit_L_s, if_pos c_3, if_pos c_4]) H locs G ls (lv_sub hl [0, 1, 2, 3, 4] rfl)
set_option maxHeartbeats 4000000 in
set_option maxRecDepth 100000 in
theorem c_M_unit (l : Launch) (D : va_G) (cI : ClassId) (a : Nat → Nat) (th : Int32) (nw : Int32) (k : Nat) (n : Nat) (c : Nat) (Z : Nat → Nat → Int32) (P : Nat → Nat → Int32) (U : Nat → Nat → Int32) (V : Nat → Nat → Int32) (u : Int32) (what : Int32) (hk : k ≤ 20) (hn : n ≤ 60) (hc : c ≤ 300) : zW l D [(cI, .int)] y_M_unit b_M_unit 5 (some .int) 2 42 [.ref (a 0), .int u, .int what] (wM a cI th nw (nI k) (nI n) (nI c) Z P U V) (wM a cI ((f_M_unit nw n c Z P U V u what).2.1) ((f_M_unit nw n c Z P U V u what).2.2.1) (nI k) ((f_M_unit nw n c Z P U V u what).2.2.2.1) ((f_M_unit nw n c Z P U V u what).2.2.2.2.1) ((f_M_unit nw n c Z P U V u what).2.2.2.2.2.1) ((f_M_unit nw n c Z P U V u what).2.2.2.2.2.2.1) ((f_M_unit nw n c Z P U V u what).2.2.2.2.2.2.2.1) ((f_M_unit nw n c Z P U V u what).2.2.2.2.2.2.2.2)) (some (.int (f_M_unit nw n c Z P U V u what).1)) := by
  refine zW.of (by decide) (Nat.le_of_ble_eq_true rfl) ?_
  intro p e s m below meth c0 ls A E hrt hlk hN hK hA G hl
  have hx := E.1
  have hb := E.2.1
  have hl : lv_has ls 5 [(0, .ref (a 0)), (1, .int u), (2, .int what)] := hl
  refine lv_aload_n hx hb d_M_unit_0 rfl (lv_at hl 0 rfl) ?_
  refine lv_iconst (v := 0) hx hb d_M_unit_1 (by decide) ?_
  refine z_put (ty := .int) (ws' := wM a cI 0 nw (nI k) (nI n) (nI c) Z P U V) E hK G i_M t_M t_M_ok n_M 0 0 rfl rfl (by decide) kf_M_65 rfl rfl rfl rfl (Nat.le_of_ble_eq_true rfl) rfl d_M_unit_2 (fun H locs G => ?_)
  refine lv_iload_n hx hb d_M_unit_5 rfl (lv_at hl 1 rfl) ?_
  refine z_rs (As := [.int u]) (rest := []) E hN hK hl.1 (c_M_isUnit l D [(cI, .int)] u) kz_M_103 rfl ⟨Nat.le_of_ble_eq_true rfl, Nat.le_of_ble_eq_true rfl⟩ rfl (Nat.le_of_ble_eq_true rfl) ⟨Nat.zero_le _, Nat.zero_le _⟩ d_M_unit_6 ?_
  refine lv_if_eq (tgt := 21) hx hb d_M_unit_9 (by decide) (fun c_1 => ?_) (fun c_1 => ?_)
  · refine lv_iconst (v := (-1)) hx hb d_M_unit_21 (by decide) ?_
    have hf : f_M_unit nw n c Z P U V u what = ((-1), 0, nw, nI n, nI c, Z, P, U, V) := by unfold f_M_unit; rw [if_pos c_1]
    exact zW.iret E hrt hlk G (by rw [hf]) (by rw [hf]) d_M_unit_22
  · refine lv_iload_n hx hb d_M_unit_12 rfl (lv_at hl 2 rfl) ?_
    refine lv_iconst (v := 0) hx hb d_M_unit_13 (by decide) ?_
    refine lv_iconst (v := 4) hx hb d_M_unit_14 (by decide) ?_
    refine z_rs (As := [.int what, .int 0, .int 4]) (rest := []) E hN hK hl.1 (c_M_in l D [(cI, .int)] what 0 4) kz_M_68 rfl ⟨Nat.le_of_ble_eq_true rfl, Nat.le_of_ble_eq_true rfl⟩ rfl (Nat.le_of_ble_eq_true rfl) ⟨Nat.zero_le _, Nat.zero_le _⟩ d_M_unit_15 ?_
    refine lv_if_ne (tgt := 23) hx hb d_M_unit_18 (by decide) (fun c_2 => ?_) (fun c_2 => ?_)
    · refine lv_iload_n hx hb d_M_unit_23 rfl (lv_at hl 2 rfl) ?_
      refine lv_iconst (v := 4) hx hb d_M_unit_24 (by decide) ?_
      refine lv_icmp_ge (tgt := 76) hx hb d_M_unit_25 (by decide) (fun c_3 => ?_) (fun c_3 => ?_)
      · refine lv_iconst (v := 0) hx hb d_M_unit_76 (by decide) ?_
        refine lv_istore_n (lv' := [(3, .int 0), (0, .ref (a 0)), (1, .int u), (2, .int what)]) hx hb d_M_unit_77 rfl hl (by decide) rfl (fun ls hl => ?_)
        refine lv_iconst (v := 0) hx hb d_M_unit_78 (by decide) ?_
        refine lv_istore (lv' := [(4, .int 0), (3, .int 0), (0, .ref (a 0)), (1, .int u), (2, .int what)]) hx hb d_M_unit_79 hl (by decide) rfl (fun ls hl => ?_)
        exact lp_M_unit l D cI a nw k n c Z P U V u what hk hn hc E hrt hlk hN hK hA c 0 0 (by omega) _ (by unfold f_M_unit; rw [if_neg c_1, if_neg c_2, if_pos c_3]) _ _ G ls (by rw [nI_0]; exact lv_sub hl [0, 1, 2, 3, 4] rfl)
      · refine lv_iload_n hx hb d_M_unit_28 rfl (lv_at hl 2 rfl) ?_
        refine lv_if_ne (tgt := 41) hx hb d_M_unit_29 (by decide) (fun c_4 => ?_) (fun c_4 => ?_)
        · refine lv_iload_n hx hb d_M_unit_41 rfl (lv_at hl 2 rfl) ?_
          refine lv_iconst (v := 1) hx hb d_M_unit_42 (by decide) ?_
          refine lv_icmp_ne (tgt := 55) hx hb d_M_unit_43 (by decide) (fun c_5 => ?_) (fun c_5 => ?_)
          · refine lv_iload_n hx hb d_M_unit_55 rfl (lv_at hl 2 rfl) ?_
            refine lv_iconst (v := 2) hx hb d_M_unit_56 (by decide) ?_
            refine lv_icmp_ne (tgt := 69) hx hb d_M_unit_57 (by decide) (fun c_6 => ?_) (fun c_6 => ?_)
            · refine lv_aload_n hx hb d_M_unit_69 rfl (lv_at hl 0 rfl) ?_
              refine z_get (v := .ref (a 11)) E hK G.1 i_M 0 14 rfl rfl (by decide) kf_M_40 rfl d_M_unit_70 ?_
              refine lv_iload_n hx hb d_M_unit_73 rfl (lv_at hl 1 rfl) ?_
              refine z_ald (f := U 3) E hK G.1 11 0 rfl rfl (in_unitM c_1) d_M_unit_74 ?_
              have hf : f_M_unit nw n c Z P U V u what = (U 3 u.toNatClampNeg, 0, nw, nI n, nI c, Z, P, U, V) := by unfold f_M_unit; rw [if_neg c_1, if_neg c_2, if_neg c_3, if_neg c_4, if_neg c_5, if_neg c_6]
              exact zW.iret E hrt hlk G (by rw [hf]) (by rw [hf]) d_M_unit_75
            · refine lv_aload_n hx hb d_M_unit_60 rfl (lv_at hl 0 rfl) ?_
              refine z_get (v := .ref (a 10)) E hK G.1 i_M 0 13 rfl rfl (by decide) kf_M_37 rfl d_M_unit_61 ?_
              refine lv_iload_n hx hb d_M_unit_64 rfl (lv_at hl 1 rfl) ?_
              refine z_ald (f := U 2) E hK G.1 10 0 rfl rfl (in_unitM c_1) d_M_unit_65 ?_
              refine lv_goto (tgt := 75) hx hb d_M_unit_66 (by decide) ?_
              have hf : f_M_unit nw n c Z P U V u what = (U 2 u.toNatClampNeg, 0, nw, nI n, nI c, Z, P, U, V) := by unfold f_M_unit; rw [if_neg c_1, if_neg c_2, if_neg c_3, if_neg c_4, if_neg c_5, if_pos c_6]
              exact zW.iret E hrt hlk G (by rw [hf]) (by rw [hf]) d_M_unit_75
          · refine lv_aload_n hx hb d_M_unit_46 rfl (lv_at hl 0 rfl) ?_
            refine z_get (v := .ref (a 9)) E hK G.1 i_M 0 12 rfl rfl (by decide) kf_M_34 rfl d_M_unit_47 ?_
            refine lv_iload_n hx hb d_M_unit_50 rfl (lv_at hl 1 rfl) ?_
            refine z_ald (f := U 1) E hK G.1 9 0 rfl rfl (in_unitM c_1) d_M_unit_51 ?_
            refine lv_goto (tgt := 75) hx hb d_M_unit_52 (by decide) ?_
            have hf : f_M_unit nw n c Z P U V u what = (U 1 u.toNatClampNeg, 0, nw, nI n, nI c, Z, P, U, V) := by unfold f_M_unit; rw [if_neg c_1, if_neg c_2, if_neg c_3, if_neg c_4, if_pos c_5]
            exact zW.iret E hrt hlk G (by rw [hf]) (by rw [hf]) d_M_unit_75
        · refine lv_aload_n hx hb d_M_unit_32 rfl (lv_at hl 0 rfl) ?_
          refine z_get (v := .ref (a 8)) E hK G.1 i_M 0 11 rfl rfl (by decide) kf_M_31 rfl d_M_unit_33 ?_
          refine lv_iload_n hx hb d_M_unit_36 rfl (lv_at hl 1 rfl) ?_
          refine z_ald (f := U 0) E hK G.1 8 0 rfl rfl (in_unitM c_1) d_M_unit_37 ?_
          refine lv_goto (tgt := 75) hx hb d_M_unit_38 (by decide) ?_
          have hf : f_M_unit nw n c Z P U V u what = (U 0 u.toNatClampNeg, 0, nw, nI n, nI c, Z, P, U, V) := by unfold f_M_unit; rw [if_neg c_1, if_neg c_2, if_neg c_3, if_pos c_4]
          exact zW.iret E hrt hlk G (by rw [hf]) (by rw [hf]) d_M_unit_75
    · refine lv_iconst (v := (-1)) hx hb d_M_unit_21 (by decide) ?_
      have hf : f_M_unit nw n c Z P U V u what = ((-1), 0, nw, nI n, nI c, Z, P, U, V) := by unfold f_M_unit; rw [if_neg c_1, if_pos c_2]
      exact zW.iret E hrt hlk G (by rw [hf]) (by rw [hf]) d_M_unit_22
def f_M_person (nw : Int32) (k : Nat) (n : Nat) (c : Nat) (Z : Nat → Nat → Int32) (P : Nat → Nat → Int32) (U : Nat → Nat → Int32) (V : Nat → Nat → Int32) (pr : Int32) (what : Int32) : Int32 × Int32 × Int32 × Int32 × Int32 × (Nat → Nat → Int32) × (Nat → Nat → Int32) × (Nat → Nat → Int32) × (Nat → Nat → Int32) := (if (f_M_isPerson pr) = 0 then ((-1), 0, nw, nI n, nI c, Z, P, U, V) else (if what = 0 then (f_M_seatOf k Z pr, 0, nw, nI n, nI c, Z, P, U, V) else (if what = 1 then (f_M_waitOf n Z pr, 0, nw, nI n, nI c, Z, P, U, V) else (if what = 2 then (f_M_living c V pr, 0, nw, nI n, nI c, Z, P, U, V) else (if what = 3 then (f_M_has U V pr, 0, nw, nI n, nI c, Z, P, U, V) else (if what = 4 then (P 4 pr.toNatClampNeg, 0, nw, nI n, nI c, Z, P, U, V) else ((-1), 0, nw, nI n, nI c, Z, P, U, V)))))))
set_option maxHeartbeats 4000000 in
set_option maxRecDepth 100000 in
theorem c_M_person (l : Launch) (D : va_G) (cI : ClassId) (a : Nat → Nat) (th : Int32) (nw : Int32) (k : Nat) (n : Nat) (c : Nat) (Z : Nat → Nat → Int32) (P : Nat → Nat → Int32) (U : Nat → Nat → Int32) (V : Nat → Nat → Int32) (pr : Int32) (what : Int32) (hk : k ≤ 20) (hn : n ≤ 60) (hc : c ≤ 300) (hU : ∀ u, u < 80 → (U 0 u = 1 ∨ U 0 u = 2) → vp_in (U 3 u) 300) : zW l D [(cI, .int)] y_M_person b_M_person 3 (some .int) 2 44 [.ref (a 0), .int pr, .int what] (wM a cI th nw (nI k) (nI n) (nI c) Z P U V) (wM a cI ((f_M_person nw k n c Z P U V pr what).2.1) ((f_M_person nw k n c Z P U V pr what).2.2.1) (nI k) ((f_M_person nw k n c Z P U V pr what).2.2.2.1) ((f_M_person nw k n c Z P U V pr what).2.2.2.2.1) ((f_M_person nw k n c Z P U V pr what).2.2.2.2.2.1) ((f_M_person nw k n c Z P U V pr what).2.2.2.2.2.2.1) ((f_M_person nw k n c Z P U V pr what).2.2.2.2.2.2.2.1) ((f_M_person nw k n c Z P U V pr what).2.2.2.2.2.2.2.2)) (some (.int (f_M_person nw k n c Z P U V pr what).1)) := by
  refine zW.of (by decide) (Nat.le_of_ble_eq_true rfl) ?_
  intro p e s m below meth c0 ls A E hrt hlk hN hK hA G hl
  have hx := E.1
  have hb := E.2.1
  have hl : lv_has ls 3 [(0, .ref (a 0)), (1, .int pr), (2, .int what)] := hl
  refine lv_aload_n hx hb d_M_person_0 rfl (lv_at hl 0 rfl) ?_
  refine lv_iconst (v := 0) hx hb d_M_person_1 (by decide) ?_
  refine z_put (ty := .int) (ws' := wM a cI 0 nw (nI k) (nI n) (nI c) Z P U V) E hK G i_M t_M t_M_ok n_M 0 0 rfl rfl (by decide) kf_M_65 rfl rfl rfl rfl (Nat.le_of_ble_eq_true rfl) rfl d_M_person_2 (fun H locs G => ?_)
  refine lv_iload_n hx hb d_M_person_5 rfl (lv_at hl 1 rfl) ?_
  refine z_rs (As := [.int pr]) (rest := []) E hN hK hl.1 (c_M_isPerson l D [(cI, .int)] pr) kz_M_79 rfl ⟨Nat.le_of_ble_eq_true rfl, Nat.le_of_ble_eq_true rfl⟩ rfl (Nat.le_of_ble_eq_true rfl) ⟨Nat.zero_le _, Nat.zero_le _⟩ d_M_person_6 ?_
  refine lv_if_ne (tgt := 14) hx hb d_M_person_9 (by decide) (fun c_1 => ?_) (fun c_1 => ?_)
  · refine lv_iload_n hx hb d_M_person_14 rfl (lv_at hl 2 rfl) ?_
    rcases Classical.em (what = 0) with c_2 | c_2
    · refine lv_tableIn (tgt := 48) (off := 33) hx hb d_M_person_15 (by rw [c_2]; decide) (by rw [c_2]; decide) (by rw [c_2]; decide) (by decide) ?_
      refine lv_aload_n hx hb d_M_person_48 rfl (lv_at hl 0 rfl) ?_
      refine lv_iload_n hx hb d_M_person_49 rfl (lv_at hl 1 rfl) ?_
      refine z_rv (As := [.int pr]) (rest := []) E hN hK G.1 hl.1 (c_M_seatOf l D cI a 0 nw k n c Z P U V pr hk hn hc) [0, 1, 2, 3, 4, 5, 6, 7, 8, 9, 10, 11, 12, 13, 14, 15, 16, 17] rfl 0 rfl rfl kz_M_83 rfl ⟨Nat.le_of_ble_eq_true rfl, Nat.le_of_ble_eq_true rfl⟩ rfl (Nat.le_of_ble_eq_true rfl) ⟨Nat.zero_le _, Nat.zero_le _⟩ d_M_person_50 ?_
      have hf : f_M_person nw k n c Z P U V pr what = (f_M_seatOf k Z pr, 0, nw, nI n, nI c, Z, P, U, V) := by unfold f_M_person; rw [if_neg c_1, if_pos c_2]
      exact zW.iret E hrt hlk G (by rw [hf]) (by rw [hf]) d_M_person_53
    · rcases Classical.em (what = 1) with c_3 | c_3
      · refine lv_tableIn (tgt := 54) (off := 39) hx hb d_M_person_15 (by rw [c_3]; decide) (by rw [c_3]; decide) (by rw [c_3]; decide) (by decide) ?_
        refine lv_aload_n hx hb d_M_person_54 rfl (lv_at hl 0 rfl) ?_
        refine lv_iload_n hx hb d_M_person_55 rfl (lv_at hl 1 rfl) ?_
        refine z_rv (As := [.int pr]) (rest := []) E hN hK G.1 hl.1 (c_M_waitOf l D cI a 0 nw k n c Z P U V pr hk hn hc) [0, 1, 2, 3, 4, 5, 6, 7, 8, 9, 10, 11, 12, 13, 14, 15, 16, 17] rfl 0 rfl rfl kz_M_87 rfl ⟨Nat.le_of_ble_eq_true rfl, Nat.le_of_ble_eq_true rfl⟩ rfl (Nat.le_of_ble_eq_true rfl) ⟨Nat.zero_le _, Nat.zero_le _⟩ d_M_person_56 ?_
        have hf : f_M_person nw k n c Z P U V pr what = (f_M_waitOf n Z pr, 0, nw, nI n, nI c, Z, P, U, V) := by unfold f_M_person; rw [if_neg c_1, if_neg c_2, if_pos c_3]
        exact zW.iret E hrt hlk G (by rw [hf]) (by rw [hf]) d_M_person_59
      · rcases Classical.em (what = 2) with c_4 | c_4
        · refine lv_tableIn (tgt := 60) (off := 45) hx hb d_M_person_15 (by rw [c_4]; decide) (by rw [c_4]; decide) (by rw [c_4]; decide) (by decide) ?_
          refine lv_aload_n hx hb d_M_person_60 rfl (lv_at hl 0 rfl) ?_
          refine lv_iload_n hx hb d_M_person_61 rfl (lv_at hl 1 rfl) ?_
          refine z_rv (As := [.int pr]) (rest := []) E hN hK G.1 hl.1 (c_M_living l D cI a 0 nw k n c Z P U V pr hk hn hc) [0, 1, 2, 3, 4, 5, 6, 7, 8, 9, 10, 11, 12, 13, 14, 15, 16, 17] rfl 0 rfl rfl kz_M_109 rfl ⟨Nat.le_of_ble_eq_true rfl, Nat.le_of_ble_eq_true rfl⟩ rfl (Nat.le_of_ble_eq_true rfl) ⟨Nat.zero_le _, Nat.zero_le _⟩ d_M_person_62 ?_
          have hf : f_M_person nw k n c Z P U V pr what = (f_M_living c V pr, 0, nw, nI n, nI c, Z, P, U, V) := by unfold f_M_person; rw [if_neg c_1, if_neg c_2, if_neg c_3, if_pos c_4]
          exact zW.iret E hrt hlk G (by rw [hf]) (by rw [hf]) d_M_person_65
        · rcases Classical.em (what = 3) with c_5 | c_5
          · refine lv_tableIn (tgt := 66) (off := 51) hx hb d_M_person_15 (by rw [c_5]; decide) (by rw [c_5]; decide) (by rw [c_5]; decide) (by decide) ?_
            refine lv_aload_n hx hb d_M_person_66 rfl (lv_at hl 0 rfl) ?_
            refine lv_iload_n hx hb d_M_person_67 rfl (lv_at hl 1 rfl) ?_
            refine z_rv (As := [.int pr]) (rest := []) E hN hK G.1 hl.1 (c_M_has l D cI a 0 nw k n c Z P U V pr hk hn hc hU) [0, 1, 2, 3, 4, 5, 6, 7, 8, 9, 10, 11, 12, 13, 14, 15, 16, 17] rfl 0 rfl rfl kz_M_90 rfl ⟨Nat.le_of_ble_eq_true rfl, Nat.le_of_ble_eq_true rfl⟩ rfl (Nat.le_of_ble_eq_true rfl) ⟨Nat.zero_le _, Nat.zero_le _⟩ d_M_person_68 ?_
            have hf : f_M_person nw k n c Z P U V pr what = (f_M_has U V pr, 0, nw, nI n, nI c, Z, P, U, V) := by unfold f_M_person; rw [if_neg c_1, if_neg c_2, if_neg c_3, if_neg c_4, if_pos c_5]
            exact zW.iret E hrt hlk G (by rw [hf]) (by rw [hf]) d_M_person_71
          · rcases Classical.em (what = 4) with c_6 | c_6
            · refine lv_tableIn (tgt := 72) (off := 57) hx hb d_M_person_15 (by rw [c_6]; decide) (by rw [c_6]; decide) (by rw [c_6]; decide) (by decide) ?_
              refine lv_aload_n hx hb d_M_person_72 rfl (lv_at hl 0 rfl) ?_
              refine z_get (v := .ref (a 6)) E hK G.1 i_M 0 9 rfl rfl (by decide) kf_M_25 rfl d_M_person_73 ?_
              refine lv_iload_n hx hb d_M_person_76 rfl (lv_at hl 1 rfl) ?_
              refine z_ald (f := P 4) E hK G.1 6 0 rfl rfl (in_personM c_1) d_M_person_77 ?_
              have hf : f_M_person nw k n c Z P U V pr what = (P 4 pr.toNatClampNeg, 0, nw, nI n, nI c, Z, P, U, V) := by unfold f_M_person; rw [if_neg c_1, if_neg c_2, if_neg c_3, if_neg c_4, if_neg c_5, if_pos c_6]
              exact zW.iret E hrt hlk G (by rw [hf]) (by rw [hf]) d_M_person_78
            · refine lv_tableOut (tgt := 79) hx hb d_M_person_15 (sw_out5 c_2 c_3 c_4 c_5 c_6) (by decide) ?_
              refine lv_iconst (v := (-1)) hx hb d_M_person_79 (by decide) ?_
              have hf : f_M_person nw k n c Z P U V pr what = ((-1), 0, nw, nI n, nI c, Z, P, U, V) := by unfold f_M_person; rw [if_neg c_1, if_neg c_2, if_neg c_3, if_neg c_4, if_neg c_5, if_neg c_6]
              exact zW.iret E hrt hlk G (by rw [hf]) (by rw [hf]) d_M_person_80
  · refine lv_iconst (v := (-1)) hx hb d_M_person_12 (by decide) ?_
    have hf : f_M_person nw k n c Z P U V pr what = ((-1), 0, nw, nI n, nI c, Z, P, U, V) := by unfold f_M_person; rw [if_pos c_1]
    exact zW.iret E hrt hlk G (by rw [hf]) (by rw [hf]) d_M_person_13
def f_M_request (nw : Int32) (n : Nat) (c : Nat) (Z : Nat → Nat → Int32) (P : Nat → Nat → Int32) (U : Nat → Nat → Int32) (V : Nat → Nat → Int32) (i : Int32) (what : Int32) : Int32 × Int32 × Int32 × Int32 × Int32 × (Nat → Nat → Int32) × (Nat → Nat → Int32) × (Nat → Nat → Int32) × (Nat → Nat → Int32) := (if (f_M_in i 0 ((nI c) - 1)) = 0 then (0, 1, nw, nI n, nI c, Z, P, U, V) else (if (f_M_in what 0 5) = 0 then (0, 1, nw, nI n, nI c, Z, P, U, V) else (if what = 0 then (V 0 i.toNatClampNeg, 0, nw, nI n, nI c, Z, P, U, V) else (if what = 1 then (V 1 i.toNatClampNeg, 0, nw, nI n, nI c, Z, P, U, V) else (if what = 2 then (V 2 i.toNatClampNeg, 0, nw, nI n, nI c, Z, P, U, V) else (if what = 3 then (V 3 i.toNatClampNeg, 0, nw, nI n, nI c, Z, P, U, V) else (if what = 4 then (V 4 i.toNatClampNeg, 0, nw, nI n, nI c, Z, P, U, V) else (V 5 i.toNatClampNeg, 0, nw, nI n, nI c, Z, P, U, V))))))))
set_option maxHeartbeats 4000000 in
set_option maxRecDepth 100000 in
theorem c_M_request (l : Launch) (D : va_G) (cI : ClassId) (a : Nat → Nat) (th : Int32) (nw : Int32) (k : Nat) (n : Nat) (c : Nat) (Z : Nat → Nat → Int32) (P : Nat → Nat → Int32) (U : Nat → Nat → Int32) (V : Nat → Nat → Int32) (i : Int32) (what : Int32) (hk : k ≤ 20) (hn : n ≤ 60) (hc : c ≤ 300) : zW l D [(cI, .int)] y_M_request b_M_request 3 (some .int) 1 22 [.ref (a 0), .int i, .int what] (wM a cI th nw (nI k) (nI n) (nI c) Z P U V) (wM a cI ((f_M_request nw n c Z P U V i what).2.1) ((f_M_request nw n c Z P U V i what).2.2.1) (nI k) ((f_M_request nw n c Z P U V i what).2.2.2.1) ((f_M_request nw n c Z P U V i what).2.2.2.2.1) ((f_M_request nw n c Z P U V i what).2.2.2.2.2.1) ((f_M_request nw n c Z P U V i what).2.2.2.2.2.2.1) ((f_M_request nw n c Z P U V i what).2.2.2.2.2.2.2.1) ((f_M_request nw n c Z P U V i what).2.2.2.2.2.2.2.2)) (some (.int (f_M_request nw n c Z P U V i what).1)) := by
  refine zW.of (by decide) (Nat.le_of_ble_eq_true rfl) ?_
  intro p e s m below meth c0 ls A E hrt hlk hN hK hA G hl
  have hx := E.1
  have hb := E.2.1
  have hl : lv_has ls 3 [(0, .ref (a 0)), (1, .int i), (2, .int what)] := hl
  refine lv_aload_n hx hb d_M_request_0 rfl (lv_at hl 0 rfl) ?_
  refine lv_iload_n hx hb d_M_request_1 rfl (lv_at hl 1 rfl) ?_
  refine lv_iconst (v := 0) hx hb d_M_request_2 (by decide) ?_
  refine lv_aload_n hx hb d_M_request_3 rfl (lv_at hl 0 rfl) ?_
  refine z_get (v := .int (nI c)) E hK G.1 i_M 0 15 rfl rfl (by decide) kf_M_97 rfl d_M_request_4 ?_
  refine lv_iconst (v := 1) hx hb d_M_request_7 (by decide) ?_
  refine lv_isub hx hb d_M_request_8 ?_
  refine z_rs (As := [.int i, .int 0, .int ((nI c) - 1)]) (rest := [.ref (a 0)]) E hN hK hl.1 (c_M_in l D [(cI, .int)] i 0 ((nI c) - 1)) kz_M_68 rfl ⟨Nat.le_of_ble_eq_true rfl, Nat.le_of_ble_eq_true rfl⟩ rfl (Nat.le_of_ble_eq_true rfl) ⟨Nat.zero_le _, Nat.zero_le _⟩ d_M_request_9 ?_
  refine lv_if_eq (tgt := 24) hx hb d_M_request_12 (by decide) (fun c_1 => ?_) (fun c_1 => ?_)
  · refine lv_iconst (v := 1) hx hb d_M_request_24 (by decide) ?_
    refine lv_goto (tgt := 29) hx hb d_M_request_25 (by decide) ?_
    refine z_put (ty := .int) (ws' := wM a cI 1 nw (nI k) (nI n) (nI c) Z P U V) E hK G i_M t_M t_M_ok n_M 0 0 rfl rfl (by decide) kf_M_65 rfl rfl rfl rfl (Nat.le_of_ble_eq_true rfl) rfl d_M_request_29 (fun H locs G => ?_)
    refine lv_aload_n hx hb d_M_request_32 rfl (lv_at hl 0 rfl) ?_
    refine z_get (v := .int 1) E hK G.1 i_M 0 0 rfl rfl (by decide) kf_M_65 rfl d_M_request_33 ?_
    refine lv_if_le (tgt := 41) hx hb d_M_request_36 (by decide) (fun c_2 => absurd c_2 (by decide)) (fun c_2 => ?_)
    refine lv_iconst (v := 0) hx hb d_M_request_39 (by decide) ?_
    have hf : f_M_request nw n c Z P U V i what = (0, 1, nw, nI n, nI c, Z, P, U, V) := by unfold f_M_request; rw [if_pos c_1]
    exact zW.iret E hrt hlk G (by rw [hf]) (by rw [hf]) d_M_request_40
  · refine lv_iload_n hx hb d_M_request_15 rfl (lv_at hl 2 rfl) ?_
    refine lv_iconst (v := 0) hx hb d_M_request_16 (by decide) ?_
    refine lv_iconst (v := 5) hx hb d_M_request_17 (by decide) ?_
    refine z_rs (As := [.int what, .int 0, .int 5]) (rest := [.ref (a 0)]) E hN hK hl.1 (c_M_in l D [(cI, .int)] what 0 5) kz_M_68 rfl ⟨Nat.le_of_ble_eq_true rfl, Nat.le_of_ble_eq_true rfl⟩ rfl (Nat.le_of_ble_eq_true rfl) ⟨Nat.zero_le _, Nat.zero_le _⟩ d_M_request_18 ?_
    refine lv_if_ne (tgt := 28) hx hb d_M_request_21 (by decide) (fun c_3 => ?_) (fun c_3 => ?_)
    · refine lv_iconst (v := 0) hx hb d_M_request_28 (by decide) ?_
      refine z_put (ty := .int) (ws' := wM a cI 0 nw (nI k) (nI n) (nI c) Z P U V) E hK G i_M t_M t_M_ok n_M 0 0 rfl rfl (by decide) kf_M_65 rfl rfl rfl rfl (Nat.le_of_ble_eq_true rfl) rfl d_M_request_29 (fun H locs G => ?_)
      refine lv_aload_n hx hb d_M_request_32 rfl (lv_at hl 0 rfl) ?_
      refine z_get (v := .int 0) E hK G.1 i_M 0 0 rfl rfl (by decide) kf_M_65 rfl d_M_request_33 ?_
      refine lv_if_le (tgt := 41) hx hb d_M_request_36 (by decide) (fun c_4 => ?_) (fun c_4 => absurd (by decide) c_4)
      refine lv_iload_n hx hb d_M_request_41 rfl (lv_at hl 2 rfl) ?_
      refine lv_if_ne (tgt := 54) hx hb d_M_request_42 (by decide) (fun c_5 => ?_) (fun c_5 => ?_)
      · refine lv_iload_n hx hb d_M_request_54 rfl (lv_at hl 2 rfl) ?_
        refine lv_iconst (v := 1) hx hb d_M_request_55 (by decide) ?_
        refine lv_icmp_ne (tgt := 68) hx hb d_M_request_56 (by decide) (fun c_6 => ?_) (fun c_6 => ?_)
        · refine lv_iload_n hx hb d_M_request_68 rfl (lv_at hl 2 rfl) ?_
          refine lv_iconst (v := 2) hx hb d_M_request_69 (by decide) ?_
          refine lv_icmp_ne (tgt := 82) hx hb d_M_request_70 (by decide) (fun c_7 => ?_) (fun c_7 => ?_)
          · refine lv_iload_n hx hb d_M_request_82 rfl (lv_at hl 2 rfl) ?_
            refine lv_iconst (v := 3) hx hb d_M_request_83 (by decide) ?_
            refine lv_icmp_ne (tgt := 96) hx hb d_M_request_84 (by decide) (fun c_8 => ?_) (fun c_8 => ?_)
            · refine lv_iload_n hx hb d_M_request_96 rfl (lv_at hl 2 rfl) ?_
              refine lv_iconst (v := 4) hx hb d_M_request_97 (by decide) ?_
              refine lv_icmp_ne (tgt := 110) hx hb d_M_request_98 (by decide) (fun c_9 => ?_) (fun c_9 => ?_)
              · refine lv_aload_n hx hb d_M_request_110 rfl (lv_at hl 0 rfl) ?_
                refine z_get (v := .ref (a 17)) E hK G.1 i_M 0 21 rfl rfl (by decide) kf_M_58 rfl d_M_request_111 ?_
                refine lv_iload_n hx hb d_M_request_114 rfl (lv_at hl 1 rfl) ?_
                refine z_ald (f := V 5) E hK G.1 17 0 rfl rfl (in_hasM hc c_1) d_M_request_115 ?_
                have hf : f_M_request nw n c Z P U V i what = (V 5 i.toNatClampNeg, 0, nw, nI n, nI c, Z, P, U, V) := by unfold f_M_request; rw [if_neg c_1, if_neg c_3, if_neg c_5, if_neg c_6, if_neg c_7, if_neg c_8, if_neg c_9]
                exact zW.iret E hrt hlk G (by rw [hf]) (by rw [hf]) d_M_request_116
              · refine lv_aload_n hx hb d_M_request_101 rfl (lv_at hl 0 rfl) ?_
                refine z_get (v := .ref (a 16)) E hK G.1 i_M 0 20 rfl rfl (by decide) kf_M_55 rfl d_M_request_102 ?_
                refine lv_iload_n hx hb d_M_request_105 rfl (lv_at hl 1 rfl) ?_
                refine z_ald (f := V 4) E hK G.1 16 0 rfl rfl (in_hasM hc c_1) d_M_request_106 ?_
                refine lv_goto (tgt := 116) hx hb d_M_request_107 (by decide) ?_
                have hf : f_M_request nw n c Z P U V i what = (V 4 i.toNatClampNeg, 0, nw, nI n, nI c, Z, P, U, V) := by unfold f_M_request; rw [if_neg c_1, if_neg c_3, if_neg c_5, if_neg c_6, if_neg c_7, if_neg c_8, if_pos c_9]
                exact zW.iret E hrt hlk G (by rw [hf]) (by rw [hf]) d_M_request_116
            · refine lv_aload_n hx hb d_M_request_87 rfl (lv_at hl 0 rfl) ?_
              refine z_get (v := .ref (a 15)) E hK G.1 i_M 0 19 rfl rfl (by decide) kf_M_52 rfl d_M_request_88 ?_
              refine lv_iload_n hx hb d_M_request_91 rfl (lv_at hl 1 rfl) ?_
              refine z_ald (f := V 3) E hK G.1 15 0 rfl rfl (in_hasM hc c_1) d_M_request_92 ?_
              refine lv_goto (tgt := 116) hx hb d_M_request_93 (by decide) ?_
              have hf : f_M_request nw n c Z P U V i what = (V 3 i.toNatClampNeg, 0, nw, nI n, nI c, Z, P, U, V) := by unfold f_M_request; rw [if_neg c_1, if_neg c_3, if_neg c_5, if_neg c_6, if_neg c_7, if_pos c_8]
              exact zW.iret E hrt hlk G (by rw [hf]) (by rw [hf]) d_M_request_116
          · refine lv_aload_n hx hb d_M_request_73 rfl (lv_at hl 0 rfl) ?_
            refine z_get (v := .ref (a 14)) E hK G.1 i_M 0 18 rfl rfl (by decide) kf_M_49 rfl d_M_request_74 ?_
            refine lv_iload_n hx hb d_M_request_77 rfl (lv_at hl 1 rfl) ?_
            refine z_ald (f := V 2) E hK G.1 14 0 rfl rfl (in_hasM hc c_1) d_M_request_78 ?_
            refine lv_goto (tgt := 116) hx hb d_M_request_79 (by decide) ?_
            have hf : f_M_request nw n c Z P U V i what = (V 2 i.toNatClampNeg, 0, nw, nI n, nI c, Z, P, U, V) := by unfold f_M_request; rw [if_neg c_1, if_neg c_3, if_neg c_5, if_neg c_6, if_pos c_7]
            exact zW.iret E hrt hlk G (by rw [hf]) (by rw [hf]) d_M_request_116
        · refine lv_aload_n hx hb d_M_request_59 rfl (lv_at hl 0 rfl) ?_
          refine z_get (v := .ref (a 13)) E hK G.1 i_M 0 17 rfl rfl (by decide) kf_M_46 rfl d_M_request_60 ?_
          refine lv_iload_n hx hb d_M_request_63 rfl (lv_at hl 1 rfl) ?_
          refine z_ald (f := V 1) E hK G.1 13 0 rfl rfl (in_hasM hc c_1) d_M_request_64 ?_
          refine lv_goto (tgt := 116) hx hb d_M_request_65 (by decide) ?_
          have hf : f_M_request nw n c Z P U V i what = (V 1 i.toNatClampNeg, 0, nw, nI n, nI c, Z, P, U, V) := by unfold f_M_request; rw [if_neg c_1, if_neg c_3, if_neg c_5, if_pos c_6]
          exact zW.iret E hrt hlk G (by rw [hf]) (by rw [hf]) d_M_request_116
      · refine lv_aload_n hx hb d_M_request_45 rfl (lv_at hl 0 rfl) ?_
        refine z_get (v := .ref (a 12)) E hK G.1 i_M 0 16 rfl rfl (by decide) kf_M_43 rfl d_M_request_46 ?_
        refine lv_iload_n hx hb d_M_request_49 rfl (lv_at hl 1 rfl) ?_
        refine z_ald (f := V 0) E hK G.1 12 0 rfl rfl (in_hasM hc c_1) d_M_request_50 ?_
        refine lv_goto (tgt := 116) hx hb d_M_request_51 (by decide) ?_
        have hf : f_M_request nw n c Z P U V i what = (V 0 i.toNatClampNeg, 0, nw, nI n, nI c, Z, P, U, V) := by unfold f_M_request; rw [if_neg c_1, if_neg c_3, if_pos c_5]
        exact zW.iret E hrt hlk G (by rw [hf]) (by rw [hf]) d_M_request_116
    · refine lv_iconst (v := 1) hx hb d_M_request_24 (by decide) ?_
      refine lv_goto (tgt := 29) hx hb d_M_request_25 (by decide) ?_
      refine z_put (ty := .int) (ws' := wM a cI 1 nw (nI k) (nI n) (nI c) Z P U V) E hK G i_M t_M t_M_ok n_M 0 0 rfl rfl (by decide) kf_M_65 rfl rfl rfl rfl (Nat.le_of_ble_eq_true rfl) rfl d_M_request_29 (fun H locs G => ?_)
      refine lv_aload_n hx hb d_M_request_32 rfl (lv_at hl 0 rfl) ?_
      refine z_get (v := .int 1) E hK G.1 i_M 0 0 rfl rfl (by decide) kf_M_65 rfl d_M_request_33 ?_
      refine lv_if_le (tgt := 41) hx hb d_M_request_36 (by decide) (fun c_10 => absurd c_10 (by decide)) (fun c_10 => ?_)
      refine lv_iconst (v := 0) hx hb d_M_request_39 (by decide) ?_
      have hf : f_M_request nw n c Z P U V i what = (0, 1, nw, nI n, nI c, Z, P, U, V) := by unfold f_M_request; rw [if_neg c_1, if_pos c_3]
      exact zW.iret E hrt hlk G (by rw [hf]) (by rw [hf]) d_M_request_40
def f_M_waits_L (nw : Int32) (n : Nat) (c : Nat) (Z : Nat → Nat → Int32) (P : Nat → Nat → Int32) (U : Nat → Nat → Int32) (V : Nat → Nat → Int32) (u : Int32) (i : Int32) : Nat → Nat → Int32 → Int32 × Int32 × Int32 × Int32 × Int32 × (Nat → Nat → Int32) × (Nat → Nat → Int32) × (Nat → Nat → Int32) × (Nat → Nat → Int32)
  | 0, k0, x3 => (0, 1, nw, nI n, nI c, Z, P, U, V)
  | d + 1, k0, x3 => (if (V 1 k0) = u then (if (V 2 k0) = 0 then (if x3 = 0 then (nI k0, 0, nw, nI n, nI c, Z, P, U, V) else (f_M_waits_L nw n c Z P U V u i d (k0 + 1) (x3 + (-1)))) else (f_M_waits_L nw n c Z P U V u i d (k0 + 1) x3)) else (f_M_waits_L nw n c Z P U V u i d (k0 + 1) x3))
theorem f_M_waits_L_0 (nw : Int32) (n : Nat) (c : Nat) (Z : Nat → Nat → Int32) (P : Nat → Nat → Int32) (U : Nat → Nat → Int32) (V : Nat → Nat → Int32) (u : Int32) (i : Int32) (k0 : Nat) (x3 : Int32) : f_M_waits_L nw n c Z P U V u i 0 k0 x3 = (0, 1, nw, nI n, nI c, Z, P, U, V) := rfl
theorem f_M_waits_L_s (nw : Int32) (n : Nat) (c : Nat) (Z : Nat → Nat → Int32) (P : Nat → Nat → Int32) (U : Nat → Nat → Int32) (V : Nat → Nat → Int32) (u : Int32) (i : Int32) (d k0 : Nat) (x3 : Int32) : f_M_waits_L nw n c Z P U V u i (d + 1) k0 x3 = (if (V 1 k0) = u then (if (V 2 k0) = 0 then (if x3 = 0 then (nI k0, 0, nw, nI n, nI c, Z, P, U, V) else (f_M_waits_L nw n c Z P U V u i d (k0 + 1) (x3 + (-1)))) else (f_M_waits_L nw n c Z P U V u i d (k0 + 1) x3)) else (f_M_waits_L nw n c Z P U V u i d (k0 + 1) x3)) := rfl
def f_M_waits (nw : Int32) (n : Nat) (c : Nat) (Z : Nat → Nat → Int32) (P : Nat → Nat → Int32) (U : Nat → Nat → Int32) (V : Nat → Nat → Int32) (u : Int32) (i : Int32) : Int32 × Int32 × Int32 × Int32 × Int32 × (Nat → Nat → Int32) × (Nat → Nat → Int32) × (Nat → Nat → Int32) × (Nat → Nat → Int32) := (f_M_waits_L nw n c Z P U V u i c 0 i)
set_option maxHeartbeats 4000000 in
set_option maxRecDepth 100000 in
theorem lp_M_waits (l : Launch) (D : va_G) (cI : ClassId) (a : Nat → Nat) (th : Int32) (nw : Int32) (k : Nat) (n : Nat) (c : Nat) (Z : Nat → Nat → Int32) (P : Nat → Nat → Int32) (U : Nat → Nat → Int32) (V : Nat → Nat → Int32) (u : Int32) (i : Int32) (hk : k ≤ 20) (hn : n ≤ 60) (hc : c ≤ 300) {p : Program} {e : Env} {s : State} {m : MethodId} {below : List Frame} {meth : Method} {c0 : Code} {A : Nat → Prop} (E : CallFix p m c0 b_M_waits 5 s ([.ref (a 0), .int u, .int i] : List Value).toArray zB y_M_waits.cls) (hrt : meth.sig.returnType = (some .int)) (hlk : meth.locks = false) (hN : zN s) (hK : va_K D vwCl [(cI, .int)] s) (hA : ∀ q, s.heap.size ≤ q → A q) :
    ∀ (d k0 : Nat) (x3 : Int32), k0 + d = c → ∀ X : Int32 × Int32 × Int32 × Int32 × Int32 × (Nat → Nat → Int32) × (Nat → Nat → Int32) × (Nat → Nat → Int32) × (Nat → Nat → Int32), f_M_waits_L nw n c Z P U V u i d k0 x3 = X → ∀ (H : Heap) (locs : List Loc), zG D A s H locs (wM a cI th nw (nI k) (nI n) (nI c) Z P U V) → ∀ ls : Array Slot, lv_has ls 5 [(4, .int (nI k0)), (3, .int x3), (0, .ref (a 0)), (1, .int u), (2, .int i)] → W p l e { frames := 0, cells := 0, slots := 0, locals := 0 } s m ([.ref (a 0), .int u, .int i] : List Value).toArray below meth c0 H locs 0 0 (MQ below (zQ D A (wM a cI X.2.1 X.2.2.1 (nI k) X.2.2.2.1 X.2.2.2.2.1 X.2.2.2.2.2.1 X.2.2.2.2.2.2.1 X.2.2.2.2.2.2.2.1 X.2.2.2.2.2.2.2.2) (some (.int X.1))) ([.ref (a 0), .int u, .int i] : List Value).toArray s 0 0 A) (F0 m 5 ls []) := by
  have hx := E.1
  have hb := E.2.1
  intro d
  induction d with
  | zero =>
    intro k0 x3 hkd X hr H locs G ls hl
    refine lv_iload hx hb d_M_waits_5 (lv_at hl 0 rfl) ?_
    refine lv_aload_n hx hb d_M_waits_7 rfl (lv_at hl 2 rfl) ?_
    refine z_get (v := .int (nI c)) E hK G.1 i_M 0 15 rfl rfl (by decide) kf_M_97 rfl d_M_waits_8 ?_
    refine lv_icmp_ge (tgt := 59) hx hb d_M_waits_11 (by decide) (fun c_1 => ?_) (fun c_1 => absurd (nI_le (by omega) (by omega)) c_1)
    refine lv_aload_n hx hb d_M_waits_59 rfl (lv_at hl 2 rfl) ?_
    refine lv_iconst (v := 1) hx hb d_M_waits_60 (by decide) ?_
    refine z_put (ty := .int) (ws' := wM a cI 1 nw (nI k) (nI n) (nI c) Z P U V) E hK G i_M t_M t_M_ok n_M 0 0 rfl rfl (by decide) kf_M_65 rfl rfl rfl rfl (Nat.le_of_ble_eq_true rfl) rfl d_M_waits_61 (fun H locs G => ?_)
    refine lv_iconst (v := 0) hx hb d_M_waits_64 (by decide) ?_
    have hf : X = (0, 1, nw, nI n, nI c, Z, P, U, V) := by rw [← hr, f_M_waits_L_0]
    exact zW.iret E hrt hlk G (by rw [hf]) (by rw [hf]) d_M_waits_65
  | succ d ih =>
    intro k0 x3 hkd X hr H locs G ls hl
    refine lv_iload hx hb d_M_waits_5 (lv_at hl 0 rfl) ?_
    refine lv_aload_n hx hb d_M_waits_7 rfl (lv_at hl 2 rfl) ?_
    refine z_get (v := .int (nI c)) E hK G.1 i_M 0 15 rfl rfl (by decide) kf_M_97 rfl d_M_waits_8 ?_
    refine lv_icmp_ge (tgt := 59) hx hb d_M_waits_11 (by decide) (fun c_2 => absurd c_2 (nI_ge (by omega) (by omega))) (fun c_2 => ?_)
    refine lv_aload_n hx hb d_M_waits_14 rfl (lv_at hl 2 rfl) ?_
    refine z_get (v := .ref (a 13)) E hK G.1 i_M 0 17 rfl rfl (by decide) kf_M_46 rfl d_M_waits_15 ?_
    refine lv_iload hx hb d_M_waits_18 (lv_at hl 0 rfl) ?_
    refine z_aldN (f := V 1) (j := k0) E hK G.1 13 0 rfl rfl rfl (by omega) (by decide) d_M_waits_20 ?_
    refine lv_iload_n hx hb d_M_waits_21 rfl (lv_at hl 3 rfl) ?_
    refine lv_icmp_ne (tgt := 53) hx hb d_M_waits_22 (by decide) (fun c_3 => ?_) (fun c_3 => ?_)
    · refine lv_iinc (v := nI (k0 + 1)) (lv' := [(4, .int (nI (k0 + 1))), (3, .int x3), (0, .ref (a 0)), (1, .int u), (2, .int i)]) hx hb d_M_waits_53 hl (k := 0) rfl (nI_1 _) (by decide) rfl (fun ls hl => ?_)
      refine lv_goto (tgt := 5) hx hb d_M_waits_56 (by decide) ?_
      exact ih (k0 + 1) x3 (by omega) X (by rw [← hr, f_M_waits_L_s, if_neg c_3]) H locs G ls (lv_sub hl [0, 1, 2, 3, 4] rfl)
    · refine lv_aload_n hx hb d_M_waits_25 rfl (lv_at hl 2 rfl) ?_
      refine z_get (v := .ref (a 14)) E hK G.1 i_M 0 18 rfl rfl (by decide) kf_M_49 rfl d_M_waits_26 ?_
      refine lv_iload hx hb d_M_waits_29 (lv_at hl 0 rfl) ?_
      refine z_aldN (f := V 2) (j := k0) E hK G.1 14 0 rfl rfl rfl (by omega) (by decide) d_M_waits_31 ?_
      refine lv_if_eq (tgt := 38) hx hb d_M_waits_32 (by decide) (fun c_4 => ?_) (fun c_4 => ?_)
      · refine lv_iload_n hx hb d_M_waits_38 rfl (lv_at hl 1 rfl) ?_
        refine lv_if_ne (tgt := 50) hx hb d_M_waits_39 (by decide) (fun c_5 => ?_) (fun c_5 => ?_)
        · refine lv_iinc (v := x3 + (-1)) (lv' := [(3, .int (x3 + (-1))), (4, .int (nI k0)), (0, .ref (a 0)), (1, .int u), (2, .int i)]) hx hb d_M_waits_50 hl (k := 1) rfl rfl (by decide) rfl (fun ls hl => ?_)
          refine lv_iinc (v := nI (k0 + 1)) (lv' := [(4, .int (nI (k0 + 1))), (3, .int (x3 + (-1))), (0, .ref (a 0)), (1, .int u), (2, .int i)]) hx hb d_M_waits_53 hl (k := 1) rfl (nI_1 _) (by decide) rfl (fun ls hl => ?_)
          refine lv_goto (tgt := 5) hx hb d_M_waits_56 (by decide) ?_
          exact ih (k0 + 1) (x3 + (-1)) (by omega) X (by rw [← hr, f_M_waits_L_s, if_pos c_3, if_pos c_4, if_neg c_5]) H locs G ls (lv_sub hl [0, 1, 2, 3, 4] rfl)
        · refine lv_aload_n hx hb d_M_waits_42 rfl (lv_at hl 2 rfl) ?_
          refine lv_iconst (v := 0) hx hb d_M_waits_43 (by decide) ?_
          refine z_put (ty := .int) (ws' := wM a cI 0 nw (nI k) (nI n) (nI c) Z P U V) E hK G i_M t_M t_M_ok n_M 0 0 rfl rfl (by decide) kf_M_65 rfl rfl rfl rfl (Nat.le_of_ble_eq_true rfl) rfl d_M_waits_44 (fun H locs G => ?_)
          refine lv_iload hx hb d_M_waits_47 (lv_at hl 0 rfl) ?_
          have hf : X = (nI k0, 0, nw, nI n, nI c, Z, P, U, V) := by rw [← hr, f_M_waits_L_s, if_pos c_3, if_pos c_4, if_pos c_5]
          exact zW.iret E hrt hlk G (by rw [hf]) (by rw [hf]) d_M_waits_49
      · refine lv_goto (tgt := 53) hx hb d_M_waits_35 (by decide) ?_
        refine lv_iinc (v := nI (k0 + 1)) (lv' := [(4, .int (nI (k0 + 1))), (3, .int x3), (0, .ref (a 0)), (1, .int u), (2, .int i)]) hx hb d_M_waits_53 hl (k := 0) rfl (nI_1 _) (by decide) rfl (fun ls hl => ?_)
        refine lv_goto (tgt := 5) hx hb d_M_waits_56 (by decide) ?_
        exact ih (k0 + 1) x3 (by omega) X (by rw [← hr, f_M_waits_L_s, if_pos c_3, if_neg c_4]) H locs G ls (lv_sub hl [0, 1, 2, 3, 4] rfl)
set_option maxHeartbeats 4000000 in
set_option maxRecDepth 100000 in
theorem c_M_waits (l : Launch) (D : va_G) (cI : ClassId) (a : Nat → Nat) (th : Int32) (nw : Int32) (k : Nat) (n : Nat) (c : Nat) (Z : Nat → Nat → Int32) (P : Nat → Nat → Int32) (U : Nat → Nat → Int32) (V : Nat → Nat → Int32) (u : Int32) (i : Int32) (hk : k ≤ 20) (hn : n ≤ 60) (hc : c ≤ 300) : zW l D [(cI, .int)] y_M_waits b_M_waits 5 (some .int) 0 0 [.ref (a 0), .int u, .int i] (wM a cI th nw (nI k) (nI n) (nI c) Z P U V) (wM a cI ((f_M_waits nw n c Z P U V u i).2.1) ((f_M_waits nw n c Z P U V u i).2.2.1) (nI k) ((f_M_waits nw n c Z P U V u i).2.2.2.1) ((f_M_waits nw n c Z P U V u i).2.2.2.2.1) ((f_M_waits nw n c Z P U V u i).2.2.2.2.2.1) ((f_M_waits nw n c Z P U V u i).2.2.2.2.2.2.1) ((f_M_waits nw n c Z P U V u i).2.2.2.2.2.2.2.1) ((f_M_waits nw n c Z P U V u i).2.2.2.2.2.2.2.2)) (some (.int (f_M_waits nw n c Z P U V u i).1)) := by
  refine zW.of (by decide) (Nat.le_of_ble_eq_true rfl) ?_
  intro p e s m below meth c0 ls A E hrt hlk hN hK hA G hl
  have hx := E.1
  have hb := E.2.1
  have hl : lv_has ls 5 [(0, .ref (a 0)), (1, .int u), (2, .int i)] := hl
  refine lv_iload_n hx hb d_M_waits_0 rfl (lv_at hl 2 rfl) ?_
  refine lv_istore_n (lv' := [(3, .int i), (0, .ref (a 0)), (1, .int u), (2, .int i)]) hx hb d_M_waits_1 rfl hl (by decide) rfl (fun ls hl => ?_)
  refine lv_iconst (v := 0) hx hb d_M_waits_2 (by decide) ?_
  refine lv_istore (lv' := [(4, .int 0), (3, .int i), (0, .ref (a 0)), (1, .int u), (2, .int i)]) hx hb d_M_waits_3 hl (by decide) rfl (fun ls hl => ?_)
  exact lp_M_waits l D cI a th nw k n c Z P U V u i hk hn hc E hrt hlk hN hK hA c 0 i (by omega) _ (by rfl) _ _ G ls (by rw [nI_0]; exact lv_sub hl [0, 1, 2, 3, 4] rfl)
end
