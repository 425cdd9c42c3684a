/-! OWN NAMES, by program (wip/whole/gen/names.py): classes, fields, methods; the good words of the tables, by their places -/
/-- the good words of the tables -/
def GW : List Cond := lw_tbl.filter goodWord
theorem GW_mem {w : Cond} (h : w ∈ lw_tbl) (g : goodWord w = true) : w ∈ GW := List.mem_filter.mpr ⟨h, g⟩
theorem GW_tbl {w : Cond} (h : w ∈ GW) : w ∈ lw_tbl := (List.mem_filter.mp h).1
theorem GW_good {w : Cond} (h : w ∈ GW) : goodWord w = true := (List.mem_filter.mp h).2
/-- a method's words: its code, and all the good words -/
abbrev WSY (y : MethodName) (b : ByteArray) (n : Nat) (r : Option FieldType) : List Cond := .code y b n r :: GW
abbrev WSH (y : MethodName) (b : ByteArray) (n : Nat) (r : Option FieldType) (hh : List (Nat × Nat × Nat × Nat)) : List Cond := .codeWith y b n r hh :: GW
theorem good_GW {big : List Cond} (hb : ∀ w ∈ GW, w ∈ big) {ws : List Cond} (h : ∀ w ∈ ws, w ∈ GW) : GoodIn big ws := fun w hw => ⟨hb w (h w hw), good_of_word (GW_good (h w hw))⟩
abbrev R_Q : String := "LineGolomb$BitQueue"
def T_Q : u_T := fun k => match k with
  | 0 => ("LineGolomb$BitQueue", "ring", "[B", true)
  | 1 => ("LineGolomb$BitQueue", "first", "I", false)
  | _ => ("LineGolomb$BitQueue", "held", "I", false)
def ty_Q : Nat → FieldType := fun k => match k with
  | 0 => (.array .byte)
  | 1 => .int
  | _ => .int
theorem nm_Q : ∀ a, a < 3 → ∀ b, b < 3 → a ≠ b → (T_Q a).2.1 ≠ (T_Q b).2.1 := by decide +kernel
theorem tok_Q : ∀ k, k < 3 → parseFieldDescriptor (T_Q k).2.2.1 = some (ty_Q k) := by decide +kernel
abbrev R_B : String := "LineGolomb$BitRow"
def T_B : u_T := fun k => match k with
  | 0 => ("LineGolomb$BitRow", "row", "[B", true)
  | _ => ("LineGolomb$BitRow", "used", "I", false)
def ty_B : Nat → FieldType := fun k => match k with
  | 0 => (.array .byte)
  | _ => .int
theorem nm_B : ∀ a, a < 2 → ∀ b, b < 2 → a ≠ b → (T_B a).2.1 ≠ (T_B b).2.1 := by decide +kernel
theorem tok_B : ∀ k, k < 2 → parseFieldDescriptor (T_B k).2.2.1 = some (ty_B k) := by decide +kernel
abbrev R_E : String := "LineGolomb$Ends"
def T_E : u_T := fun k => match k with
  | 0 => ("LineGolomb$Ends", "kind", "I", true)
  | 1 => ("LineGolomb$Ends", "firstSum", "I", true)
  | 2 => ("LineGolomb$Ends", "sum", "I", false)
  | 3 => ("LineGolomb$Ends", "count", "I", false)
  | _ => ("LineGolomb$Ends", "negatives", "I", false)
def ty_E : Nat → FieldType := fun k => match k with
  | 0 => .int
  | 1 => .int
  | 2 => .int
  | 3 => .int
  | _ => .int
theorem nm_E : ∀ a, a < 5 → ∀ b, b < 5 → a ≠ b → (T_E a).2.1 ≠ (T_E b).2.1 := by decide +kernel
theorem tok_E : ∀ k, k < 5 → parseFieldDescriptor (T_E k).2.2.1 = some (ty_E k) := by decide +kernel
abbrev R_S : String := "LineGolomb$Side"
def T_S : u_T := fun k => match k with
  | 0 => ("LineGolomb$Side", "plain", "LLineGolomb$Ends;", true)
  | 1 => ("LineGolomb$Side", "nonzero", "LLineGolomb$Ends;", true)
  | 2 => ("LineGolomb$Side", "place", "I", false)
  | _ => ("LineGolomb$Side", "runWidth", "I", false)
def ty_S : Nat → FieldType := fun k => match k with
  | 0 => (.object "LineGolomb$Ends")
  | 1 => (.object "LineGolomb$Ends")
  | 2 => .int
  | _ => .int
theorem nm_S : ∀ a, a < 4 → ∀ b, b < 4 → a ≠ b → (T_S a).2.1 ≠ (T_S b).2.1 := by decide +kernel
theorem tok_S : ∀ k, k < 4 → parseFieldDescriptor (T_S k).2.2.1 = some (ty_S k) := by decide +kernel
abbrev R_X : String := "LineGolomb"
def T_X : u_T := fun k => match k with
  | 0 => ("LineGolomb", "bits", "I", true)
  | 1 => ("LineGolomb", "near", "I", true)
  | 2 => ("LineGolomb", "limit", "I", true)
  | 3 => ("LineGolomb", "span", "I", true)
  | 4 => ("LineGolomb", "q", "I", true)
  | 5 => ("LineGolomb", "writer", "LLineGolomb$Side;", true)
  | 6 => ("LineGolomb", "reader", "LLineGolomb$Side;", true)
  | 7 => ("LineGolomb", "written", "LLineGolomb$BitRow;", true)
  | 8 => ("LineGolomb", "queue", "LLineGolomb$BitQueue;", true)
  | _ => ("LineGolomb", "lastRunBroken", "Z", false)
def ty_X : Nat → FieldType := fun k => match k with
  | 0 => .int
  | 1 => .int
  | 2 => .int
  | 3 => .int
  | 4 => .int
  | 5 => (.object "LineGolomb$Side")
  | 6 => (.object "LineGolomb$Side")
  | 7 => (.object "LineGolomb$BitRow")
  | 8 => (.object "LineGolomb$BitQueue")
  | _ => .boolean
theorem nm_X : ∀ a, a < 10 → ∀ b, b < 10 → a ≠ b → (T_X a).2.1 ≠ (T_X b).2.1 := by decide +kernel
theorem tok_X : ∀ k, k < 10 → parseFieldDescriptor (T_X k).2.2.1 = some (ty_X k) := by decide +kernel
abbrev R_M : String := "LineGolombModel"
def T_M : u_T := fun k => match k with
  | 0 => ("LineGolombModel", "thrown", "I", false)
  | 1 => ("LineGolombModel", "bits", "I", true)
  | 2 => ("LineGolombModel", "near", "I", true)
  | 3 => ("LineGolombModel", "limit", "I", true)
  | 4 => ("LineGolombModel", "span", "I", true)
  | 5 => ("LineGolombModel", "q", "I", true)
  | 6 => ("LineGolombModel", "steps", "[I", true)
  | 7 => ("LineGolombModel", "lastWidths", "[I", true)
  | 8 => ("LineGolombModel", "sums", "[I", true)
  | 9 => ("LineGolombModel", "counts", "[I", true)
  | 10 => ("LineGolombModel", "negatives", "[I", true)
  | 11 => ("LineGolombModel", "ended", "Z", false)
  | 12 => ("LineGolombModel", "size", "I", false)
  | 13 => ("LineGolombModel", "written", "[B", true)
  | 14 => ("LineGolombModel", "waits", "I", false)
  | 15 => ("LineGolombModel", "waiting", "[B", true)
  | 16 => ("LineGolombModel", "laid", "I", false)
  | 17 => ("LineGolombModel", "draft", "[B", true)
  | 18 => ("LineGolombModel", "at", "I", false)
  | _ => ("LineGolombModel", "lacks", "Z", false)
def ty_M : Nat → FieldType := fun k => match k with
  | 0 => .int
  | 1 => .int
  | 2 => .int
  | 3 => .int
  | 4 => .int
  | 5 => .int
  | 6 => (.array .int)
  | 7 => (.array .int)
  | 8 => (.array .int)
  | 9 => (.array .int)
  | 10 => (.array .int)
  | 11 => .boolean
  | 12 => .int
  | 13 => (.array .byte)
  | 14 => .int
  | 15 => (.array .byte)
  | 16 => .int
  | 17 => (.array .byte)
  | 18 => .int
  | _ => .boolean
theorem nm_M : ∀ a, a < 20 → ∀ b, b < 20 → a ≠ b → (T_M a).2.1 ≠ (T_M b).2.1 := by decide +kernel
theorem tok_M : ∀ k, k < 20 → parseFieldDescriptor (T_M k).2.2.1 = some (ty_M k) := by decide +kernel
abbrev R_L : String := "LineGolombLaw"
abbrev b_X_init : ByteArray := prog_1_method_1_code
abbrev y_X_init : MethodName := ⟨"LineGolomb", "<init>", "(III)V"⟩
abbrev b_B_init : ByteArray := prog_3_method_1_code
abbrev y_B_init : MethodName := ⟨"LineGolomb$BitRow", "<init>", "()V"⟩
abbrev b_Q_init : ByteArray := prog_2_method_1_code
abbrev y_Q_init : MethodName := ⟨"LineGolomb$BitQueue", "<init>", "()V"⟩
abbrev b_X_nearest : ByteArray := prog_1_method_20_code
abbrev y_X_nearest : MethodName := ⟨"LineGolomb", "nearest", "(III)I"⟩
abbrev b_X_bitsFor : ByteArray := prog_1_method_21_code
abbrev y_X_bitsFor : MethodName := ⟨"LineGolomb", "bitsFor", "(I)I"⟩
abbrev b_S_init : ByteArray := prog_5_method_1_code
abbrev y_S_init : MethodName := ⟨"LineGolomb$Side", "<init>", "(I)V"⟩
abbrev b_E_init : ByteArray := prog_4_method_1_code
abbrev y_E_init : MethodName := ⟨"LineGolomb$Ends", "<init>", "(II)V"⟩
abbrev b_E_restart : ByteArray := prog_4_method_2_code
abbrev y_E_restart : MethodName := ⟨"LineGolomb$Ends", "restart", "()V"⟩
abbrev b_X_size : ByteArray := prog_1_method_6_code
abbrev y_X_size : MethodName := ⟨"LineGolomb", "size", "()I"⟩
abbrev b_X_wasEnded : ByteArray := prog_1_method_12_code
abbrev y_X_wasEnded : MethodName := ⟨"LineGolomb", "wasEnded", "()Z"⟩
abbrev b_X_waiting : ByteArray := prog_1_method_13_code
abbrev y_X_waiting : MethodName := ⟨"LineGolomb", "waiting", "()I"⟩
abbrev b_X_step : ByteArray := prog_1_method_16_code
abbrev y_X_step : MethodName := ⟨"LineGolomb", "step", "(Z)I"⟩
abbrev b_X_sideOf : ByteArray := prog_1_method_27_code
abbrev y_X_sideOf : MethodName := ⟨"LineGolomb", "sideOf", "(Z)LLineGolomb$Side;"⟩
abbrev b_X_told : ByteArray := prog_1_method_18_code
abbrev y_X_told : MethodName := ⟨"LineGolomb", "told", "(I)I"⟩
abbrev b_X_clear : ByteArray := prog_1_method_19_code
abbrev y_X_clear : MethodName := ⟨"LineGolomb", "clear", "()V"⟩
abbrev b_Q_drop : ByteArray := prog_2_method_8_code
abbrev y_Q_drop : MethodName := ⟨"LineGolomb$BitQueue", "drop", "(I)V"⟩
abbrev b_Q_placeOf : ByteArray := prog_2_method_3_code
abbrev y_Q_placeOf : MethodName := ⟨"LineGolomb$BitQueue", "placeOf", "(I)I"⟩
abbrev b_S_restart : ByteArray := prog_5_method_4_code
abbrev y_S_restart : MethodName := ⟨"LineGolomb$Side", "restart", "()V"⟩
abbrev b_L_cell : ByteArray := method_2_code
abbrev y_L_cell : MethodName := ⟨"LineGolombLaw", "cell", "([II)I"⟩
abbrev b_L_code : ByteArray := method_3_code
abbrev y_L_code : MethodName := ⟨"LineGolombLaw", "code", "(LLineGolomb;II[J)I"⟩
abbrev b_X_code : ByteArray := prog_1_method_2_code
abbrev y_X_code : MethodName := ⟨"LineGolomb", "code", "(II)I"⟩
abbrev b_X_mostZeros : ByteArray := prog_1_method_29_code
abbrev y_X_mostZeros : MethodName := ⟨"LineGolomb", "mostZeros", "(I)I"⟩
abbrev b_X_numberLength : ByteArray := prog_1_method_30_code
abbrev y_X_numberLength : MethodName := ⟨"LineGolomb", "numberLength", "(III)I"⟩
abbrev b_B_hasRoom : ByteArray := prog_3_method_2_code
abbrev y_B_hasRoom : MethodName := ⟨"LineGolomb$BitRow", "hasRoom", "(I)Z"⟩
abbrev b_X_writeNumber : ByteArray := prog_1_method_31_code
abbrev y_X_writeNumber : MethodName := ⟨"LineGolomb", "writeNumber", "(III)V"⟩
abbrev b_B_putSame : ByteArray := prog_3_method_4_code
abbrev y_B_putSame : MethodName := ⟨"LineGolomb$BitRow", "putSame", "(II)V"⟩
abbrev b_B_putLow : ByteArray := prog_3_method_5_code
abbrev y_B_putLow : MethodName := ⟨"LineGolomb$BitRow", "putLow", "(II)V"⟩
abbrev b_L_run : ByteArray := method_4_code
abbrev y_L_run : MethodName := ⟨"LineGolombLaw", "run", "(LLineGolomb;IZ[J)I"⟩
abbrev b_X_run : ByteArray := prog_1_method_3_code
abbrev y_X_run : MethodName := ⟨"LineGolomb", "run", "(IZ)I"⟩
abbrev b_X_widthOf : ByteArray := prog_1_method_22_code
abbrev y_X_widthOf : MethodName := ⟨"LineGolomb", "widthOf", "(I)I"⟩
abbrev b_X_stepAbove : ByteArray := prog_1_method_23_code
abbrev y_X_stepAbove : MethodName := ⟨"LineGolomb", "stepAbove", "(I)I"⟩
abbrev b_S_endRun : ByteArray := prog_5_method_3_code
abbrev y_S_endRun : MethodName := ⟨"LineGolomb$Side", "endRun", "(IZ)V"⟩
abbrev b_X_stepBelow : ByteArray := prog_1_method_24_code
abbrev y_X_stepBelow : MethodName := ⟨"LineGolomb", "stepBelow", "(I)I"⟩
abbrev b_L_interrupt : ByteArray := method_5_code
abbrev y_L_interrupt : MethodName := ⟨"LineGolombLaw", "interrupt", "(LLineGolomb;II[J)I"⟩
abbrev b_X_interrupt : ByteArray := prog_1_method_4_code
abbrev y_X_interrupt : MethodName := ⟨"LineGolomb", "interrupt", "(II)I"⟩
abbrev b_X_isKind : ByteArray := prog_1_method_25_code
abbrev y_X_isKind : MethodName := ⟨"LineGolomb", "isKind", "(I)Z"⟩
abbrev b_X_isError : ByteArray := prog_1_method_26_code
abbrev y_X_isError : MethodName := ⟨"LineGolomb", "isError", "(II)Z"⟩
abbrev b_S_endsOf : ByteArray := prog_5_method_2_code
abbrev y_S_endsOf : MethodName := ⟨"LineGolomb$Side", "endsOf", "(I)LLineGolomb$Ends;"⟩
abbrev b_E_shift : ByteArray := prog_4_method_3_code
abbrev y_E_shift : MethodName := ⟨"LineGolomb$Ends", "shift", "()I"⟩
abbrev b_E_numberOf : ByteArray := prog_4_method_5_code
abbrev y_E_numberOf : MethodName := ⟨"LineGolomb$Ends", "numberOf", "(II)I"⟩
abbrev b_E_flagsPositive : ByteArray := prog_4_method_4_code
abbrev y_E_flagsPositive : MethodName := ⟨"LineGolomb$Ends", "flagsPositive", "(I)Z"⟩
abbrev b_X_endLimit : ByteArray := prog_1_method_28_code
abbrev y_X_endLimit : MethodName := ⟨"LineGolomb", "endLimit", "(LLineGolomb$Side;)I"⟩
abbrev b_E_learn : ByteArray := prog_4_method_7_code
abbrev y_E_learn : MethodName := ⟨"LineGolomb$Ends", "learn", "(II)V"⟩
abbrev b_L_bitAt : ByteArray := method_6_code
abbrev y_L_bitAt : MethodName := ⟨"LineGolombLaw", "bitAt", "(LLineGolomb;I[J)I"⟩
abbrev b_X_bitAt : ByteArray := prog_1_method_5_code
abbrev y_X_bitAt : MethodName := ⟨"LineGolomb", "bitAt", "(I)I"⟩
abbrev b_B_get : ByteArray := prog_3_method_3_code
abbrev y_B_get : MethodName := ⟨"LineGolomb$BitRow", "get", "(I)I"⟩
abbrev b_L_feed : ByteArray := method_7_code
abbrev y_L_feed : MethodName := ⟨"LineGolombLaw", "feed", "(LLineGolomb;I[J)I"⟩
abbrev b_X_feed : ByteArray := prog_1_method_7_code
abbrev y_X_feed : MethodName := ⟨"LineGolomb", "feed", "(I)Z"⟩
abbrev b_Q_add : ByteArray := prog_2_method_4_code
abbrev y_Q_add : MethodName := ⟨"LineGolomb$BitQueue", "add", "(I)Z"⟩
abbrev b_L_pass : ByteArray := method_8_code
abbrev y_L_pass : MethodName := ⟨"LineGolombLaw", "pass", "(LLineGolomb;II[J)I"⟩
abbrev b_X_pass : ByteArray := prog_1_method_8_code
abbrev y_X_pass : MethodName := ⟨"LineGolomb", "pass", "(II)I"⟩
abbrev b_Q_room : ByteArray := prog_2_method_2_code
abbrev y_Q_room : MethodName := ⟨"LineGolomb$BitQueue", "room", "()I"⟩
abbrev b_L_read : ByteArray := method_9_code
abbrev y_L_read : MethodName := ⟨"LineGolombLaw", "read", "(LLineGolomb;I[J)I"⟩
abbrev b_X_read : ByteArray := prog_1_method_9_code
abbrev y_X_read : MethodName := ⟨"LineGolomb", "read", "(I)I"⟩
abbrev b_X_takeNumber : ByteArray := prog_1_method_32_code
abbrev y_X_takeNumber : MethodName := ⟨"LineGolomb", "takeNumber", "(II)I"⟩
abbrev b_Q_zerosAhead : ByteArray := prog_2_method_7_code
abbrev y_Q_zerosAhead : MethodName := ⟨"LineGolomb$BitQueue", "zerosAhead", "(I)I"⟩
abbrev b_Q_look : ByteArray := prog_2_method_5_code
abbrev y_Q_look : MethodName := ⟨"LineGolomb$BitQueue", "look", "(I)I"⟩
abbrev b_Q_lookNumber : ByteArray := prog_2_method_6_code
abbrev y_Q_lookNumber : MethodName := ⟨"LineGolomb$BitQueue", "lookNumber", "(II)I"⟩
abbrev b_L_readRun : ByteArray := method_10_code
abbrev y_L_readRun : MethodName := ⟨"LineGolombLaw", "readRun", "(LLineGolomb;I[J)I"⟩
abbrev b_X_readRun : ByteArray := prog_1_method_10_code
abbrev y_X_readRun : MethodName := ⟨"LineGolomb", "readRun", "(I)I"⟩
abbrev b_X_takeBrokenRun : ByteArray := prog_1_method_33_code
abbrev y_X_takeBrokenRun : MethodName := ⟨"LineGolomb", "takeBrokenRun", "(IIII)I"⟩
abbrev b_X_endReadRun : ByteArray := prog_1_method_34_code
abbrev y_X_endReadRun : MethodName := ⟨"LineGolomb", "endReadRun", "(IZ)V"⟩
abbrev b_L_readInterrupt : ByteArray := method_11_code
abbrev y_L_readInterrupt : MethodName := ⟨"LineGolombLaw", "readInterrupt", "(LLineGolomb;I[J)I"⟩
abbrev b_X_readInterrupt : ByteArray := prog_1_method_11_code
abbrev y_X_readInterrupt : MethodName := ⟨"LineGolomb", "readInterrupt", "(I)I"⟩
abbrev b_E_errorOf : ByteArray := prog_4_method_6_code
abbrev y_E_errorOf : MethodName := ⟨"LineGolomb$Ends", "errorOf", "(II)I"⟩
abbrev b_L_map : ByteArray := method_12_code
abbrev y_L_map : MethodName := ⟨"LineGolombLaw", "map", "(LLineGolomb;IZ[J)I"⟩
abbrev b_X_map : ByteArray := prog_1_method_14_code
abbrev y_X_map : MethodName := ⟨"LineGolomb", "map", "(IZ)I"⟩
abbrev b_L_unmap : ByteArray := method_13_code
abbrev y_L_unmap : MethodName := ⟨"LineGolombLaw", "unmap", "(LLineGolomb;IZ[J)I"⟩
abbrev b_X_unmap : ByteArray := prog_1_method_15_code
abbrev y_X_unmap : MethodName := ⟨"LineGolomb", "unmap", "(IZ)I"⟩
abbrev b_L_state : ByteArray := method_14_code
abbrev y_L_state : MethodName := ⟨"LineGolombLaw", "state", "(LLineGolomb;ZII[J)I"⟩
abbrev b_X_state : ByteArray := prog_1_method_17_code
abbrev y_X_state : MethodName := ⟨"LineGolomb", "state", "(ZII)I"⟩
abbrev b_M_init : ByteArray := prog_7_method_1_code
abbrev y_M_init : MethodName := ⟨"LineGolombModel", "<init>", "(III)V"⟩
abbrev b_M_within : ByteArray := prog_7_method_3_code
abbrev y_M_within : MethodName := ⟨"LineGolombModel", "within", "(III)I"⟩
abbrev b_M_power : ByteArray := prog_7_method_4_code
abbrev y_M_power : MethodName := ⟨"LineGolombModel", "power", "(I)I"⟩
abbrev b_M_begin : ByteArray := prog_7_method_5_code
abbrev y_M_begin : MethodName := ⟨"LineGolombModel", "begin", "()V"⟩
abbrev b_M_thrown : ByteArray := prog_7_method_2_code
abbrev y_M_thrown : MethodName := ⟨"LineGolombModel", "thrown", "()I"⟩
abbrev b_M_code : ByteArray := prog_7_method_12_code
abbrev y_M_code : MethodName := ⟨"LineGolombModel", "code", "(II)I"⟩
abbrev b_M_layNumber : ByteArray := prog_7_method_9_code
abbrev y_M_layNumber : MethodName := ⟨"LineGolombModel", "layNumber", "(III)V"⟩
abbrev b_M_lay : ByteArray := prog_7_method_7_code
abbrev y_M_lay : MethodName := ⟨"LineGolombModel", "lay", "(I)V"⟩
abbrev b_M_layLow : ByteArray := prog_7_method_8_code
abbrev y_M_layLow : MethodName := ⟨"LineGolombModel", "layLow", "(II)V"⟩
abbrev b_M_hasRoom : ByteArray := prog_7_method_10_code
abbrev y_M_hasRoom : MethodName := ⟨"LineGolombModel", "hasRoom", "()Z"⟩
abbrev b_M_write : ByteArray := prog_7_method_11_code
abbrev y_M_write : MethodName := ⟨"LineGolombModel", "write", "()I"⟩
abbrev b_M_run : ByteArray := prog_7_method_13_code
abbrev y_M_run : MethodName := ⟨"LineGolombModel", "run", "(IZ)I"⟩
abbrev b_M_widthOf : ByteArray := prog_7_method_6_code
abbrev y_M_widthOf : MethodName := ⟨"LineGolombModel", "widthOf", "(I)I"⟩
abbrev b_M_interrupt : ByteArray := prog_7_method_20_code
abbrev y_M_interrupt : MethodName := ⟨"LineGolombModel", "interrupt", "(II)I"⟩
abbrev b_M_isKind : ByteArray := prog_7_method_14_code
abbrev y_M_isKind : MethodName := ⟨"LineGolombModel", "isKind", "(I)Z"⟩
abbrev b_M_isError : ByteArray := prog_7_method_15_code
abbrev y_M_isError : MethodName := ⟨"LineGolombModel", "isError", "(II)Z"⟩
abbrev b_M_isUp : ByteArray := prog_7_method_17_code
abbrev y_M_isUp : MethodName := ⟨"LineGolombModel", "isUp", "(I)Z"⟩
abbrev b_M_kOf : ByteArray := prog_7_method_16_code
abbrev y_M_kOf : MethodName := ⟨"LineGolombModel", "kOf", "(I)I"⟩
abbrev b_M_limitFor : ByteArray := prog_7_method_18_code
abbrev y_M_limitFor : MethodName := ⟨"LineGolombModel", "limitFor", "(I)I"⟩
abbrev b_M_learn : ByteArray := prog_7_method_19_code
abbrev y_M_learn : MethodName := ⟨"LineGolombModel", "learn", "(IIII)V"⟩
abbrev b_M_bitAt : ByteArray := prog_7_method_21_code
abbrev y_M_bitAt : MethodName := ⟨"LineGolombModel", "bitAt", "(I)I"⟩
abbrev b_M_size : ByteArray := prog_7_method_22_code
abbrev y_M_size : MethodName := ⟨"LineGolombModel", "size", "()I"⟩
abbrev b_M_feed : ByteArray := prog_7_method_24_code
abbrev y_M_feed : MethodName := ⟨"LineGolombModel", "feed", "(I)Z"⟩
abbrev b_M_comes : ByteArray := prog_7_method_23_code
abbrev y_M_comes : MethodName := ⟨"LineGolombModel", "comes", "(I)Z"⟩
abbrev b_M_pass : ByteArray := prog_7_method_25_code
abbrev y_M_pass : MethodName := ⟨"LineGolombModel", "pass", "(II)I"⟩
abbrev b_M_read : ByteArray := prog_7_method_30_code
abbrev y_M_read : MethodName := ⟨"LineGolombModel", "read", "(I)I"⟩
abbrev b_M_look : ByteArray := prog_7_method_29_code
abbrev y_M_look : MethodName := ⟨"LineGolombModel", "look", "(II)I"⟩
abbrev b_M_next : ByteArray := prog_7_method_27_code
abbrev y_M_next : MethodName := ⟨"LineGolombModel", "next", "()I"⟩
abbrev b_M_nextLow : ByteArray := prog_7_method_28_code
abbrev y_M_nextLow : MethodName := ⟨"LineGolombModel", "nextLow", "(I)I"⟩
abbrev b_M_go : ByteArray := prog_7_method_26_code
abbrev y_M_go : MethodName := ⟨"LineGolombModel", "go", "(I)V"⟩
abbrev b_M_readRun : ByteArray := prog_7_method_31_code
abbrev y_M_readRun : MethodName := ⟨"LineGolombModel", "readRun", "(I)I"⟩
abbrev b_M_readInterrupt : ByteArray := prog_7_method_32_code
abbrev y_M_readInterrupt : MethodName := ⟨"LineGolombModel", "readInterrupt", "(I)I"⟩
abbrev b_M_wasEnded : ByteArray := prog_7_method_33_code
abbrev y_M_wasEnded : MethodName := ⟨"LineGolombModel", "wasEnded", "()Z"⟩
abbrev b_M_waiting : ByteArray := prog_7_method_34_code
abbrev y_M_waiting : MethodName := ⟨"LineGolombModel", "waiting", "()I"⟩
abbrev b_M_map : ByteArray := prog_7_method_35_code
abbrev y_M_map : MethodName := ⟨"LineGolombModel", "map", "(IZ)I"⟩
abbrev b_M_unmap : ByteArray := prog_7_method_36_code
abbrev y_M_unmap : MethodName := ⟨"LineGolombModel", "unmap", "(IZ)I"⟩
abbrev b_M_step : ByteArray := prog_7_method_37_code
abbrev y_M_step : MethodName := ⟨"LineGolombModel", "step", "(Z)I"⟩
abbrev b_M_state : ByteArray := prog_7_method_38_code
abbrev y_M_state : MethodName := ⟨"LineGolombModel", "state", "(ZII)I"⟩
abbrev b_M_told : ByteArray := prog_7_method_39_code
abbrev y_M_told : MethodName := ⟨"LineGolombModel", "told", "(I)I"⟩
abbrev b_M_clear : ByteArray := prog_7_method_40_code
abbrev y_M_clear : MethodName := ⟨"LineGolombModel", "clear", "()V"⟩
abbrev b_L_law : ByteArray := code
/-- the classes whose objects the worlds hold -/
abbrev CLS : List vw_C := [(R_Q, T_Q, 3), (R_B, T_B, 2), (R_E, T_E, 5), (R_S, T_S, 4), (R_X, T_X, 10), (R_M, T_M, 20)]
theorem gs_0 : (.selects "LineGolomb" y_X_sideOf y_X_sideOf : Cond) ∈ GW := GW_mem (List.mem_of_getElem? (i := 0) (by decide +kernel)) (by decide +kernel)
theorem gs_1 : (.selects "LineGolomb$BitQueue" y_Q_placeOf y_Q_placeOf : Cond) ∈ GW := GW_mem (List.mem_of_getElem? (i := 1) (by decide +kernel)) (by decide +kernel)
theorem gs_3 : (.selects "LineGolomb" y_X_mostZeros y_X_mostZeros : Cond) ∈ GW := GW_mem (List.mem_of_getElem? (i := 3) (by decide +kernel)) (by decide +kernel)
theorem gs_4 : (.selects "LineGolomb" y_X_numberLength y_X_numberLength : Cond) ∈ GW := GW_mem (List.mem_of_getElem? (i := 4) (by decide +kernel)) (by decide +kernel)
theorem gs_5 : (.selects "LineGolomb" y_X_writeNumber y_X_writeNumber : Cond) ∈ GW := GW_mem (List.mem_of_getElem? (i := 5) (by decide +kernel)) (by decide +kernel)
theorem gs_6 : (.selects "LineGolomb" y_X_isError y_X_isError : Cond) ∈ GW := GW_mem (List.mem_of_getElem? (i := 6) (by decide +kernel)) (by decide +kernel)
theorem gs_7 : (.selects "LineGolomb$Ends" y_E_flagsPositive y_E_flagsPositive : Cond) ∈ GW := GW_mem (List.mem_of_getElem? (i := 7) (by decide +kernel)) (by decide +kernel)
theorem gs_8 : (.selects "LineGolomb" y_X_endLimit y_X_endLimit : Cond) ∈ GW := GW_mem (List.mem_of_getElem? (i := 8) (by decide +kernel)) (by decide +kernel)
theorem gs_9 : (.selects "LineGolomb" y_X_takeNumber y_X_takeNumber : Cond) ∈ GW := GW_mem (List.mem_of_getElem? (i := 9) (by decide +kernel)) (by decide +kernel)
theorem gs_10 : (.selects "LineGolomb" y_X_takeBrokenRun y_X_takeBrokenRun : Cond) ∈ GW := GW_mem (List.mem_of_getElem? (i := 10) (by decide +kernel)) (by decide +kernel)
theorem gs_11 : (.selects "LineGolomb" y_X_endReadRun y_X_endReadRun : Cond) ∈ GW := GW_mem (List.mem_of_getElem? (i := 11) (by decide +kernel)) (by decide +kernel)
theorem gs_12 : (.selects "LineGolombModel" y_M_begin y_M_begin : Cond) ∈ GW := GW_mem (List.mem_of_getElem? (i := 12) (by decide +kernel)) (by decide +kernel)
theorem gs_13 : (.selects "LineGolombModel" y_M_layNumber y_M_layNumber : Cond) ∈ GW := GW_mem (List.mem_of_getElem? (i := 13) (by decide +kernel)) (by decide +kernel)
theorem gs_14 : (.selects "LineGolombModel" y_M_lay y_M_lay : Cond) ∈ GW := GW_mem (List.mem_of_getElem? (i := 14) (by decide +kernel)) (by decide +kernel)
theorem gs_15 : (.selects "LineGolombModel" y_M_layLow y_M_layLow : Cond) ∈ GW := GW_mem (List.mem_of_getElem? (i := 15) (by decide +kernel)) (by decide +kernel)
theorem gs_16 : (.selects "LineGolombModel" y_M_hasRoom y_M_hasRoom : Cond) ∈ GW := GW_mem (List.mem_of_getElem? (i := 16) (by decide +kernel)) (by decide +kernel)
theorem gs_17 : (.selects "LineGolombModel" y_M_write y_M_write : Cond) ∈ GW := GW_mem (List.mem_of_getElem? (i := 17) (by decide +kernel)) (by decide +kernel)
theorem gs_18 : (.selects "LineGolombModel" y_M_isKind y_M_isKind : Cond) ∈ GW := GW_mem (List.mem_of_getElem? (i := 18) (by decide +kernel)) (by decide +kernel)
theorem gs_19 : (.selects "LineGolombModel" y_M_isError y_M_isError : Cond) ∈ GW := GW_mem (List.mem_of_getElem? (i := 19) (by decide +kernel)) (by decide +kernel)
theorem gs_20 : (.selects "LineGolombModel" y_M_isUp y_M_isUp : Cond) ∈ GW := GW_mem (List.mem_of_getElem? (i := 20) (by decide +kernel)) (by decide +kernel)
theorem gs_21 : (.selects "LineGolombModel" y_M_kOf y_M_kOf : Cond) ∈ GW := GW_mem (List.mem_of_getElem? (i := 21) (by decide +kernel)) (by decide +kernel)
theorem gs_22 : (.selects "LineGolombModel" y_M_limitFor y_M_limitFor : Cond) ∈ GW := GW_mem (List.mem_of_getElem? (i := 22) (by decide +kernel)) (by decide +kernel)
theorem gs_23 : (.selects "LineGolombModel" y_M_learn y_M_learn : Cond) ∈ GW := GW_mem (List.mem_of_getElem? (i := 23) (by decide +kernel)) (by decide +kernel)
theorem gs_24 : (.selects "LineGolombModel" y_M_comes y_M_comes : Cond) ∈ GW := GW_mem (List.mem_of_getElem? (i := 24) (by decide +kernel)) (by decide +kernel)
theorem gs_25 : (.selects "LineGolombModel" y_M_look y_M_look : Cond) ∈ GW := GW_mem (List.mem_of_getElem? (i := 25) (by decide +kernel)) (by decide +kernel)
theorem gs_26 : (.selects "LineGolombModel" y_M_next y_M_next : Cond) ∈ GW := GW_mem (List.mem_of_getElem? (i := 26) (by decide +kernel)) (by decide +kernel)
theorem gs_27 : (.selects "LineGolombModel" y_M_nextLow y_M_nextLow : Cond) ∈ GW := GW_mem (List.mem_of_getElem? (i := 27) (by decide +kernel)) (by decide +kernel)
theorem gs_28 : (.selects "LineGolombModel" y_M_go y_M_go : Cond) ∈ GW := GW_mem (List.mem_of_getElem? (i := 28) (by decide +kernel)) (by decide +kernel)
theorem gw_0 : (.initialized "LineGolombLaw" : Cond) ∈ GW := GW_mem (List.mem_of_getElem? (i := 29) (by decide +kernel)) (by decide +kernel)
theorem gw_1 : (.initialized "LineGolomb" : Cond) ∈ GW := GW_mem (List.mem_of_getElem? (i := 30) (by decide +kernel)) (by decide +kernel)
theorem gw_2 : (.initialized "LineGolomb$BitRow" : Cond) ∈ GW := GW_mem (List.mem_of_getElem? (i := 31) (by decide +kernel)) (by decide +kernel)
theorem gw_3 : (.initialized "LineGolomb$BitQueue" : Cond) ∈ GW := GW_mem (List.mem_of_getElem? (i := 32) (by decide +kernel)) (by decide +kernel)
theorem gw_4 : (.initialized "java/lang/Math" : Cond) ∈ GW := GW_mem (List.mem_of_getElem? (i := 33) (by decide +kernel)) (by decide +kernel)
theorem gw_5 : (.initialized "LineGolomb$Side" : Cond) ∈ GW := GW_mem (List.mem_of_getElem? (i := 34) (by decide +kernel)) (by decide +kernel)
theorem gw_6 : (.initialized "LineGolomb$Ends" : Cond) ∈ GW := GW_mem (List.mem_of_getElem? (i := 35) (by decide +kernel)) (by decide +kernel)
theorem gw_7 : (.initialized "LineGolombModel" : Cond) ∈ GW := GW_mem (List.mem_of_getElem? (i := 36) (by decide +kernel)) (by decide +kernel)
theorem gw_9 : (.initialized "java/lang/Exception" : Cond) ∈ GW := GW_mem (List.mem_of_getElem? (i := 38) (by decide +kernel)) (by decide +kernel)
theorem gw_10 : (.initialized "java/lang/RuntimeException" : Cond) ∈ GW := GW_mem (List.mem_of_getElem? (i := 39) (by decide +kernel)) (by decide +kernel)
theorem gw_11 : (.initialized "java/lang/IllegalArgumentException" : Cond) ∈ GW := GW_mem (List.mem_of_getElem? (i := 40) (by decide +kernel)) (by decide +kernel)
theorem gw_12 : (.initialized "java/lang/UnsupportedOperationException" : Cond) ∈ GW := GW_mem (List.mem_of_getElem? (i := 41) (by decide +kernel)) (by decide +kernel)
theorem gw_13 : (.initialized "java/lang/IndexOutOfBoundsException" : Cond) ∈ GW := GW_mem (List.mem_of_getElem? (i := 42) (by decide +kernel)) (by decide +kernel)
theorem gw_14 : (.classLink "LineGolombLaw" 8 "LineGolomb" : Cond) ∈ GW := GW_mem (List.mem_of_getElem? (i := 43) (by decide +kernel)) (by decide +kernel)
theorem gw_15 : (.instantiable "LineGolomb" 10 : Cond) ∈ GW := GW_mem (List.mem_of_getElem? (i := 44) (by decide +kernel)) (by decide +kernel)
theorem gw_16 : (.methodLink "LineGolombLaw" 62 y_X_init : Cond) ∈ GW := GW_mem (List.mem_of_getElem? (i := 45) (by decide +kernel)) (by decide +kernel)
theorem gw_17 : (.instanceMethod y_X_init : Cond) ∈ GW := GW_mem (List.mem_of_getElem? (i := 46) (by decide +kernel)) (by decide +kernel)
theorem gw_18 : (.code y_X_init prog_1_method_1_code 6 none : Cond) ∈ GW := GW_mem (List.mem_of_getElem? (i := 47) (by decide +kernel)) (by decide +kernel)
theorem gw_19 : (.methodLink "LineGolomb" 1 objectInit : Cond) ∈ GW := GW_mem (List.mem_of_getElem? (i := 48) (by decide +kernel)) (by decide +kernel)
theorem gw_20 : (.instanceMethod objectInit : Cond) ∈ GW := GW_mem (List.mem_of_getElem? (i := 49) (by decide +kernel)) (by decide +kernel)
theorem gw_21 : (.code objectInit ⟨#[0xb1]⟩ 1 none : Cond) ∈ GW := GW_mem (List.mem_of_getElem? (i := 50) (by decide +kernel)) (by decide +kernel)
theorem gw_22 : (.classLink "LineGolomb" 7 "LineGolomb$BitRow" : Cond) ∈ GW := GW_mem (List.mem_of_getElem? (i := 51) (by decide +kernel)) (by decide +kernel)
theorem gw_23 : (.instantiable "LineGolomb$BitRow" 2 : Cond) ∈ GW := GW_mem (List.mem_of_getElem? (i := 52) (by decide +kernel)) (by decide +kernel)
theorem gw_25 : (.instanceMethod y_B_init : Cond) ∈ GW := GW_mem (List.mem_of_getElem? (i := 54) (by decide +kernel)) (by decide +kernel)
theorem gw_26 : (.code y_B_init prog_3_method_1_code 1 none : Cond) ∈ GW := GW_mem (List.mem_of_getElem? (i := 55) (by decide +kernel)) (by decide +kernel)
theorem gw_27 : (.methodLink "LineGolomb$BitRow" 3 objectInit : Cond) ∈ GW := GW_mem (List.mem_of_getElem? (i := 56) (by decide +kernel)) (by decide +kernel)
theorem gw_28 : (.fieldLink "LineGolomb$BitRow" 9 "LineGolomb$BitRow" "row" "[B" : Cond) ∈ GW := GW_mem (List.mem_of_getElem? (i := 57) (by decide +kernel)) (by decide +kernel)
theorem gw_29 : (.fieldLink "LineGolomb$BitRow" 15 "LineGolomb$BitRow" "used" "I" : Cond) ∈ GW := GW_mem (List.mem_of_getElem? (i := 58) (by decide +kernel)) (by decide +kernel)
theorem gw_36 : (.arrayClass .byte : Cond) ∈ GW := GW_mem (List.mem_of_getElem? (i := 65) (by decide +kernel)) (by decide +kernel)
theorem gw_37 : (.classLink "LineGolomb" 16 "LineGolomb$BitQueue" : Cond) ∈ GW := GW_mem (List.mem_of_getElem? (i := 66) (by decide +kernel)) (by decide +kernel)
theorem gw_38 : (.instantiable "LineGolomb$BitQueue" 3 : Cond) ∈ GW := GW_mem (List.mem_of_getElem? (i := 67) (by decide +kernel)) (by decide +kernel)
theorem gw_40 : (.instanceMethod y_Q_init : Cond) ∈ GW := GW_mem (List.mem_of_getElem? (i := 69) (by decide +kernel)) (by decide +kernel)
theorem gw_41 : (.code y_Q_init prog_2_method_1_code 1 none : Cond) ∈ GW := GW_mem (List.mem_of_getElem? (i := 70) (by decide +kernel)) (by decide +kernel)
theorem gw_42 : (.methodLink "LineGolomb$BitQueue" 3 objectInit : Cond) ∈ GW := GW_mem (List.mem_of_getElem? (i := 71) (by decide +kernel)) (by decide +kernel)
theorem gw_43 : (.fieldLink "LineGolomb$BitQueue" 9 "LineGolomb$BitQueue" "ring" "[B" : Cond) ∈ GW := GW_mem (List.mem_of_getElem? (i := 72) (by decide +kernel)) (by decide +kernel)
theorem gw_44 : (.fieldLink "LineGolomb$BitQueue" 19 "LineGolomb$BitQueue" "first" "I" : Cond) ∈ GW := GW_mem (List.mem_of_getElem? (i := 73) (by decide +kernel)) (by decide +kernel)
theorem gw_45 : (.fieldLink "LineGolomb$BitQueue" 15 "LineGolomb$BitQueue" "held" "I" : Cond) ∈ GW := GW_mem (List.mem_of_getElem? (i := 74) (by decide +kernel)) (by decide +kernel)
theorem gw_54 : (.methodLink "LineGolomb" 23 y_X_nearest : Cond) ∈ GW := GW_mem (List.mem_of_getElem? (i := 83) (by decide +kernel)) (by decide +kernel)
theorem gw_55 : (.static y_X_nearest : Cond) ∈ GW := GW_mem (List.mem_of_getElem? (i := 84) (by decide +kernel)) (by decide +kernel)
theorem gw_56 : (.code y_X_nearest prog_1_method_20_code 3 (some .int) : Cond) ∈ GW := GW_mem (List.mem_of_getElem? (i := 85) (by decide +kernel)) (by decide +kernel)
theorem gw_57 : (.methodLink "LineGolomb" 31 Lib.Math.min.name : Cond) ∈ GW := GW_mem (List.mem_of_getElem? (i := 86) (by decide +kernel)) (by decide +kernel)
theorem gw_58 : (.static Lib.Math.min.name : Cond) ∈ GW := GW_mem (List.mem_of_getElem? (i := 87) (by decide +kernel)) (by decide +kernel)
theorem gw_59 : (.code Lib.Math.min.name Lib.Math.min.code 2 (some .int) : Cond) ∈ GW := GW_mem (List.mem_of_getElem? (i := 88) (by decide +kernel)) (by decide +kernel)
theorem gw_60 : (.methodLink "LineGolomb" 53 Lib.Math.max.name : Cond) ∈ GW := GW_mem (List.mem_of_getElem? (i := 89) (by decide +kernel)) (by decide +kernel)
theorem gw_61 : (.static Lib.Math.max.name : Cond) ∈ GW := GW_mem (List.mem_of_getElem? (i := 90) (by decide +kernel)) (by decide +kernel)
theorem gw_62 : (.code Lib.Math.max.name Lib.Math.max.code 2 (some .int) : Cond) ∈ GW := GW_mem (List.mem_of_getElem? (i := 91) (by decide +kernel)) (by decide +kernel)
theorem gw_63 : (.methodLink "LineGolomb" 43 y_X_bitsFor : Cond) ∈ GW := GW_mem (List.mem_of_getElem? (i := 92) (by decide +kernel)) (by decide +kernel)
theorem gw_64 : (.static y_X_bitsFor : Cond) ∈ GW := GW_mem (List.mem_of_getElem? (i := 93) (by decide +kernel)) (by decide +kernel)
theorem gw_65 : (.code y_X_bitsFor prog_1_method_21_code 2 (some .int) : Cond) ∈ GW := GW_mem (List.mem_of_getElem? (i := 94) (by decide +kernel)) (by decide +kernel)
theorem gw_66 : (.classLink "LineGolomb" 56 "LineGolomb$Side" : Cond) ∈ GW := GW_mem (List.mem_of_getElem? (i := 95) (by decide +kernel)) (by decide +kernel)
theorem gw_67 : (.instantiable "LineGolomb$Side" 4 : Cond) ∈ GW := GW_mem (List.mem_of_getElem? (i := 96) (by decide +kernel)) (by decide +kernel)
theorem gw_68 : (.methodLink "LineGolomb" 58 y_S_init : Cond) ∈ GW := GW_mem (List.mem_of_getElem? (i := 97) (by decide +kernel)) (by decide +kernel)
theorem gw_69 : (.instanceMethod y_S_init : Cond) ∈ GW := GW_mem (List.mem_of_getElem? (i := 98) (by decide +kernel)) (by decide +kernel)
theorem gw_70 : (.code y_S_init prog_5_method_1_code 2 none : Cond) ∈ GW := GW_mem (List.mem_of_getElem? (i := 99) (by decide +kernel)) (by decide +kernel)
theorem gw_71 : (.methodLink "LineGolomb$Side" 1 objectInit : Cond) ∈ GW := GW_mem (List.mem_of_getElem? (i := 100) (by decide +kernel)) (by decide +kernel)
theorem gw_72 : (.classLink "LineGolomb$Side" 7 "LineGolomb$Ends" : Cond) ∈ GW := GW_mem (List.mem_of_getElem? (i := 101) (by decide +kernel)) (by decide +kernel)
theorem gw_73 : (.instantiable "LineGolomb$Ends" 5 : Cond) ∈ GW := GW_mem (List.mem_of_getElem? (i := 102) (by decide +kernel)) (by decide +kernel)
theorem gw_74 : (.methodLink "LineGolomb$Side" 9 y_E_init : Cond) ∈ GW := GW_mem (List.mem_of_getElem? (i := 103) (by decide +kernel)) (by decide +kernel)
theorem gw_75 : (.instanceMethod y_E_init : Cond) ∈ GW := GW_mem (List.mem_of_getElem? (i := 104) (by decide +kernel)) (by decide +kernel)
theorem gw_76 : (.code y_E_init prog_4_method_1_code 3 none : Cond) ∈ GW := GW_mem (List.mem_of_getElem? (i := 105) (by decide +kernel)) (by decide +kernel)
theorem gw_77 : (.methodLink "LineGolomb$Ends" 3 objectInit : Cond) ∈ GW := GW_mem (List.mem_of_getElem? (i := 106) (by decide +kernel)) (by decide +kernel)
theorem gw_78 : (.methodLink "LineGolomb$Ends" 18 y_E_restart : Cond) ∈ GW := GW_mem (List.mem_of_getElem? (i := 107) (by decide +kernel)) (by decide +kernel)
theorem gw_79 : (.instanceMethod y_E_restart : Cond) ∈ GW := GW_mem (List.mem_of_getElem? (i := 108) (by decide +kernel)) (by decide +kernel)
theorem gw_80 : (.selects "LineGolomb$Ends" y_E_restart y_E_restart : Cond) ∈ GW := GW_mem (List.mem_of_getElem? (i := 109) (by decide +kernel)) (by decide +kernel)
theorem gw_81 : (.code y_E_restart prog_4_method_2_code 1 none : Cond) ∈ GW := GW_mem (List.mem_of_getElem? (i := 110) (by decide +kernel)) (by decide +kernel)
theorem gw_82 : (.fieldLink "LineGolomb$Ends" 9 "LineGolomb$Ends" "kind" "I" : Cond) ∈ GW := GW_mem (List.mem_of_getElem? (i := 111) (by decide +kernel)) (by decide +kernel)
theorem gw_83 : (.fieldLink "LineGolomb$Ends" 15 "LineGolomb$Ends" "firstSum" "I" : Cond) ∈ GW := GW_mem (List.mem_of_getElem? (i := 112) (by decide +kernel)) (by decide +kernel)
theorem gw_84 : (.fieldLink "LineGolomb$Ends" 21 "LineGolomb$Ends" "sum" "I" : Cond) ∈ GW := GW_mem (List.mem_of_getElem? (i := 113) (by decide +kernel)) (by decide +kernel)
theorem gw_86 : (.fieldLink "LineGolomb$Ends" 24 "LineGolomb$Ends" "count" "I" : Cond) ∈ GW := GW_mem (List.mem_of_getElem? (i := 115) (by decide +kernel)) (by decide +kernel)
theorem gw_88 : (.fieldLink "LineGolomb$Ends" 27 "LineGolomb$Ends" "negatives" "I" : Cond) ∈ GW := GW_mem (List.mem_of_getElem? (i := 117) (by decide +kernel)) (by decide +kernel)
theorem gw_101 : (.fieldLink "LineGolomb$Side" 12 "LineGolomb$Side" "plain" "LLineGolomb$Ends;" : Cond) ∈ GW := GW_mem (List.mem_of_getElem? (i := 130) (by decide +kernel)) (by decide +kernel)
theorem gw_102 : (.fieldLink "LineGolomb$Side" 18 "LineGolomb$Side" "nonzero" "LLineGolomb$Ends;" : Cond) ∈ GW := GW_mem (List.mem_of_getElem? (i := 131) (by decide +kernel)) (by decide +kernel)
theorem gw_103 : (.fieldLink "LineGolomb$Side" 34 "LineGolomb$Side" "place" "I" : Cond) ∈ GW := GW_mem (List.mem_of_getElem? (i := 132) (by decide +kernel)) (by decide +kernel)
theorem gw_105 : (.fieldLink "LineGolomb$Side" 27 "LineGolomb$Side" "runWidth" "I" : Cond) ∈ GW := GW_mem (List.mem_of_getElem? (i := 134) (by decide +kernel)) (by decide +kernel)
theorem gw_116 : (.fieldLink "LineGolomb" 27 "LineGolomb" "bits" "I" : Cond) ∈ GW := GW_mem (List.mem_of_getElem? (i := 145) (by decide +kernel)) (by decide +kernel)
theorem gw_117 : (.fieldLink "LineGolomb" 37 "LineGolomb" "near" "I" : Cond) ∈ GW := GW_mem (List.mem_of_getElem? (i := 146) (by decide +kernel)) (by decide +kernel)
theorem gw_118 : (.fieldLink "LineGolomb" 50 "LineGolomb" "limit" "I" : Cond) ∈ GW := GW_mem (List.mem_of_getElem? (i := 147) (by decide +kernel)) (by decide +kernel)
theorem gw_119 : (.fieldLink "LineGolomb" 40 "LineGolomb" "span" "I" : Cond) ∈ GW := GW_mem (List.mem_of_getElem? (i := 148) (by decide +kernel)) (by decide +kernel)
theorem gw_120 : (.fieldLink "LineGolomb" 47 "LineGolomb" "q" "I" : Cond) ∈ GW := GW_mem (List.mem_of_getElem? (i := 149) (by decide +kernel)) (by decide +kernel)
theorem gw_121 : (.fieldLink "LineGolomb" 61 "LineGolomb" "writer" "LLineGolomb$Side;" : Cond) ∈ GW := GW_mem (List.mem_of_getElem? (i := 150) (by decide +kernel)) (by decide +kernel)
theorem gw_122 : (.fieldLink "LineGolomb" 65 "LineGolomb" "reader" "LLineGolomb$Side;" : Cond) ∈ GW := GW_mem (List.mem_of_getElem? (i := 151) (by decide +kernel)) (by decide +kernel)
theorem gw_123 : (.fieldLink "LineGolomb" 10 "LineGolomb" "written" "LLineGolomb$BitRow;" : Cond) ∈ GW := GW_mem (List.mem_of_getElem? (i := 152) (by decide +kernel)) (by decide +kernel)
theorem gw_124 : (.fieldLink "LineGolomb" 19 "LineGolomb" "queue" "LLineGolomb$BitQueue;" : Cond) ∈ GW := GW_mem (List.mem_of_getElem? (i := 153) (by decide +kernel)) (by decide +kernel)
theorem gw_125 : (.fieldLink "LineGolomb" 196 "LineGolomb" "lastRunBroken" "Z" : Cond) ∈ GW := GW_mem (List.mem_of_getElem? (i := 154) (by decide +kernel)) (by decide +kernel)
theorem gw_147 : (.methodLink "LineGolombLaw" 87 y_X_size : Cond) ∈ GW := GW_mem (List.mem_of_getElem? (i := 176) (by decide +kernel)) (by decide +kernel)
theorem gw_148 : (.instanceMethod y_X_size : Cond) ∈ GW := GW_mem (List.mem_of_getElem? (i := 177) (by decide +kernel)) (by decide +kernel)
theorem gw_149 : (.selects "LineGolomb" y_X_size y_X_size : Cond) ∈ GW := GW_mem (List.mem_of_getElem? (i := 178) (by decide +kernel)) (by decide +kernel)
theorem gw_150 : (.code y_X_size prog_1_method_6_code 1 (some .int) : Cond) ∈ GW := GW_mem (List.mem_of_getElem? (i := 179) (by decide +kernel)) (by decide +kernel)
theorem gw_151 : (.methodLink "LineGolombLaw" 106 y_X_wasEnded : Cond) ∈ GW := GW_mem (List.mem_of_getElem? (i := 180) (by decide +kernel)) (by decide +kernel)
theorem gw_152 : (.instanceMethod y_X_wasEnded : Cond) ∈ GW := GW_mem (List.mem_of_getElem? (i := 181) (by decide +kernel)) (by decide +kernel)
theorem gw_153 : (.selects "LineGolomb" y_X_wasEnded y_X_wasEnded : Cond) ∈ GW := GW_mem (List.mem_of_getElem? (i := 182) (by decide +kernel)) (by decide +kernel)
theorem gw_154 : (.code y_X_wasEnded prog_1_method_12_code 1 (some .boolean) : Cond) ∈ GW := GW_mem (List.mem_of_getElem? (i := 183) (by decide +kernel)) (by decide +kernel)
theorem gw_155 : (.methodLink "LineGolombLaw" 111 y_X_waiting : Cond) ∈ GW := GW_mem (List.mem_of_getElem? (i := 184) (by decide +kernel)) (by decide +kernel)
theorem gw_156 : (.instanceMethod y_X_waiting : Cond) ∈ GW := GW_mem (List.mem_of_getElem? (i := 185) (by decide +kernel)) (by decide +kernel)
theorem gw_157 : (.selects "LineGolomb" y_X_waiting y_X_waiting : Cond) ∈ GW := GW_mem (List.mem_of_getElem? (i := 186) (by decide +kernel)) (by decide +kernel)
theorem gw_158 : (.code y_X_waiting prog_1_method_13_code 1 (some .int) : Cond) ∈ GW := GW_mem (List.mem_of_getElem? (i := 187) (by decide +kernel)) (by decide +kernel)
theorem gw_159 : (.methodLink "LineGolombLaw" 121 y_X_step : Cond) ∈ GW := GW_mem (List.mem_of_getElem? (i := 188) (by decide +kernel)) (by decide +kernel)
theorem gw_160 : (.instanceMethod y_X_step : Cond) ∈ GW := GW_mem (List.mem_of_getElem? (i := 189) (by decide +kernel)) (by decide +kernel)
theorem gw_161 : (.selects "LineGolomb" y_X_step y_X_step : Cond) ∈ GW := GW_mem (List.mem_of_getElem? (i := 190) (by decide +kernel)) (by decide +kernel)
theorem gw_162 : (.code y_X_step prog_1_method_16_code 2 (some .int) : Cond) ∈ GW := GW_mem (List.mem_of_getElem? (i := 191) (by decide +kernel)) (by decide +kernel)
theorem gw_163 : (.methodLink "LineGolomb" 206 y_X_sideOf : Cond) ∈ GW := GW_mem (List.mem_of_getElem? (i := 192) (by decide +kernel)) (by decide +kernel)
theorem gw_165 : (.instanceMethod y_X_sideOf : Cond) ∈ GW := GW_mem (List.mem_of_getElem? (i := 194) (by decide +kernel)) (by decide +kernel)
theorem gw_166 : (.code y_X_sideOf prog_1_method_27_code 2 (some (.object "LineGolomb$Side")) : Cond) ∈ GW := GW_mem (List.mem_of_getElem? (i := 195) (by decide +kernel)) (by decide +kernel)
theorem gw_167 : (.methodLink "LineGolombLaw" 130 y_X_told : Cond) ∈ GW := GW_mem (List.mem_of_getElem? (i := 196) (by decide +kernel)) (by decide +kernel)
theorem gw_168 : (.instanceMethod y_X_told : Cond) ∈ GW := GW_mem (List.mem_of_getElem? (i := 197) (by decide +kernel)) (by decide +kernel)
theorem gw_169 : (.selects "LineGolomb" y_X_told y_X_told : Cond) ∈ GW := GW_mem (List.mem_of_getElem? (i := 198) (by decide +kernel)) (by decide +kernel)
theorem gw_170 : (.code y_X_told prog_1_method_18_code 2 (some .int) : Cond) ∈ GW := GW_mem (List.mem_of_getElem? (i := 199) (by decide +kernel)) (by decide +kernel)
theorem gw_171 : (.methodLink "LineGolombLaw" 134 y_X_clear : Cond) ∈ GW := GW_mem (List.mem_of_getElem? (i := 200) (by decide +kernel)) (by decide +kernel)
theorem gw_172 : (.instanceMethod y_X_clear : Cond) ∈ GW := GW_mem (List.mem_of_getElem? (i := 201) (by decide +kernel)) (by decide +kernel)
theorem gw_173 : (.selects "LineGolomb" y_X_clear y_X_clear : Cond) ∈ GW := GW_mem (List.mem_of_getElem? (i := 202) (by decide +kernel)) (by decide +kernel)
theorem gw_174 : (.code y_X_clear prog_1_method_19_code 1 none : Cond) ∈ GW := GW_mem (List.mem_of_getElem? (i := 203) (by decide +kernel)) (by decide +kernel)
theorem gw_175 : (.methodLink "LineGolomb" 186 y_Q_drop : Cond) ∈ GW := GW_mem (List.mem_of_getElem? (i := 204) (by decide +kernel)) (by decide +kernel)
theorem gw_176 : (.instanceMethod y_Q_drop : Cond) ∈ GW := GW_mem (List.mem_of_getElem? (i := 205) (by decide +kernel)) (by decide +kernel)
theorem gw_177 : (.selects "LineGolomb$BitQueue" y_Q_drop y_Q_drop : Cond) ∈ GW := GW_mem (List.mem_of_getElem? (i := 206) (by decide +kernel)) (by decide +kernel)
theorem gw_178 : (.code y_Q_drop prog_2_method_8_code 3 none : Cond) ∈ GW := GW_mem (List.mem_of_getElem? (i := 207) (by decide +kernel)) (by decide +kernel)
theorem gw_179 : (.methodLink "LineGolomb$BitQueue" 29 Lib.Math.min.name : Cond) ∈ GW := GW_mem (List.mem_of_getElem? (i := 208) (by decide +kernel)) (by decide +kernel)
theorem gw_180 : (.methodLink "LineGolomb$BitQueue" 22 y_Q_placeOf : Cond) ∈ GW := GW_mem (List.mem_of_getElem? (i := 209) (by decide +kernel)) (by decide +kernel)
theorem gw_182 : (.instanceMethod y_Q_placeOf : Cond) ∈ GW := GW_mem (List.mem_of_getElem? (i := 211) (by decide +kernel)) (by decide +kernel)
theorem gw_183 : (.code y_Q_placeOf prog_2_method_3_code 3 (some .int) : Cond) ∈ GW := GW_mem (List.mem_of_getElem? (i := 212) (by decide +kernel)) (by decide +kernel)
theorem gw_184 : (.methodLink "LineGolomb" 221 y_S_restart : Cond) ∈ GW := GW_mem (List.mem_of_getElem? (i := 213) (by decide +kernel)) (by decide +kernel)
theorem gw_185 : (.instanceMethod y_S_restart : Cond) ∈ GW := GW_mem (List.mem_of_getElem? (i := 214) (by decide +kernel)) (by decide +kernel)
theorem gw_186 : (.selects "LineGolomb$Side" y_S_restart y_S_restart : Cond) ∈ GW := GW_mem (List.mem_of_getElem? (i := 215) (by decide +kernel)) (by decide +kernel)
theorem gw_187 : (.code y_S_restart prog_5_method_4_code 1 none : Cond) ∈ GW := GW_mem (List.mem_of_getElem? (i := 216) (by decide +kernel)) (by decide +kernel)
theorem gw_188 : (.methodLink "LineGolomb$Side" 37 y_E_restart : Cond) ∈ GW := GW_mem (List.mem_of_getElem? (i := 217) (by decide +kernel)) (by decide +kernel)
theorem gw_189 : (.methodLink "LineGolombLaw" 56 y_L_cell : Cond) ∈ GW := GW_mem (List.mem_of_getElem? (i := 218) (by decide +kernel)) (by decide +kernel)
theorem gw_190 : (.static y_L_cell : Cond) ∈ GW := GW_mem (List.mem_of_getElem? (i := 219) (by decide +kernel)) (by decide +kernel)
theorem gw_191 : (.code y_L_cell method_2_code 2 (some .int) : Cond) ∈ GW := GW_mem (List.mem_of_getElem? (i := 220) (by decide +kernel)) (by decide +kernel)
theorem gw_192 : (.methodLink "LineGolombLaw" 68 y_L_code : Cond) ∈ GW := GW_mem (List.mem_of_getElem? (i := 221) (by decide +kernel)) (by decide +kernel)
theorem gw_193 : (.static y_L_code : Cond) ∈ GW := GW_mem (List.mem_of_getElem? (i := 222) (by decide +kernel)) (by decide +kernel)
theorem gw_194 : (.codeWith y_L_code method_3_code 5 (some .int) [(0, 10, 13, 13), (0, 10, 17, 15)] : Cond) ∈ GW := GW_mem (List.mem_of_getElem? (i := 223) (by decide +kernel)) (by decide +kernel)
theorem gw_195 : (.classLink "LineGolombLaw" 13 "java/lang/IllegalArgumentException" : Cond) ∈ GW := GW_mem (List.mem_of_getElem? (i := 224) (by decide +kernel)) (by decide +kernel)
theorem gw_196 : (.classLink "LineGolombLaw" 15 "java/lang/UnsupportedOperationException" : Cond) ∈ GW := GW_mem (List.mem_of_getElem? (i := 225) (by decide +kernel)) (by decide +kernel)
theorem gw_197 : (.methodLink "LineGolombLaw" 7 y_X_code : Cond) ∈ GW := GW_mem (List.mem_of_getElem? (i := 226) (by decide +kernel)) (by decide +kernel)
theorem gw_198 : (.instanceMethod y_X_code : Cond) ∈ GW := GW_mem (List.mem_of_getElem? (i := 227) (by decide +kernel)) (by decide +kernel)
theorem gw_199 : (.selects "LineGolomb" y_X_code y_X_code : Cond) ∈ GW := GW_mem (List.mem_of_getElem? (i := 228) (by decide +kernel)) (by decide +kernel)
theorem gw_200 : (.code y_X_code prog_1_method_2_code 5 (some .int) : Cond) ∈ GW := GW_mem (List.mem_of_getElem? (i := 229) (by decide +kernel)) (by decide +kernel)
theorem gw_201 : (.classLink "LineGolomb" 68 "java/lang/IllegalArgumentException" : Cond) ∈ GW := GW_mem (List.mem_of_getElem? (i := 230) (by decide +kernel)) (by decide +kernel)
theorem gw_202 : (.instantiable "java/lang/IllegalArgumentException" 6 : Cond) ∈ GW := GW_mem (List.mem_of_getElem? (i := 231) (by decide +kernel)) (by decide +kernel)
theorem gw_269 : (.methodLink "LineGolomb" 77 y_X_mostZeros : Cond) ∈ GW := GW_mem (List.mem_of_getElem? (i := 298) (by decide +kernel)) (by decide +kernel)
theorem gw_271 : (.instanceMethod y_X_mostZeros : Cond) ∈ GW := GW_mem (List.mem_of_getElem? (i := 300) (by decide +kernel)) (by decide +kernel)
theorem gw_272 : (.code y_X_mostZeros prog_1_method_29_code 2 (some .int) : Cond) ∈ GW := GW_mem (List.mem_of_getElem? (i := 301) (by decide +kernel)) (by decide +kernel)
theorem gw_273 : (.methodLink "LineGolomb" 80 y_X_numberLength : Cond) ∈ GW := GW_mem (List.mem_of_getElem? (i := 302) (by decide +kernel)) (by decide +kernel)
theorem gw_275 : (.instanceMethod y_X_numberLength : Cond) ∈ GW := GW_mem (List.mem_of_getElem? (i := 304) (by decide +kernel)) (by decide +kernel)
theorem gw_276 : (.code y_X_numberLength prog_1_method_30_code 5 (some .int) : Cond) ∈ GW := GW_mem (List.mem_of_getElem? (i := 305) (by decide +kernel)) (by decide +kernel)
theorem gw_277 : (.methodLink "LineGolomb" 83 y_B_hasRoom : Cond) ∈ GW := GW_mem (List.mem_of_getElem? (i := 306) (by decide +kernel)) (by decide +kernel)
theorem gw_278 : (.instanceMethod y_B_hasRoom : Cond) ∈ GW := GW_mem (List.mem_of_getElem? (i := 307) (by decide +kernel)) (by decide +kernel)
theorem gw_279 : (.selects "LineGolomb$BitRow" y_B_hasRoom y_B_hasRoom : Cond) ∈ GW := GW_mem (List.mem_of_getElem? (i := 308) (by decide +kernel)) (by decide +kernel)
theorem gw_280 : (.code y_B_hasRoom prog_3_method_2_code 2 (some .boolean) : Cond) ∈ GW := GW_mem (List.mem_of_getElem? (i := 309) (by decide +kernel)) (by decide +kernel)
theorem gw_281 : (.classLink "LineGolomb" 87 "java/lang/UnsupportedOperationException" : Cond) ∈ GW := GW_mem (List.mem_of_getElem? (i := 310) (by decide +kernel)) (by decide +kernel)
theorem gw_282 : (.instantiable "java/lang/UnsupportedOperationException" 6 : Cond) ∈ GW := GW_mem (List.mem_of_getElem? (i := 311) (by decide +kernel)) (by decide +kernel)
theorem gw_297 : (.methodLink "LineGolomb" 92 y_X_writeNumber : Cond) ∈ GW := GW_mem (List.mem_of_getElem? (i := 326) (by decide +kernel)) (by decide +kernel)
theorem gw_299 : (.instanceMethod y_X_writeNumber : Cond) ∈ GW := GW_mem (List.mem_of_getElem? (i := 328) (by decide +kernel)) (by decide +kernel)
theorem gw_300 : (.code y_X_writeNumber prog_1_method_31_code 5 none : Cond) ∈ GW := GW_mem (List.mem_of_getElem? (i := 329) (by decide +kernel)) (by decide +kernel)
theorem gw_301 : (.methodLink "LineGolomb" 108 y_B_putSame : Cond) ∈ GW := GW_mem (List.mem_of_getElem? (i := 330) (by decide +kernel)) (by decide +kernel)
theorem gw_302 : (.instanceMethod y_B_putSame : Cond) ∈ GW := GW_mem (List.mem_of_getElem? (i := 331) (by decide +kernel)) (by decide +kernel)
theorem gw_303 : (.selects "LineGolomb$BitRow" y_B_putSame y_B_putSame : Cond) ∈ GW := GW_mem (List.mem_of_getElem? (i := 332) (by decide +kernel)) (by decide +kernel)
theorem gw_304 : (.code y_B_putSame prog_3_method_4_code 4 none : Cond) ∈ GW := GW_mem (List.mem_of_getElem? (i := 333) (by decide +kernel)) (by decide +kernel)
theorem gw_305 : (.methodLink "LineGolomb" 112 y_B_putLow : Cond) ∈ GW := GW_mem (List.mem_of_getElem? (i := 334) (by decide +kernel)) (by decide +kernel)
theorem gw_306 : (.instanceMethod y_B_putLow : Cond) ∈ GW := GW_mem (List.mem_of_getElem? (i := 335) (by decide +kernel)) (by decide +kernel)
theorem gw_307 : (.selects "LineGolomb$BitRow" y_B_putLow y_B_putLow : Cond) ∈ GW := GW_mem (List.mem_of_getElem? (i := 336) (by decide +kernel)) (by decide +kernel)
theorem gw_308 : (.code y_B_putLow prog_3_method_5_code 4 none : Cond) ∈ GW := GW_mem (List.mem_of_getElem? (i := 337) (by decide +kernel)) (by decide +kernel)
theorem gw_309 : (.methodLink "LineGolomb$BitRow" 19 y_B_putSame : Cond) ∈ GW := GW_mem (List.mem_of_getElem? (i := 338) (by decide +kernel)) (by decide +kernel)
theorem gw_310 : (.methodLink "LineGolombLaw" 76 y_L_run : Cond) ∈ GW := GW_mem (List.mem_of_getElem? (i := 339) (by decide +kernel)) (by decide +kernel)
theorem gw_311 : (.static y_L_run : Cond) ∈ GW := GW_mem (List.mem_of_getElem? (i := 340) (by decide +kernel)) (by decide +kernel)
theorem gw_312 : (.codeWith y_L_run method_4_code 5 (some .int) [(0, 10, 13, 13), (0, 10, 17, 15)] : Cond) ∈ GW := GW_mem (List.mem_of_getElem? (i := 341) (by decide +kernel)) (by decide +kernel)
theorem gw_313 : (.methodLink "LineGolombLaw" 17 y_X_run : Cond) ∈ GW := GW_mem (List.mem_of_getElem? (i := 342) (by decide +kernel)) (by decide +kernel)
theorem gw_314 : (.instanceMethod y_X_run : Cond) ∈ GW := GW_mem (List.mem_of_getElem? (i := 343) (by decide +kernel)) (by decide +kernel)
theorem gw_315 : (.selects "LineGolomb" y_X_run y_X_run : Cond) ∈ GW := GW_mem (List.mem_of_getElem? (i := 344) (by decide +kernel)) (by decide +kernel)
theorem gw_316 : (.code y_X_run prog_1_method_3_code 8 (some .int) : Cond) ∈ GW := GW_mem (List.mem_of_getElem? (i := 345) (by decide +kernel)) (by decide +kernel)
theorem gw_317 : (.constant "LineGolomb" 96 (65535 : Int32) : Cond) ∈ GW := GW_mem (List.mem_of_getElem? (i := 346) (by decide +kernel)) (by decide +kernel)
theorem gw_319 : (.methodLink "LineGolomb" 102 y_X_widthOf : Cond) ∈ GW := GW_mem (List.mem_of_getElem? (i := 348) (by decide +kernel)) (by decide +kernel)
theorem gw_320 : (.static y_X_widthOf : Cond) ∈ GW := GW_mem (List.mem_of_getElem? (i := 349) (by decide +kernel)) (by decide +kernel)
theorem gw_321 : (.code y_X_widthOf prog_1_method_22_code 1 (some .int) : Cond) ∈ GW := GW_mem (List.mem_of_getElem? (i := 350) (by decide +kernel)) (by decide +kernel)
theorem gw_322 : (.fieldLink "LineGolomb" 224 "LineGolomb" "WIDTHS" "[I" : Cond) ∈ GW := GW_mem (List.mem_of_getElem? (i := 351) (by decide +kernel)) (by decide +kernel)
theorem gw_324 : (.methodLink "LineGolomb" 105 y_X_stepAbove : Cond) ∈ GW := GW_mem (List.mem_of_getElem? (i := 353) (by decide +kernel)) (by decide +kernel)
theorem gw_325 : (.static y_X_stepAbove : Cond) ∈ GW := GW_mem (List.mem_of_getElem? (i := 354) (by decide +kernel)) (by decide +kernel)
theorem gw_326 : (.code y_X_stepAbove prog_1_method_23_code 1 (some .int) : Cond) ∈ GW := GW_mem (List.mem_of_getElem? (i := 355) (by decide +kernel)) (by decide +kernel)
theorem gw_327 : (.methodLink "LineGolomb" 115 y_S_endRun : Cond) ∈ GW := GW_mem (List.mem_of_getElem? (i := 356) (by decide +kernel)) (by decide +kernel)
theorem gw_328 : (.instanceMethod y_S_endRun : Cond) ∈ GW := GW_mem (List.mem_of_getElem? (i := 357) (by decide +kernel)) (by decide +kernel)
theorem gw_329 : (.selects "LineGolomb$Side" y_S_endRun y_S_endRun : Cond) ∈ GW := GW_mem (List.mem_of_getElem? (i := 358) (by decide +kernel)) (by decide +kernel)
theorem gw_330 : (.code y_S_endRun prog_5_method_3_code 3 none : Cond) ∈ GW := GW_mem (List.mem_of_getElem? (i := 359) (by decide +kernel)) (by decide +kernel)
theorem gw_333 : (.static y_X_stepBelow : Cond) ∈ GW := GW_mem (List.mem_of_getElem? (i := 362) (by decide +kernel)) (by decide +kernel)
theorem gw_334 : (.code y_X_stepBelow prog_1_method_24_code 1 (some .int) : Cond) ∈ GW := GW_mem (List.mem_of_getElem? (i := 363) (by decide +kernel)) (by decide +kernel)
theorem gw_335 : (.methodLink "LineGolombLaw" 80 y_L_interrupt : Cond) ∈ GW := GW_mem (List.mem_of_getElem? (i := 364) (by decide +kernel)) (by decide +kernel)
theorem gw_336 : (.static y_L_interrupt : Cond) ∈ GW := GW_mem (List.mem_of_getElem? (i := 365) (by decide +kernel)) (by decide +kernel)
theorem gw_337 : (.codeWith y_L_interrupt method_5_code 5 (some .int) [(0, 10, 13, 24), (0, 10, 17, 13), (0, 10, 21, 15)] : Cond) ∈ GW := GW_mem (List.mem_of_getElem? (i := 366) (by decide +kernel)) (by decide +kernel)
theorem gw_338 : (.classLink "LineGolombLaw" 24 "java/lang/IndexOutOfBoundsException" : Cond) ∈ GW := GW_mem (List.mem_of_getElem? (i := 367) (by decide +kernel)) (by decide +kernel)
theorem gw_339 : (.methodLink "LineGolombLaw" 21 y_X_interrupt : Cond) ∈ GW := GW_mem (List.mem_of_getElem? (i := 368) (by decide +kernel)) (by decide +kernel)
theorem gw_340 : (.instanceMethod y_X_interrupt : Cond) ∈ GW := GW_mem (List.mem_of_getElem? (i := 369) (by decide +kernel)) (by decide +kernel)
theorem gw_341 : (.selects "LineGolomb" y_X_interrupt y_X_interrupt : Cond) ∈ GW := GW_mem (List.mem_of_getElem? (i := 370) (by decide +kernel)) (by decide +kernel)
theorem gw_342 : (.code y_X_interrupt prog_1_method_4_code 8 (some .int) : Cond) ∈ GW := GW_mem (List.mem_of_getElem? (i := 371) (by decide +kernel)) (by decide +kernel)
theorem gw_343 : (.methodLink "LineGolomb" 119 y_X_isKind : Cond) ∈ GW := GW_mem (List.mem_of_getElem? (i := 372) (by decide +kernel)) (by decide +kernel)
theorem gw_344 : (.static y_X_isKind : Cond) ∈ GW := GW_mem (List.mem_of_getElem? (i := 373) (by decide +kernel)) (by decide +kernel)
theorem gw_345 : (.code y_X_isKind prog_1_method_25_code 1 (some .boolean) : Cond) ∈ GW := GW_mem (List.mem_of_getElem? (i := 374) (by decide +kernel)) (by decide +kernel)
theorem gw_346 : (.classLink "LineGolomb" 122 "java/lang/IndexOutOfBoundsException" : Cond) ∈ GW := GW_mem (List.mem_of_getElem? (i := 375) (by decide +kernel)) (by decide +kernel)
theorem gw_347 : (.instantiable "java/lang/IndexOutOfBoundsException" 6 : Cond) ∈ GW := GW_mem (List.mem_of_getElem? (i := 376) (by decide +kernel)) (by decide +kernel)
theorem gw_362 : (.methodLink "LineGolomb" 127 y_X_isError : Cond) ∈ GW := GW_mem (List.mem_of_getElem? (i := 391) (by decide +kernel)) (by decide +kernel)
theorem gw_364 : (.instanceMethod y_X_isError : Cond) ∈ GW := GW_mem (List.mem_of_getElem? (i := 393) (by decide +kernel)) (by decide +kernel)
theorem gw_365 : (.code y_X_isError prog_1_method_26_code 4 (some .boolean) : Cond) ∈ GW := GW_mem (List.mem_of_getElem? (i := 394) (by decide +kernel)) (by decide +kernel)
theorem gw_367 : (.methodLink "LineGolomb" 133 y_S_endsOf : Cond) ∈ GW := GW_mem (List.mem_of_getElem? (i := 396) (by decide +kernel)) (by decide +kernel)
theorem gw_368 : (.instanceMethod y_S_endsOf : Cond) ∈ GW := GW_mem (List.mem_of_getElem? (i := 397) (by decide +kernel)) (by decide +kernel)
theorem gw_369 : (.selects "LineGolomb$Side" y_S_endsOf y_S_endsOf : Cond) ∈ GW := GW_mem (List.mem_of_getElem? (i := 398) (by decide +kernel)) (by decide +kernel)
theorem gw_370 : (.code y_S_endsOf prog_5_method_2_code 2 (some (.object "LineGolomb$Ends")) : Cond) ∈ GW := GW_mem (List.mem_of_getElem? (i := 399) (by decide +kernel)) (by decide +kernel)
theorem gw_371 : (.methodLink "LineGolomb" 137 y_E_shift : Cond) ∈ GW := GW_mem (List.mem_of_getElem? (i := 400) (by decide +kernel)) (by decide +kernel)
theorem gw_372 : (.instanceMethod y_E_shift : Cond) ∈ GW := GW_mem (List.mem_of_getElem? (i := 401) (by decide +kernel)) (by decide +kernel)
theorem gw_373 : (.selects "LineGolomb$Ends" y_E_shift y_E_shift : Cond) ∈ GW := GW_mem (List.mem_of_getElem? (i := 402) (by decide +kernel)) (by decide +kernel)
theorem gw_374 : (.code y_E_shift prog_4_method_3_code 3 (some .int) : Cond) ∈ GW := GW_mem (List.mem_of_getElem? (i := 403) (by decide +kernel)) (by decide +kernel)
theorem gw_375 : (.methodLink "LineGolomb" 143 y_E_numberOf : Cond) ∈ GW := GW_mem (List.mem_of_getElem? (i := 404) (by decide +kernel)) (by decide +kernel)
theorem gw_376 : (.instanceMethod y_E_numberOf : Cond) ∈ GW := GW_mem (List.mem_of_getElem? (i := 405) (by decide +kernel)) (by decide +kernel)
theorem gw_377 : (.selects "LineGolomb$Ends" y_E_numberOf y_E_numberOf : Cond) ∈ GW := GW_mem (List.mem_of_getElem? (i := 406) (by decide +kernel)) (by decide +kernel)
theorem gw_378 : (.code y_E_numberOf prog_4_method_5_code 4 (some .int) : Cond) ∈ GW := GW_mem (List.mem_of_getElem? (i := 407) (by decide +kernel)) (by decide +kernel)
theorem gw_379 : (.methodLink "LineGolomb$Ends" 30 y_E_flagsPositive : Cond) ∈ GW := GW_mem (List.mem_of_getElem? (i := 408) (by decide +kernel)) (by decide +kernel)
theorem gw_381 : (.instanceMethod y_E_flagsPositive : Cond) ∈ GW := GW_mem (List.mem_of_getElem? (i := 410) (by decide +kernel)) (by decide +kernel)
theorem gw_382 : (.code y_E_flagsPositive prog_4_method_4_code 2 (some .boolean) : Cond) ∈ GW := GW_mem (List.mem_of_getElem? (i := 411) (by decide +kernel)) (by decide +kernel)
theorem gw_383 : (.methodLink "LineGolomb$Ends" 34 Lib.Math.abs.name : Cond) ∈ GW := GW_mem (List.mem_of_getElem? (i := 412) (by decide +kernel)) (by decide +kernel)
theorem gw_384 : (.static Lib.Math.abs.name : Cond) ∈ GW := GW_mem (List.mem_of_getElem? (i := 413) (by decide +kernel)) (by decide +kernel)
theorem gw_385 : (.code Lib.Math.abs.name Lib.Math.abs.code 1 (some .int) : Cond) ∈ GW := GW_mem (List.mem_of_getElem? (i := 414) (by decide +kernel)) (by decide +kernel)
theorem gw_386 : (.methodLink "LineGolomb" 146 y_X_endLimit : Cond) ∈ GW := GW_mem (List.mem_of_getElem? (i := 415) (by decide +kernel)) (by decide +kernel)
theorem gw_388 : (.instanceMethod y_X_endLimit : Cond) ∈ GW := GW_mem (List.mem_of_getElem? (i := 417) (by decide +kernel)) (by decide +kernel)
theorem gw_389 : (.code y_X_endLimit prog_1_method_28_code 2 (some .int) : Cond) ∈ GW := GW_mem (List.mem_of_getElem? (i := 418) (by decide +kernel)) (by decide +kernel)
theorem gw_390 : (.methodLink "LineGolomb" 150 y_E_learn : Cond) ∈ GW := GW_mem (List.mem_of_getElem? (i := 419) (by decide +kernel)) (by decide +kernel)
theorem gw_391 : (.instanceMethod y_E_learn : Cond) ∈ GW := GW_mem (List.mem_of_getElem? (i := 420) (by decide +kernel)) (by decide +kernel)
theorem gw_392 : (.selects "LineGolomb$Ends" y_E_learn y_E_learn : Cond) ∈ GW := GW_mem (List.mem_of_getElem? (i := 421) (by decide +kernel)) (by decide +kernel)
theorem gw_393 : (.code y_E_learn prog_4_method_7_code 3 none : Cond) ∈ GW := GW_mem (List.mem_of_getElem? (i := 422) (by decide +kernel)) (by decide +kernel)
theorem gw_394 : (.methodLink "LineGolombLaw" 83 y_L_bitAt : Cond) ∈ GW := GW_mem (List.mem_of_getElem? (i := 423) (by decide +kernel)) (by decide +kernel)
theorem gw_395 : (.static y_L_bitAt : Cond) ∈ GW := GW_mem (List.mem_of_getElem? (i := 424) (by decide +kernel)) (by decide +kernel)
theorem gw_396 : (.codeWith y_L_bitAt method_6_code 4 (some .int) [(0, 9, 12, 24)] : Cond) ∈ GW := GW_mem (List.mem_of_getElem? (i := 425) (by decide +kernel)) (by decide +kernel)
theorem gw_397 : (.methodLink "LineGolombLaw" 26 y_X_bitAt : Cond) ∈ GW := GW_mem (List.mem_of_getElem? (i := 426) (by decide +kernel)) (by decide +kernel)
theorem gw_398 : (.instanceMethod y_X_bitAt : Cond) ∈ GW := GW_mem (List.mem_of_getElem? (i := 427) (by decide +kernel)) (by decide +kernel)
theorem gw_399 : (.selects "LineGolomb" y_X_bitAt y_X_bitAt : Cond) ∈ GW := GW_mem (List.mem_of_getElem? (i := 428) (by decide +kernel)) (by decide +kernel)
theorem gw_400 : (.code y_X_bitAt prog_1_method_5_code 2 (some .int) : Cond) ∈ GW := GW_mem (List.mem_of_getElem? (i := 429) (by decide +kernel)) (by decide +kernel)
theorem gw_402 : (.methodLink "LineGolomb" 158 y_B_get : Cond) ∈ GW := GW_mem (List.mem_of_getElem? (i := 431) (by decide +kernel)) (by decide +kernel)
theorem gw_403 : (.instanceMethod y_B_get : Cond) ∈ GW := GW_mem (List.mem_of_getElem? (i := 432) (by decide +kernel)) (by decide +kernel)
theorem gw_404 : (.selects "LineGolomb$BitRow" y_B_get y_B_get : Cond) ∈ GW := GW_mem (List.mem_of_getElem? (i := 433) (by decide +kernel)) (by decide +kernel)
theorem gw_405 : (.code y_B_get prog_3_method_3_code 2 (some .int) : Cond) ∈ GW := GW_mem (List.mem_of_getElem? (i := 434) (by decide +kernel)) (by decide +kernel)
theorem gw_406 : (.methodLink "LineGolombLaw" 91 y_L_feed : Cond) ∈ GW := GW_mem (List.mem_of_getElem? (i := 435) (by decide +kernel)) (by decide +kernel)
theorem gw_407 : (.static y_L_feed : Cond) ∈ GW := GW_mem (List.mem_of_getElem? (i := 436) (by decide +kernel)) (by decide +kernel)
theorem gw_408 : (.codeWith y_L_feed method_7_code 4 (some .int) [(0, 16, 19, 13)] : Cond) ∈ GW := GW_mem (List.mem_of_getElem? (i := 437) (by decide +kernel)) (by decide +kernel)
theorem gw_409 : (.methodLink "LineGolombLaw" 30 y_X_feed : Cond) ∈ GW := GW_mem (List.mem_of_getElem? (i := 438) (by decide +kernel)) (by decide +kernel)
theorem gw_410 : (.instanceMethod y_X_feed : Cond) ∈ GW := GW_mem (List.mem_of_getElem? (i := 439) (by decide +kernel)) (by decide +kernel)
theorem gw_411 : (.selects "LineGolomb" y_X_feed y_X_feed : Cond) ∈ GW := GW_mem (List.mem_of_getElem? (i := 440) (by decide +kernel)) (by decide +kernel)
theorem gw_412 : (.code y_X_feed prog_1_method_7_code 2 (some .boolean) : Cond) ∈ GW := GW_mem (List.mem_of_getElem? (i := 441) (by decide +kernel)) (by decide +kernel)
theorem gw_414 : (.methodLink "LineGolomb" 163 y_Q_add : Cond) ∈ GW := GW_mem (List.mem_of_getElem? (i := 443) (by decide +kernel)) (by decide +kernel)
theorem gw_415 : (.instanceMethod y_Q_add : Cond) ∈ GW := GW_mem (List.mem_of_getElem? (i := 444) (by decide +kernel)) (by decide +kernel)
theorem gw_416 : (.selects "LineGolomb$BitQueue" y_Q_add y_Q_add : Cond) ∈ GW := GW_mem (List.mem_of_getElem? (i := 445) (by decide +kernel)) (by decide +kernel)
theorem gw_417 : (.code y_Q_add prog_2_method_4_code 2 (some .boolean) : Cond) ∈ GW := GW_mem (List.mem_of_getElem? (i := 446) (by decide +kernel)) (by decide +kernel)
theorem gw_418 : (.methodLink "LineGolombLaw" 94 y_L_pass : Cond) ∈ GW := GW_mem (List.mem_of_getElem? (i := 447) (by decide +kernel)) (by decide +kernel)
theorem gw_419 : (.static y_L_pass : Cond) ∈ GW := GW_mem (List.mem_of_getElem? (i := 448) (by decide +kernel)) (by decide +kernel)
theorem gw_420 : (.codeWith y_L_pass method_8_code 5 (some .int) [(0, 10, 13, 24), (0, 10, 17, 13)] : Cond) ∈ GW := GW_mem (List.mem_of_getElem? (i := 449) (by decide +kernel)) (by decide +kernel)
theorem gw_421 : (.methodLink "LineGolombLaw" 34 y_X_pass : Cond) ∈ GW := GW_mem (List.mem_of_getElem? (i := 450) (by decide +kernel)) (by decide +kernel)
theorem gw_422 : (.instanceMethod y_X_pass : Cond) ∈ GW := GW_mem (List.mem_of_getElem? (i := 451) (by decide +kernel)) (by decide +kernel)
theorem gw_423 : (.selects "LineGolomb" y_X_pass y_X_pass : Cond) ∈ GW := GW_mem (List.mem_of_getElem? (i := 452) (by decide +kernel)) (by decide +kernel)
theorem gw_424 : (.code y_X_pass prog_1_method_8_code 5 (some .int) : Cond) ∈ GW := GW_mem (List.mem_of_getElem? (i := 453) (by decide +kernel)) (by decide +kernel)
theorem gw_426 : (.methodLink "LineGolomb" 168 y_Q_room : Cond) ∈ GW := GW_mem (List.mem_of_getElem? (i := 455) (by decide +kernel)) (by decide +kernel)
theorem gw_427 : (.instanceMethod y_Q_room : Cond) ∈ GW := GW_mem (List.mem_of_getElem? (i := 456) (by decide +kernel)) (by decide +kernel)
theorem gw_428 : (.selects "LineGolomb$BitQueue" y_Q_room y_Q_room : Cond) ∈ GW := GW_mem (List.mem_of_getElem? (i := 457) (by decide +kernel)) (by decide +kernel)
theorem gw_429 : (.code y_Q_room prog_2_method_2_code 1 (some .int) : Cond) ∈ GW := GW_mem (List.mem_of_getElem? (i := 458) (by decide +kernel)) (by decide +kernel)
theorem gw_430 : (.methodLink "LineGolombLaw" 97 y_L_read : Cond) ∈ GW := GW_mem (List.mem_of_getElem? (i := 459) (by decide +kernel)) (by decide +kernel)
theorem gw_431 : (.static y_L_read : Cond) ∈ GW := GW_mem (List.mem_of_getElem? (i := 460) (by decide +kernel)) (by decide +kernel)
theorem gw_432 : (.codeWith y_L_read method_9_code 4 (some .int) [(0, 9, 12, 13)] : Cond) ∈ GW := GW_mem (List.mem_of_getElem? (i := 461) (by decide +kernel)) (by decide +kernel)
theorem gw_433 : (.methodLink "LineGolombLaw" 37 y_X_read : Cond) ∈ GW := GW_mem (List.mem_of_getElem? (i := 462) (by decide +kernel)) (by decide +kernel)
theorem gw_434 : (.instanceMethod y_X_read : Cond) ∈ GW := GW_mem (List.mem_of_getElem? (i := 463) (by decide +kernel)) (by decide +kernel)
theorem gw_435 : (.selects "LineGolomb" y_X_read y_X_read : Cond) ∈ GW := GW_mem (List.mem_of_getElem? (i := 464) (by decide +kernel)) (by decide +kernel)
theorem gw_436 : (.code y_X_read prog_1_method_9_code 2 (some .int) : Cond) ∈ GW := GW_mem (List.mem_of_getElem? (i := 465) (by decide +kernel)) (by decide +kernel)
theorem gw_437 : (.methodLink "LineGolomb" 171 y_X_takeNumber : Cond) ∈ GW := GW_mem (List.mem_of_getElem? (i := 466) (by decide +kernel)) (by decide +kernel)
theorem gw_439 : (.instanceMethod y_X_takeNumber : Cond) ∈ GW := GW_mem (List.mem_of_getElem? (i := 468) (by decide +kernel)) (by decide +kernel)
theorem gw_440 : (.code y_X_takeNumber prog_1_method_32_code 7 (some .int) : Cond) ∈ GW := GW_mem (List.mem_of_getElem? (i := 469) (by decide +kernel)) (by decide +kernel)
theorem gw_441 : (.methodLink "LineGolomb" 231 y_Q_zerosAhead : Cond) ∈ GW := GW_mem (List.mem_of_getElem? (i := 470) (by decide +kernel)) (by decide +kernel)
theorem gw_442 : (.instanceMethod y_Q_zerosAhead : Cond) ∈ GW := GW_mem (List.mem_of_getElem? (i := 471) (by decide +kernel)) (by decide +kernel)
theorem gw_443 : (.selects "LineGolomb$BitQueue" y_Q_zerosAhead y_Q_zerosAhead : Cond) ∈ GW := GW_mem (List.mem_of_getElem? (i := 472) (by decide +kernel)) (by decide +kernel)
theorem gw_444 : (.code y_Q_zerosAhead prog_2_method_7_code 3 (some .int) : Cond) ∈ GW := GW_mem (List.mem_of_getElem? (i := 473) (by decide +kernel)) (by decide +kernel)
theorem gw_445 : (.methodLink "LineGolomb$BitQueue" 26 y_Q_look : Cond) ∈ GW := GW_mem (List.mem_of_getElem? (i := 474) (by decide +kernel)) (by decide +kernel)
theorem gw_446 : (.instanceMethod y_Q_look : Cond) ∈ GW := GW_mem (List.mem_of_getElem? (i := 475) (by decide +kernel)) (by decide +kernel)
theorem gw_447 : (.selects "LineGolomb$BitQueue" y_Q_look y_Q_look : Cond) ∈ GW := GW_mem (List.mem_of_getElem? (i := 476) (by decide +kernel)) (by decide +kernel)
theorem gw_448 : (.code y_Q_look prog_2_method_5_code 2 (some .int) : Cond) ∈ GW := GW_mem (List.mem_of_getElem? (i := 477) (by decide +kernel)) (by decide +kernel)
theorem gw_449 : (.methodLink "LineGolomb" 234 y_Q_lookNumber : Cond) ∈ GW := GW_mem (List.mem_of_getElem? (i := 478) (by decide +kernel)) (by decide +kernel)
theorem gw_450 : (.instanceMethod y_Q_lookNumber : Cond) ∈ GW := GW_mem (List.mem_of_getElem? (i := 479) (by decide +kernel)) (by decide +kernel)
theorem gw_451 : (.selects "LineGolomb$BitQueue" y_Q_lookNumber y_Q_lookNumber : Cond) ∈ GW := GW_mem (List.mem_of_getElem? (i := 480) (by decide +kernel)) (by decide +kernel)
theorem gw_452 : (.code y_Q_lookNumber prog_2_method_6_code 5 (some .int) : Cond) ∈ GW := GW_mem (List.mem_of_getElem? (i := 481) (by decide +kernel)) (by decide +kernel)
theorem gw_453 : (.methodLink "LineGolombLaw" 100 y_L_readRun : Cond) ∈ GW := GW_mem (List.mem_of_getElem? (i := 482) (by decide +kernel)) (by decide +kernel)
theorem gw_454 : (.static y_L_readRun : Cond) ∈ GW := GW_mem (List.mem_of_getElem? (i := 483) (by decide +kernel)) (by decide +kernel)
theorem gw_455 : (.codeWith y_L_readRun method_10_code 4 (some .int) [(0, 9, 12, 13)] : Cond) ∈ GW := GW_mem (List.mem_of_getElem? (i := 484) (by decide +kernel)) (by decide +kernel)
theorem gw_456 : (.methodLink "LineGolombLaw" 40 y_X_readRun : Cond) ∈ GW := GW_mem (List.mem_of_getElem? (i := 485) (by decide +kernel)) (by decide +kernel)
theorem gw_457 : (.instanceMethod y_X_readRun : Cond) ∈ GW := GW_mem (List.mem_of_getElem? (i := 486) (by decide +kernel)) (by decide +kernel)
theorem gw_458 : (.selects "LineGolomb" y_X_readRun y_X_readRun : Cond) ∈ GW := GW_mem (List.mem_of_getElem? (i := 487) (by decide +kernel)) (by decide +kernel)
theorem gw_459 : (.code y_X_readRun prog_1_method_10_code 6 (some .int) : Cond) ∈ GW := GW_mem (List.mem_of_getElem? (i := 488) (by decide +kernel)) (by decide +kernel)
theorem gw_461 : (.methodLink "LineGolomb" 179 y_Q_look : Cond) ∈ GW := GW_mem (List.mem_of_getElem? (i := 490) (by decide +kernel)) (by decide +kernel)
theorem gw_462 : (.methodLink "LineGolomb" 182 y_X_takeBrokenRun : Cond) ∈ GW := GW_mem (List.mem_of_getElem? (i := 491) (by decide +kernel)) (by decide +kernel)
theorem gw_464 : (.instanceMethod y_X_takeBrokenRun : Cond) ∈ GW := GW_mem (List.mem_of_getElem? (i := 493) (by decide +kernel)) (by decide +kernel)
theorem gw_465 : (.code y_X_takeBrokenRun prog_1_method_33_code 8 (some .int) : Cond) ∈ GW := GW_mem (List.mem_of_getElem? (i := 494) (by decide +kernel)) (by decide +kernel)
theorem gw_466 : (.methodLink "LineGolomb" 189 y_X_endReadRun : Cond) ∈ GW := GW_mem (List.mem_of_getElem? (i := 495) (by decide +kernel)) (by decide +kernel)
theorem gw_468 : (.instanceMethod y_X_endReadRun : Cond) ∈ GW := GW_mem (List.mem_of_getElem? (i := 497) (by decide +kernel)) (by decide +kernel)
theorem gw_469 : (.code y_X_endReadRun prog_1_method_34_code 3 none : Cond) ∈ GW := GW_mem (List.mem_of_getElem? (i := 498) (by decide +kernel)) (by decide +kernel)
theorem gw_470 : (.methodLink "LineGolombLaw" 103 y_L_readInterrupt : Cond) ∈ GW := GW_mem (List.mem_of_getElem? (i := 499) (by decide +kernel)) (by decide +kernel)
theorem gw_471 : (.static y_L_readInterrupt : Cond) ∈ GW := GW_mem (List.mem_of_getElem? (i := 500) (by decide +kernel)) (by decide +kernel)
theorem gw_472 : (.codeWith y_L_readInterrupt method_11_code 4 (some .int) [(0, 9, 12, 24)] : Cond) ∈ GW := GW_mem (List.mem_of_getElem? (i := 501) (by decide +kernel)) (by decide +kernel)
theorem gw_473 : (.methodLink "LineGolombLaw" 43 y_X_readInterrupt : Cond) ∈ GW := GW_mem (List.mem_of_getElem? (i := 502) (by decide +kernel)) (by decide +kernel)
theorem gw_474 : (.instanceMethod y_X_readInterrupt : Cond) ∈ GW := GW_mem (List.mem_of_getElem? (i := 503) (by decide +kernel)) (by decide +kernel)
theorem gw_475 : (.selects "LineGolomb" y_X_readInterrupt y_X_readInterrupt : Cond) ∈ GW := GW_mem (List.mem_of_getElem? (i := 504) (by decide +kernel)) (by decide +kernel)
theorem gw_476 : (.code y_X_readInterrupt prog_1_method_11_code 6 (some .int) : Cond) ∈ GW := GW_mem (List.mem_of_getElem? (i := 505) (by decide +kernel)) (by decide +kernel)
theorem gw_477 : (.constant "LineGolomb" 192 (2147483647 : Int32) : Cond) ∈ GW := GW_mem (List.mem_of_getElem? (i := 506) (by decide +kernel)) (by decide +kernel)
theorem gw_478 : (.methodLink "LineGolomb" 193 y_E_errorOf : Cond) ∈ GW := GW_mem (List.mem_of_getElem? (i := 507) (by decide +kernel)) (by decide +kernel)
theorem gw_479 : (.instanceMethod y_E_errorOf : Cond) ∈ GW := GW_mem (List.mem_of_getElem? (i := 508) (by decide +kernel)) (by decide +kernel)
theorem gw_480 : (.selects "LineGolomb$Ends" y_E_errorOf y_E_errorOf : Cond) ∈ GW := GW_mem (List.mem_of_getElem? (i := 509) (by decide +kernel)) (by decide +kernel)
theorem gw_481 : (.code y_E_errorOf prog_4_method_6_code 6 (some .int) : Cond) ∈ GW := GW_mem (List.mem_of_getElem? (i := 510) (by decide +kernel)) (by decide +kernel)
theorem gw_482 : (.methodLink "LineGolombLaw" 115 y_L_map : Cond) ∈ GW := GW_mem (List.mem_of_getElem? (i := 511) (by decide +kernel)) (by decide +kernel)
theorem gw_483 : (.static y_L_map : Cond) ∈ GW := GW_mem (List.mem_of_getElem? (i := 512) (by decide +kernel)) (by decide +kernel)
theorem gw_484 : (.codeWith y_L_map method_12_code 5 (some .int) [(0, 10, 13, 13)] : Cond) ∈ GW := GW_mem (List.mem_of_getElem? (i := 513) (by decide +kernel)) (by decide +kernel)
theorem gw_485 : (.methodLink "LineGolombLaw" 46 y_X_map : Cond) ∈ GW := GW_mem (List.mem_of_getElem? (i := 514) (by decide +kernel)) (by decide +kernel)
theorem gw_486 : (.instanceMethod y_X_map : Cond) ∈ GW := GW_mem (List.mem_of_getElem? (i := 515) (by decide +kernel)) (by decide +kernel)
theorem gw_487 : (.selects "LineGolomb" y_X_map y_X_map : Cond) ∈ GW := GW_mem (List.mem_of_getElem? (i := 516) (by decide +kernel)) (by decide +kernel)
theorem gw_488 : (.code y_X_map prog_1_method_14_code 3 (some .int) : Cond) ∈ GW := GW_mem (List.mem_of_getElem? (i := 517) (by decide +kernel)) (by decide +kernel)
theorem gw_489 : (.constant "LineGolomb" 200 (-65536 : Int32) : Cond) ∈ GW := GW_mem (List.mem_of_getElem? (i := 518) (by decide +kernel)) (by decide +kernel)
theorem gw_490 : (.constant "LineGolomb" 201 (65536 : Int32) : Cond) ∈ GW := GW_mem (List.mem_of_getElem? (i := 519) (by decide +kernel)) (by decide +kernel)
theorem gw_492 : (.methodLink "LineGolombLaw" 118 y_L_unmap : Cond) ∈ GW := GW_mem (List.mem_of_getElem? (i := 521) (by decide +kernel)) (by decide +kernel)
theorem gw_493 : (.static y_L_unmap : Cond) ∈ GW := GW_mem (List.mem_of_getElem? (i := 522) (by decide +kernel)) (by decide +kernel)
theorem gw_494 : (.codeWith y_L_unmap method_13_code 5 (some .int) [(0, 10, 13, 13)] : Cond) ∈ GW := GW_mem (List.mem_of_getElem? (i := 523) (by decide +kernel)) (by decide +kernel)
theorem gw_495 : (.methodLink "LineGolombLaw" 49 y_X_unmap : Cond) ∈ GW := GW_mem (List.mem_of_getElem? (i := 524) (by decide +kernel)) (by decide +kernel)
theorem gw_496 : (.instanceMethod y_X_unmap : Cond) ∈ GW := GW_mem (List.mem_of_getElem? (i := 525) (by decide +kernel)) (by decide +kernel)
theorem gw_497 : (.selects "LineGolomb" y_X_unmap y_X_unmap : Cond) ∈ GW := GW_mem (List.mem_of_getElem? (i := 526) (by decide +kernel)) (by decide +kernel)
theorem gw_498 : (.code y_X_unmap prog_1_method_15_code 6 (some .int) : Cond) ∈ GW := GW_mem (List.mem_of_getElem? (i := 527) (by decide +kernel)) (by decide +kernel)
theorem gw_500 : (.methodLink "LineGolombLaw" 126 y_L_state : Cond) ∈ GW := GW_mem (List.mem_of_getElem? (i := 529) (by decide +kernel)) (by decide +kernel)
theorem gw_501 : (.static y_L_state : Cond) ∈ GW := GW_mem (List.mem_of_getElem? (i := 530) (by decide +kernel)) (by decide +kernel)
theorem gw_502 : (.codeWith y_L_state method_14_code 6 (some .int) [(0, 12, 15, 24), (0, 12, 19, 13)] : Cond) ∈ GW := GW_mem (List.mem_of_getElem? (i := 531) (by decide +kernel)) (by decide +kernel)
theorem gw_503 : (.methodLink "LineGolombLaw" 52 y_X_state : Cond) ∈ GW := GW_mem (List.mem_of_getElem? (i := 532) (by decide +kernel)) (by decide +kernel)
theorem gw_504 : (.instanceMethod y_X_state : Cond) ∈ GW := GW_mem (List.mem_of_getElem? (i := 533) (by decide +kernel)) (by decide +kernel)
theorem gw_505 : (.selects "LineGolomb" y_X_state y_X_state : Cond) ∈ GW := GW_mem (List.mem_of_getElem? (i := 534) (by decide +kernel)) (by decide +kernel)
theorem gw_506 : (.code y_X_state prog_1_method_17_code 5 (some .int) : Cond) ∈ GW := GW_mem (List.mem_of_getElem? (i := 535) (by decide +kernel)) (by decide +kernel)
theorem gw_508 : (.classLink "LineGolombLaw" 65 "LineGolombModel" : Cond) ∈ GW := GW_mem (List.mem_of_getElem? (i := 537) (by decide +kernel)) (by decide +kernel)
theorem gw_509 : (.instantiable "LineGolombModel" 20 : Cond) ∈ GW := GW_mem (List.mem_of_getElem? (i := 538) (by decide +kernel)) (by decide +kernel)
theorem gw_510 : (.methodLink "LineGolombLaw" 67 y_M_init : Cond) ∈ GW := GW_mem (List.mem_of_getElem? (i := 539) (by decide +kernel)) (by decide +kernel)
theorem gw_511 : (.instanceMethod y_M_init : Cond) ∈ GW := GW_mem (List.mem_of_getElem? (i := 540) (by decide +kernel)) (by decide +kernel)
theorem gw_512 : (.code y_M_init prog_7_method_1_code 6 none : Cond) ∈ GW := GW_mem (List.mem_of_getElem? (i := 541) (by decide +kernel)) (by decide +kernel)
theorem gw_513 : (.methodLink "LineGolombModel" 1 objectInit : Cond) ∈ GW := GW_mem (List.mem_of_getElem? (i := 542) (by decide +kernel)) (by decide +kernel)
theorem gw_514 : (.methodLink "LineGolombModel" 35 y_M_within : Cond) ∈ GW := GW_mem (List.mem_of_getElem? (i := 543) (by decide +kernel)) (by decide +kernel)
theorem gw_515 : (.static y_M_within : Cond) ∈ GW := GW_mem (List.mem_of_getElem? (i := 544) (by decide +kernel)) (by decide +kernel)
theorem gw_516 : (.code y_M_within prog_7_method_3_code 3 (some .int) : Cond) ∈ GW := GW_mem (List.mem_of_getElem? (i := 545) (by decide +kernel)) (by decide +kernel)
theorem gw_517 : (.methodLink "LineGolombModel" 43 y_M_power : Cond) ∈ GW := GW_mem (List.mem_of_getElem? (i := 546) (by decide +kernel)) (by decide +kernel)
theorem gw_518 : (.static y_M_power : Cond) ∈ GW := GW_mem (List.mem_of_getElem? (i := 547) (by decide +kernel)) (by decide +kernel)
theorem gw_519 : (.code y_M_power prog_7_method_4_code 3 (some .int) : Cond) ∈ GW := GW_mem (List.mem_of_getElem? (i := 548) (by decide +kernel)) (by decide +kernel)
theorem gw_520 : (.methodLink "LineGolombModel" 59 y_M_begin : Cond) ∈ GW := GW_mem (List.mem_of_getElem? (i := 549) (by decide +kernel)) (by decide +kernel)
theorem gw_522 : (.instanceMethod y_M_begin : Cond) ∈ GW := GW_mem (List.mem_of_getElem? (i := 551) (by decide +kernel)) (by decide +kernel)
theorem gw_523 : (.code y_M_begin prog_7_method_5_code 3 none : Cond) ∈ GW := GW_mem (List.mem_of_getElem? (i := 552) (by decide +kernel)) (by decide +kernel)
theorem gw_524 : (.fieldLink "LineGolombModel" 62 "LineGolombModel" "thrown" "I" : Cond) ∈ GW := GW_mem (List.mem_of_getElem? (i := 553) (by decide +kernel)) (by decide +kernel)
theorem gw_525 : (.fieldLink "LineGolombModel" 39 "LineGolombModel" "bits" "I" : Cond) ∈ GW := GW_mem (List.mem_of_getElem? (i := 554) (by decide +kernel)) (by decide +kernel)
theorem gw_526 : (.fieldLink "LineGolombModel" 47 "LineGolombModel" "near" "I" : Cond) ∈ GW := GW_mem (List.mem_of_getElem? (i := 555) (by decide +kernel)) (by decide +kernel)
theorem gw_527 : (.fieldLink "LineGolombModel" 56 "LineGolombModel" "limit" "I" : Cond) ∈ GW := GW_mem (List.mem_of_getElem? (i := 556) (by decide +kernel)) (by decide +kernel)
theorem gw_528 : (.fieldLink "LineGolombModel" 50 "LineGolombModel" "span" "I" : Cond) ∈ GW := GW_mem (List.mem_of_getElem? (i := 557) (by decide +kernel)) (by decide +kernel)
theorem gw_529 : (.fieldLink "LineGolombModel" 53 "LineGolombModel" "q" "I" : Cond) ∈ GW := GW_mem (List.mem_of_getElem? (i := 558) (by decide +kernel)) (by decide +kernel)
theorem gw_530 : (.fieldLink "LineGolombModel" 7 "LineGolombModel" "steps" "[I" : Cond) ∈ GW := GW_mem (List.mem_of_getElem? (i := 559) (by decide +kernel)) (by decide +kernel)
theorem gw_531 : (.fieldLink "LineGolombModel" 13 "LineGolombModel" "lastWidths" "[I" : Cond) ∈ GW := GW_mem (List.mem_of_getElem? (i := 560) (by decide +kernel)) (by decide +kernel)
theorem gw_532 : (.fieldLink "LineGolombModel" 16 "LineGolombModel" "sums" "[I" : Cond) ∈ GW := GW_mem (List.mem_of_getElem? (i := 561) (by decide +kernel)) (by decide +kernel)
theorem gw_533 : (.fieldLink "LineGolombModel" 19 "LineGolombModel" "counts" "[I" : Cond) ∈ GW := GW_mem (List.mem_of_getElem? (i := 562) (by decide +kernel)) (by decide +kernel)
theorem gw_534 : (.fieldLink "LineGolombModel" 22 "LineGolombModel" "negatives" "[I" : Cond) ∈ GW := GW_mem (List.mem_of_getElem? (i := 563) (by decide +kernel)) (by decide +kernel)
theorem gw_535 : (.fieldLink "LineGolombModel" 65 "LineGolombModel" "ended" "Z" : Cond) ∈ GW := GW_mem (List.mem_of_getElem? (i := 564) (by decide +kernel)) (by decide +kernel)
theorem gw_536 : (.fieldLink "LineGolombModel" 69 "LineGolombModel" "size" "I" : Cond) ∈ GW := GW_mem (List.mem_of_getElem? (i := 565) (by decide +kernel)) (by decide +kernel)
theorem gw_537 : (.fieldLink "LineGolombModel" 25 "LineGolombModel" "written" "[B" : Cond) ∈ GW := GW_mem (List.mem_of_getElem? (i := 566) (by decide +kernel)) (by decide +kernel)
theorem gw_538 : (.fieldLink "LineGolombModel" 72 "LineGolombModel" "waits" "I" : Cond) ∈ GW := GW_mem (List.mem_of_getElem? (i := 567) (by decide +kernel)) (by decide +kernel)
theorem gw_539 : (.fieldLink "LineGolombModel" 29 "LineGolombModel" "waiting" "[B" : Cond) ∈ GW := GW_mem (List.mem_of_getElem? (i := 568) (by decide +kernel)) (by decide +kernel)
theorem gw_540 : (.fieldLink "LineGolombModel" 75 "LineGolombModel" "laid" "I" : Cond) ∈ GW := GW_mem (List.mem_of_getElem? (i := 569) (by decide +kernel)) (by decide +kernel)
theorem gw_541 : (.fieldLink "LineGolombModel" 32 "LineGolombModel" "draft" "[B" : Cond) ∈ GW := GW_mem (List.mem_of_getElem? (i := 570) (by decide +kernel)) (by decide +kernel)
theorem gw_542 : (.fieldLink "LineGolombModel" 126 "LineGolombModel" "at" "I" : Cond) ∈ GW := GW_mem (List.mem_of_getElem? (i := 571) (by decide +kernel)) (by decide +kernel)
theorem gw_543 : (.fieldLink "LineGolombModel" 129 "LineGolombModel" "lacks" "Z" : Cond) ∈ GW := GW_mem (List.mem_of_getElem? (i := 572) (by decide +kernel)) (by decide +kernel)
theorem gw_585 : (.arrayClass .int : Cond) ∈ GW := GW_mem (List.mem_of_getElem? (i := 614) (by decide +kernel)) (by decide +kernel)
theorem gw_586 : (.methodLink "LineGolombLaw" 72 y_M_thrown : Cond) ∈ GW := GW_mem (List.mem_of_getElem? (i := 615) (by decide +kernel)) (by decide +kernel)
theorem gw_587 : (.instanceMethod y_M_thrown : Cond) ∈ GW := GW_mem (List.mem_of_getElem? (i := 616) (by decide +kernel)) (by decide +kernel)
theorem gw_588 : (.selects "LineGolombModel" y_M_thrown y_M_thrown : Cond) ∈ GW := GW_mem (List.mem_of_getElem? (i := 617) (by decide +kernel)) (by decide +kernel)
theorem gw_589 : (.code y_M_thrown prog_7_method_2_code 1 (some .int) : Cond) ∈ GW := GW_mem (List.mem_of_getElem? (i := 618) (by decide +kernel)) (by decide +kernel)
theorem gw_590 : (.methodLink "LineGolombLaw" 71 y_M_code : Cond) ∈ GW := GW_mem (List.mem_of_getElem? (i := 619) (by decide +kernel)) (by decide +kernel)
theorem gw_591 : (.instanceMethod y_M_code : Cond) ∈ GW := GW_mem (List.mem_of_getElem? (i := 620) (by decide +kernel)) (by decide +kernel)
theorem gw_592 : (.selects "LineGolombModel" y_M_code y_M_code : Cond) ∈ GW := GW_mem (List.mem_of_getElem? (i := 621) (by decide +kernel)) (by decide +kernel)
theorem gw_593 : (.code y_M_code prog_7_method_12_code 3 (some .int) : Cond) ∈ GW := GW_mem (List.mem_of_getElem? (i := 622) (by decide +kernel)) (by decide +kernel)
theorem gw_594 : (.methodLink "LineGolombModel" 86 y_M_layNumber : Cond) ∈ GW := GW_mem (List.mem_of_getElem? (i := 623) (by decide +kernel)) (by decide +kernel)
theorem gw_596 : (.instanceMethod y_M_layNumber : Cond) ∈ GW := GW_mem (List.mem_of_getElem? (i := 625) (by decide +kernel)) (by decide +kernel)
theorem gw_597 : (.code y_M_layNumber prog_7_method_9_code 7 none : Cond) ∈ GW := GW_mem (List.mem_of_getElem? (i := 626) (by decide +kernel)) (by decide +kernel)
theorem gw_598 : (.methodLink "LineGolombModel" 78 y_M_lay : Cond) ∈ GW := GW_mem (List.mem_of_getElem? (i := 627) (by decide +kernel)) (by decide +kernel)
theorem gw_600 : (.instanceMethod y_M_lay : Cond) ∈ GW := GW_mem (List.mem_of_getElem? (i := 629) (by decide +kernel)) (by decide +kernel)
theorem gw_601 : (.code y_M_lay prog_7_method_7_code 2 none : Cond) ∈ GW := GW_mem (List.mem_of_getElem? (i := 630) (by decide +kernel)) (by decide +kernel)
theorem gw_602 : (.methodLink "LineGolombModel" 82 y_M_layLow : Cond) ∈ GW := GW_mem (List.mem_of_getElem? (i := 631) (by decide +kernel)) (by decide +kernel)
theorem gw_604 : (.instanceMethod y_M_layLow : Cond) ∈ GW := GW_mem (List.mem_of_getElem? (i := 633) (by decide +kernel)) (by decide +kernel)
theorem gw_605 : (.code y_M_layLow prog_7_method_8_code 4 none : Cond) ∈ GW := GW_mem (List.mem_of_getElem? (i := 634) (by decide +kernel)) (by decide +kernel)
theorem gw_606 : (.methodLink "LineGolombModel" 90 y_M_hasRoom : Cond) ∈ GW := GW_mem (List.mem_of_getElem? (i := 635) (by decide +kernel)) (by decide +kernel)
theorem gw_608 : (.instanceMethod y_M_hasRoom : Cond) ∈ GW := GW_mem (List.mem_of_getElem? (i := 637) (by decide +kernel)) (by decide +kernel)
theorem gw_609 : (.code y_M_hasRoom prog_7_method_10_code 1 (some .boolean) : Cond) ∈ GW := GW_mem (List.mem_of_getElem? (i := 638) (by decide +kernel)) (by decide +kernel)
theorem gw_610 : (.methodLink "LineGolombModel" 94 y_M_write : Cond) ∈ GW := GW_mem (List.mem_of_getElem? (i := 639) (by decide +kernel)) (by decide +kernel)
theorem gw_612 : (.instanceMethod y_M_write : Cond) ∈ GW := GW_mem (List.mem_of_getElem? (i := 641) (by decide +kernel)) (by decide +kernel)
theorem gw_613 : (.code y_M_write prog_7_method_11_code 2 (some .int) : Cond) ∈ GW := GW_mem (List.mem_of_getElem? (i := 642) (by decide +kernel)) (by decide +kernel)
theorem gw_614 : (.methodLink "LineGolombLaw" 79 y_M_run : Cond) ∈ GW := GW_mem (List.mem_of_getElem? (i := 643) (by decide +kernel)) (by decide +kernel)
theorem gw_615 : (.instanceMethod y_M_run : Cond) ∈ GW := GW_mem (List.mem_of_getElem? (i := 644) (by decide +kernel)) (by decide +kernel)
theorem gw_616 : (.selects "LineGolombModel" y_M_run y_M_run : Cond) ∈ GW := GW_mem (List.mem_of_getElem? (i := 645) (by decide +kernel)) (by decide +kernel)
theorem gw_617 : (.code y_M_run prog_7_method_13_code 6 (some .int) : Cond) ∈ GW := GW_mem (List.mem_of_getElem? (i := 646) (by decide +kernel)) (by decide +kernel)
theorem gw_618 : (.constant "LineGolombModel" 98 (65535 : Int32) : Cond) ∈ GW := GW_mem (List.mem_of_getElem? (i := 647) (by decide +kernel)) (by decide +kernel)
theorem gw_619 : (.methodLink "LineGolombModel" 99 y_M_widthOf : Cond) ∈ GW := GW_mem (List.mem_of_getElem? (i := 648) (by decide +kernel)) (by decide +kernel)
theorem gw_620 : (.static y_M_widthOf : Cond) ∈ GW := GW_mem (List.mem_of_getElem? (i := 649) (by decide +kernel)) (by decide +kernel)
theorem gw_621 : (.code y_M_widthOf prog_7_method_6_code 1 (some .int) : Cond) ∈ GW := GW_mem (List.mem_of_getElem? (i := 650) (by decide +kernel)) (by decide +kernel)
theorem gw_622 : (.methodLink "LineGolombLaw" 82 y_M_interrupt : Cond) ∈ GW := GW_mem (List.mem_of_getElem? (i := 651) (by decide +kernel)) (by decide +kernel)
theorem gw_623 : (.instanceMethod y_M_interrupt : Cond) ∈ GW := GW_mem (List.mem_of_getElem? (i := 652) (by decide +kernel)) (by decide +kernel)
theorem gw_624 : (.selects "LineGolombModel" y_M_interrupt y_M_interrupt : Cond) ∈ GW := GW_mem (List.mem_of_getElem? (i := 653) (by decide +kernel)) (by decide +kernel)
theorem gw_625 : (.code y_M_interrupt prog_7_method_20_code 5 (some .int) : Cond) ∈ GW := GW_mem (List.mem_of_getElem? (i := 654) (by decide +kernel)) (by decide +kernel)
theorem gw_626 : (.methodLink "LineGolombModel" 105 y_M_isKind : Cond) ∈ GW := GW_mem (List.mem_of_getElem? (i := 655) (by decide +kernel)) (by decide +kernel)
theorem gw_628 : (.instanceMethod y_M_isKind : Cond) ∈ GW := GW_mem (List.mem_of_getElem? (i := 657) (by decide +kernel)) (by decide +kernel)
theorem gw_629 : (.code y_M_isKind prog_7_method_14_code 2 (some .boolean) : Cond) ∈ GW := GW_mem (List.mem_of_getElem? (i := 658) (by decide +kernel)) (by decide +kernel)
theorem gw_630 : (.methodLink "LineGolombModel" 109 y_M_isError : Cond) ∈ GW := GW_mem (List.mem_of_getElem? (i := 659) (by decide +kernel)) (by decide +kernel)
theorem gw_632 : (.instanceMethod y_M_isError : Cond) ∈ GW := GW_mem (List.mem_of_getElem? (i := 661) (by decide +kernel)) (by decide +kernel)
theorem gw_633 : (.code y_M_isError prog_7_method_15_code 3 (some .boolean) : Cond) ∈ GW := GW_mem (List.mem_of_getElem? (i := 662) (by decide +kernel)) (by decide +kernel)
theorem gw_634 : (.methodLink "LineGolombModel" 113 y_M_isUp : Cond) ∈ GW := GW_mem (List.mem_of_getElem? (i := 663) (by decide +kernel)) (by decide +kernel)
theorem gw_636 : (.instanceMethod y_M_isUp : Cond) ∈ GW := GW_mem (List.mem_of_getElem? (i := 665) (by decide +kernel)) (by decide +kernel)
theorem gw_637 : (.code y_M_isUp prog_7_method_17_code 2 (some .boolean) : Cond) ∈ GW := GW_mem (List.mem_of_getElem? (i := 666) (by decide +kernel)) (by decide +kernel)
theorem gw_638 : (.methodLink "LineGolombModel" 102 y_M_kOf : Cond) ∈ GW := GW_mem (List.mem_of_getElem? (i := 667) (by decide +kernel)) (by decide +kernel)
theorem gw_640 : (.instanceMethod y_M_kOf : Cond) ∈ GW := GW_mem (List.mem_of_getElem? (i := 669) (by decide +kernel)) (by decide +kernel)
theorem gw_641 : (.code y_M_kOf prog_7_method_16_code 4 (some .int) : Cond) ∈ GW := GW_mem (List.mem_of_getElem? (i := 670) (by decide +kernel)) (by decide +kernel)
theorem gw_642 : (.methodLink "LineGolombModel" 116 y_M_limitFor : Cond) ∈ GW := GW_mem (List.mem_of_getElem? (i := 671) (by decide +kernel)) (by decide +kernel)
theorem gw_644 : (.instanceMethod y_M_limitFor : Cond) ∈ GW := GW_mem (List.mem_of_getElem? (i := 673) (by decide +kernel)) (by decide +kernel)
theorem gw_645 : (.code y_M_limitFor prog_7_method_18_code 2 (some .int) : Cond) ∈ GW := GW_mem (List.mem_of_getElem? (i := 674) (by decide +kernel)) (by decide +kernel)
theorem gw_646 : (.methodLink "LineGolombModel" 119 y_M_learn : Cond) ∈ GW := GW_mem (List.mem_of_getElem? (i := 675) (by decide +kernel)) (by decide +kernel)
theorem gw_648 : (.instanceMethod y_M_learn : Cond) ∈ GW := GW_mem (List.mem_of_getElem? (i := 677) (by decide +kernel)) (by decide +kernel)
theorem gw_649 : (.code y_M_learn prog_7_method_19_code 5 none : Cond) ∈ GW := GW_mem (List.mem_of_getElem? (i := 678) (by decide +kernel)) (by decide +kernel)
theorem gw_650 : (.methodLink "LineGolombLaw" 86 y_M_bitAt : Cond) ∈ GW := GW_mem (List.mem_of_getElem? (i := 679) (by decide +kernel)) (by decide +kernel)
theorem gw_651 : (.instanceMethod y_M_bitAt : Cond) ∈ GW := GW_mem (List.mem_of_getElem? (i := 680) (by decide +kernel)) (by decide +kernel)
theorem gw_652 : (.selects "LineGolombModel" y_M_bitAt y_M_bitAt : Cond) ∈ GW := GW_mem (List.mem_of_getElem? (i := 681) (by decide +kernel)) (by decide +kernel)
theorem gw_653 : (.code y_M_bitAt prog_7_method_21_code 2 (some .int) : Cond) ∈ GW := GW_mem (List.mem_of_getElem? (i := 682) (by decide +kernel)) (by decide +kernel)
theorem gw_654 : (.methodLink "LineGolombLaw" 90 y_M_size : Cond) ∈ GW := GW_mem (List.mem_of_getElem? (i := 683) (by decide +kernel)) (by decide +kernel)
theorem gw_655 : (.instanceMethod y_M_size : Cond) ∈ GW := GW_mem (List.mem_of_getElem? (i := 684) (by decide +kernel)) (by decide +kernel)
theorem gw_656 : (.selects "LineGolombModel" y_M_size y_M_size : Cond) ∈ GW := GW_mem (List.mem_of_getElem? (i := 685) (by decide +kernel)) (by decide +kernel)
theorem gw_657 : (.code y_M_size prog_7_method_22_code 1 (some .int) : Cond) ∈ GW := GW_mem (List.mem_of_getElem? (i := 686) (by decide +kernel)) (by decide +kernel)
theorem gw_658 : (.methodLink "LineGolombLaw" 93 y_M_feed : Cond) ∈ GW := GW_mem (List.mem_of_getElem? (i := 687) (by decide +kernel)) (by decide +kernel)
theorem gw_659 : (.instanceMethod y_M_feed : Cond) ∈ GW := GW_mem (List.mem_of_getElem? (i := 688) (by decide +kernel)) (by decide +kernel)
theorem gw_660 : (.selects "LineGolombModel" y_M_feed y_M_feed : Cond) ∈ GW := GW_mem (List.mem_of_getElem? (i := 689) (by decide +kernel)) (by decide +kernel)
theorem gw_661 : (.code y_M_feed prog_7_method_24_code 2 (some .boolean) : Cond) ∈ GW := GW_mem (List.mem_of_getElem? (i := 690) (by decide +kernel)) (by decide +kernel)
theorem gw_662 : (.methodLink "LineGolombModel" 123 y_M_comes : Cond) ∈ GW := GW_mem (List.mem_of_getElem? (i := 691) (by decide +kernel)) (by decide +kernel)
theorem gw_664 : (.instanceMethod y_M_comes : Cond) ∈ GW := GW_mem (List.mem_of_getElem? (i := 693) (by decide +kernel)) (by decide +kernel)
theorem gw_665 : (.code y_M_comes prog_7_method_23_code 2 (some .boolean) : Cond) ∈ GW := GW_mem (List.mem_of_getElem? (i := 694) (by decide +kernel)) (by decide +kernel)
theorem gw_666 : (.methodLink "LineGolombLaw" 96 y_M_pass : Cond) ∈ GW := GW_mem (List.mem_of_getElem? (i := 695) (by decide +kernel)) (by decide +kernel)
theorem gw_667 : (.instanceMethod y_M_pass : Cond) ∈ GW := GW_mem (List.mem_of_getElem? (i := 696) (by decide +kernel)) (by decide +kernel)
theorem gw_668 : (.selects "LineGolombModel" y_M_pass y_M_pass : Cond) ∈ GW := GW_mem (List.mem_of_getElem? (i := 697) (by decide +kernel)) (by decide +kernel)
theorem gw_669 : (.code y_M_pass prog_7_method_25_code 5 (some .int) : Cond) ∈ GW := GW_mem (List.mem_of_getElem? (i := 698) (by decide +kernel)) (by decide +kernel)
theorem gw_670 : (.methodLink "LineGolombLaw" 99 y_M_read : Cond) ∈ GW := GW_mem (List.mem_of_getElem? (i := 699) (by decide +kernel)) (by decide +kernel)
theorem gw_671 : (.instanceMethod y_M_read : Cond) ∈ GW := GW_mem (List.mem_of_getElem? (i := 700) (by decide +kernel)) (by decide +kernel)
theorem gw_672 : (.selects "LineGolombModel" y_M_read y_M_read : Cond) ∈ GW := GW_mem (List.mem_of_getElem? (i := 701) (by decide +kernel)) (by decide +kernel)
theorem gw_673 : (.code y_M_read prog_7_method_30_code 3 (some .int) : Cond) ∈ GW := GW_mem (List.mem_of_getElem? (i := 702) (by decide +kernel)) (by decide +kernel)
theorem gw_674 : (.methodLink "LineGolombModel" 138 y_M_look : Cond) ∈ GW := GW_mem (List.mem_of_getElem? (i := 703) (by decide +kernel)) (by decide +kernel)
theorem gw_676 : (.instanceMethod y_M_look : Cond) ∈ GW := GW_mem (List.mem_of_getElem? (i := 705) (by decide +kernel)) (by decide +kernel)
theorem gw_677 : (.code y_M_look prog_7_method_29_code 7 (some .int) : Cond) ∈ GW := GW_mem (List.mem_of_getElem? (i := 706) (by decide +kernel)) (by decide +kernel)
theorem gw_678 : (.methodLink "LineGolombModel" 132 y_M_next : Cond) ∈ GW := GW_mem (List.mem_of_getElem? (i := 707) (by decide +kernel)) (by decide +kernel)
theorem gw_680 : (.instanceMethod y_M_next : Cond) ∈ GW := GW_mem (List.mem_of_getElem? (i := 709) (by decide +kernel)) (by decide +kernel)
theorem gw_681 : (.code y_M_next prog_7_method_27_code 1 (some .int) : Cond) ∈ GW := GW_mem (List.mem_of_getElem? (i := 710) (by decide +kernel)) (by decide +kernel)
theorem gw_682 : (.methodLink "LineGolombModel" 135 y_M_nextLow : Cond) ∈ GW := GW_mem (List.mem_of_getElem? (i := 711) (by decide +kernel)) (by decide +kernel)
theorem gw_684 : (.instanceMethod y_M_nextLow : Cond) ∈ GW := GW_mem (List.mem_of_getElem? (i := 713) (by decide +kernel)) (by decide +kernel)
theorem gw_685 : (.code y_M_nextLow prog_7_method_28_code 4 (some .int) : Cond) ∈ GW := GW_mem (List.mem_of_getElem? (i := 714) (by decide +kernel)) (by decide +kernel)
theorem gw_686 : (.methodLink "LineGolombModel" 142 y_M_go : Cond) ∈ GW := GW_mem (List.mem_of_getElem? (i := 715) (by decide +kernel)) (by decide +kernel)
theorem gw_688 : (.instanceMethod y_M_go : Cond) ∈ GW := GW_mem (List.mem_of_getElem? (i := 717) (by decide +kernel)) (by decide +kernel)
theorem gw_689 : (.code y_M_go prog_7_method_26_code 3 none : Cond) ∈ GW := GW_mem (List.mem_of_getElem? (i := 718) (by decide +kernel)) (by decide +kernel)
theorem gw_690 : (.methodLink "LineGolombLaw" 102 y_M_readRun : Cond) ∈ GW := GW_mem (List.mem_of_getElem? (i := 719) (by decide +kernel)) (by decide +kernel)
theorem gw_691 : (.instanceMethod y_M_readRun : Cond) ∈ GW := GW_mem (List.mem_of_getElem? (i := 720) (by decide +kernel)) (by decide +kernel)
theorem gw_692 : (.selects "LineGolombModel" y_M_readRun y_M_readRun : Cond) ∈ GW := GW_mem (List.mem_of_getElem? (i := 721) (by decide +kernel)) (by decide +kernel)
theorem gw_693 : (.code y_M_readRun prog_7_method_31_code 8 (some .int) : Cond) ∈ GW := GW_mem (List.mem_of_getElem? (i := 722) (by decide +kernel)) (by decide +kernel)
theorem gw_694 : (.methodLink "LineGolombLaw" 105 y_M_readInterrupt : Cond) ∈ GW := GW_mem (List.mem_of_getElem? (i := 723) (by decide +kernel)) (by decide +kernel)
theorem gw_695 : (.instanceMethod y_M_readInterrupt : Cond) ∈ GW := GW_mem (List.mem_of_getElem? (i := 724) (by decide +kernel)) (by decide +kernel)
theorem gw_696 : (.selects "LineGolombModel" y_M_readInterrupt y_M_readInterrupt : Cond) ∈ GW := GW_mem (List.mem_of_getElem? (i := 725) (by decide +kernel)) (by decide +kernel)
theorem gw_697 : (.code y_M_readInterrupt prog_7_method_32_code 7 (some .int) : Cond) ∈ GW := GW_mem (List.mem_of_getElem? (i := 726) (by decide +kernel)) (by decide +kernel)
theorem gw_698 : (.constant "LineGolombModel" 145 (2147483647 : Int32) : Cond) ∈ GW := GW_mem (List.mem_of_getElem? (i := 727) (by decide +kernel)) (by decide +kernel)
theorem gw_699 : (.methodLink "LineGolombLaw" 110 y_M_wasEnded : Cond) ∈ GW := GW_mem (List.mem_of_getElem? (i := 728) (by decide +kernel)) (by decide +kernel)
theorem gw_700 : (.instanceMethod y_M_wasEnded : Cond) ∈ GW := GW_mem (List.mem_of_getElem? (i := 729) (by decide +kernel)) (by decide +kernel)
theorem gw_701 : (.selects "LineGolombModel" y_M_wasEnded y_M_wasEnded : Cond) ∈ GW := GW_mem (List.mem_of_getElem? (i := 730) (by decide +kernel)) (by decide +kernel)
theorem gw_702 : (.code y_M_wasEnded prog_7_method_33_code 1 (some .boolean) : Cond) ∈ GW := GW_mem (List.mem_of_getElem? (i := 731) (by decide +kernel)) (by decide +kernel)
theorem gw_703 : (.methodLink "LineGolombLaw" 114 y_M_waiting : Cond) ∈ GW := GW_mem (List.mem_of_getElem? (i := 732) (by decide +kernel)) (by decide +kernel)
theorem gw_704 : (.instanceMethod y_M_waiting : Cond) ∈ GW := GW_mem (List.mem_of_getElem? (i := 733) (by decide +kernel)) (by decide +kernel)
theorem gw_705 : (.selects "LineGolombModel" y_M_waiting y_M_waiting : Cond) ∈ GW := GW_mem (List.mem_of_getElem? (i := 734) (by decide +kernel)) (by decide +kernel)
theorem gw_706 : (.code y_M_waiting prog_7_method_34_code 1 (some .int) : Cond) ∈ GW := GW_mem (List.mem_of_getElem? (i := 735) (by decide +kernel)) (by decide +kernel)
theorem gw_707 : (.methodLink "LineGolombLaw" 117 y_M_map : Cond) ∈ GW := GW_mem (List.mem_of_getElem? (i := 736) (by decide +kernel)) (by decide +kernel)
theorem gw_708 : (.instanceMethod y_M_map : Cond) ∈ GW := GW_mem (List.mem_of_getElem? (i := 737) (by decide +kernel)) (by decide +kernel)
theorem gw_709 : (.selects "LineGolombModel" y_M_map y_M_map : Cond) ∈ GW := GW_mem (List.mem_of_getElem? (i := 738) (by decide +kernel)) (by decide +kernel)
theorem gw_710 : (.code y_M_map prog_7_method_35_code 3 (some .int) : Cond) ∈ GW := GW_mem (List.mem_of_getElem? (i := 739) (by decide +kernel)) (by decide +kernel)
theorem gw_711 : (.constant "LineGolombModel" 146 (-65536 : Int32) : Cond) ∈ GW := GW_mem (List.mem_of_getElem? (i := 740) (by decide +kernel)) (by decide +kernel)
theorem gw_712 : (.constant "LineGolombModel" 147 (65536 : Int32) : Cond) ∈ GW := GW_mem (List.mem_of_getElem? (i := 741) (by decide +kernel)) (by decide +kernel)
theorem gw_713 : (.methodLink "LineGolombLaw" 120 y_M_unmap : Cond) ∈ GW := GW_mem (List.mem_of_getElem? (i := 742) (by decide +kernel)) (by decide +kernel)
theorem gw_714 : (.instanceMethod y_M_unmap : Cond) ∈ GW := GW_mem (List.mem_of_getElem? (i := 743) (by decide +kernel)) (by decide +kernel)
theorem gw_715 : (.selects "LineGolombModel" y_M_unmap y_M_unmap : Cond) ∈ GW := GW_mem (List.mem_of_getElem? (i := 744) (by decide +kernel)) (by decide +kernel)
theorem gw_716 : (.code y_M_unmap prog_7_method_36_code 5 (some .int) : Cond) ∈ GW := GW_mem (List.mem_of_getElem? (i := 745) (by decide +kernel)) (by decide +kernel)
theorem gw_717 : (.constant "LineGolombModel" 148 (131073 : Int32) : Cond) ∈ GW := GW_mem (List.mem_of_getElem? (i := 746) (by decide +kernel)) (by decide +kernel)
theorem gw_718 : (.constant "LineGolombModel" 149 (131072 : Int32) : Cond) ∈ GW := GW_mem (List.mem_of_getElem? (i := 747) (by decide +kernel)) (by decide +kernel)
theorem gw_719 : (.methodLink "LineGolombLaw" 125 y_M_step : Cond) ∈ GW := GW_mem (List.mem_of_getElem? (i := 748) (by decide +kernel)) (by decide +kernel)
theorem gw_720 : (.instanceMethod y_M_step : Cond) ∈ GW := GW_mem (List.mem_of_getElem? (i := 749) (by decide +kernel)) (by decide +kernel)
theorem gw_721 : (.selects "LineGolombModel" y_M_step y_M_step : Cond) ∈ GW := GW_mem (List.mem_of_getElem? (i := 750) (by decide +kernel)) (by decide +kernel)
theorem gw_722 : (.code y_M_step prog_7_method_37_code 2 (some .int) : Cond) ∈ GW := GW_mem (List.mem_of_getElem? (i := 751) (by decide +kernel)) (by decide +kernel)
theorem gw_723 : (.methodLink "LineGolombLaw" 129 y_M_state : Cond) ∈ GW := GW_mem (List.mem_of_getElem? (i := 752) (by decide +kernel)) (by decide +kernel)
theorem gw_724 : (.instanceMethod y_M_state : Cond) ∈ GW := GW_mem (List.mem_of_getElem? (i := 753) (by decide +kernel)) (by decide +kernel)
theorem gw_725 : (.selects "LineGolombModel" y_M_state y_M_state : Cond) ∈ GW := GW_mem (List.mem_of_getElem? (i := 754) (by decide +kernel)) (by decide +kernel)
theorem gw_726 : (.code y_M_state prog_7_method_38_code 5 (some .int) : Cond) ∈ GW := GW_mem (List.mem_of_getElem? (i := 755) (by decide +kernel)) (by decide +kernel)
theorem gw_727 : (.methodLink "LineGolombLaw" 133 y_M_told : Cond) ∈ GW := GW_mem (List.mem_of_getElem? (i := 756) (by decide +kernel)) (by decide +kernel)
theorem gw_728 : (.instanceMethod y_M_told : Cond) ∈ GW := GW_mem (List.mem_of_getElem? (i := 757) (by decide +kernel)) (by decide +kernel)
theorem gw_729 : (.selects "LineGolombModel" y_M_told y_M_told : Cond) ∈ GW := GW_mem (List.mem_of_getElem? (i := 758) (by decide +kernel)) (by decide +kernel)
theorem gw_730 : (.code y_M_told prog_7_method_39_code 2 (some .int) : Cond) ∈ GW := GW_mem (List.mem_of_getElem? (i := 759) (by decide +kernel)) (by decide +kernel)
theorem gw_731 : (.methodLink "LineGolombLaw" 137 y_M_clear : Cond) ∈ GW := GW_mem (List.mem_of_getElem? (i := 760) (by decide +kernel)) (by decide +kernel)
theorem gw_732 : (.instanceMethod y_M_clear : Cond) ∈ GW := GW_mem (List.mem_of_getElem? (i := 761) (by decide +kernel)) (by decide +kernel)
theorem gw_733 : (.selects "LineGolombModel" y_M_clear y_M_clear : Cond) ∈ GW := GW_mem (List.mem_of_getElem? (i := 762) (by decide +kernel)) (by decide +kernel)
theorem gw_734 : (.code y_M_clear prog_7_method_40_code 1 none : Cond) ∈ GW := GW_mem (List.mem_of_getElem? (i := 763) (by decide +kernel)) (by decide +kernel)
theorem gw_735 : (.arrayClass .long : Cond) ∈ GW := GW_mem (List.mem_of_getElem? (i := 764) (by decide +kernel)) (by decide +kernel)
set_option maxRecDepth 20000 in
theorem in_Q : ∀ w ∈ u_ws R_Q T_Q 3, w ∈ GW := by
  intro w hw
  obtain ⟨k, hk, rfl⟩ := List.mem_map.mp hw
  have hk : k < 3 := List.mem_range.mp hk
  have h1 : ∀ k, k < 3 → goodWord (u_lay R_Q T_Q k) = true := by decide +kernel
  have h2 : ∀ k, k < 3 → lw_tbl[([76, 78, 80] : List Nat).getD k 0]? = some (u_lay R_Q T_Q k) := by decide +kernel
  exact GW_mem (List.mem_of_getElem? (h2 k hk)) (h1 k hk)
set_option maxRecDepth 20000 in
theorem in_B : ∀ w ∈ u_ws R_B T_B 2, w ∈ GW := by
  intro w hw
  obtain ⟨k, hk, rfl⟩ := List.mem_map.mp hw
  have hk : k < 2 := List.mem_range.mp hk
  have h1 : ∀ k, k < 2 → goodWord (u_lay R_B T_B k) = true := by decide +kernel
  have h2 : ∀ k, k < 2 → lw_tbl[([60, 62] : List Nat).getD k 0]? = some (u_lay R_B T_B k) := by decide +kernel
  exact GW_mem (List.mem_of_getElem? (h2 k hk)) (h1 k hk)
set_option maxRecDepth 20000 in
theorem in_E : ∀ w ∈ u_ws R_E T_E 5, w ∈ GW := by
  intro w hw
  obtain ⟨k, hk, rfl⟩ := List.mem_map.mp hw
  have hk : k < 5 := List.mem_range.mp hk
  have h1 : ∀ k, k < 5 → goodWord (u_lay R_E T_E k) = true := by decide +kernel
  have h2 : ∀ k, k < 5 → lw_tbl[([119, 121, 123, 125, 127] : List Nat).getD k 0]? = some (u_lay R_E T_E k) := by decide +kernel
  exact GW_mem (List.mem_of_getElem? (h2 k hk)) (h1 k hk)
set_option maxRecDepth 20000 in
theorem in_S : ∀ w ∈ u_ws R_S T_S 4, w ∈ GW := by
  intro w hw
  obtain ⟨k, hk, rfl⟩ := List.mem_map.mp hw
  have hk : k < 4 := List.mem_range.mp hk
  have h1 : ∀ k, k < 4 → goodWord (u_lay R_S T_S k) = true := by decide +kernel
  have h2 : ∀ k, k < 4 → lw_tbl[([136, 138, 140, 142] : List Nat).getD k 0]? = some (u_lay R_S T_S k) := by decide +kernel
  exact GW_mem (List.mem_of_getElem? (h2 k hk)) (h1 k hk)
set_option maxRecDepth 20000 in
theorem in_X : ∀ w ∈ u_ws R_X T_X 10, w ∈ GW := by
  intro w hw
  obtain ⟨k, hk, rfl⟩ := List.mem_map.mp hw
  have hk : k < 10 := List.mem_range.mp hk
  have h1 : ∀ k, k < 10 → goodWord (u_lay R_X T_X k) = true := by decide +kernel
  have h2 : ∀ k, k < 10 → lw_tbl[([155, 157, 159, 161, 163, 165, 167, 169, 171, 173] : List Nat).getD k 0]? = some (u_lay R_X T_X k) := by decide +kernel
  exact GW_mem (List.mem_of_getElem? (h2 k hk)) (h1 k hk)
set_option maxRecDepth 20000 in
theorem in_M : ∀ w ∈ u_ws R_M T_M 20, w ∈ GW := by
  intro w hw
  obtain ⟨k, hk, rfl⟩ := List.mem_map.mp hw
  have hk : k < 20 := List.mem_range.mp hk
  have h1 : ∀ k, k < 20 → goodWord (u_lay R_M T_M k) = true := by decide +kernel
  have h2 : ∀ k, k < 20 → lw_tbl[([573, 575, 577, 579, 581, 583, 585, 587, 589, 591, 593, 595, 597, 599, 601, 603, 605, 607, 609, 611] : List Nat).getD k 0]? = some (u_lay R_M T_M k) := by decide +kernel
  exact GW_mem (List.mem_of_getElem? (h2 k hk)) (h1 k hk)
