/-! NAMES, laid by program (wip/whole/gen/names.py) out of the listing of the class: classes, fields, methods, words. -/
def R_Cek : String := "CekMachine"
def T_Cek : u_T := fun k => match k with
  | 0 => ("CekMachine", "terms", "LCekMachine$Terms;", true)
  | 1 => ("CekMachine", "evaluator", "LCekMachine$Evaluator;", true)
  | _ => ("CekMachine", "answer", "I", false)
def ty_Cek : Nat → FieldType := fun k => match k with
  | 0 => .object "CekMachine$Terms"
  | 1 => .object "CekMachine$Evaluator"
  | _ => .int
theorem nm_Cek : ∀ a, a < 3 → ∀ b, b < 3 → a ≠ b → (T_Cek a).2.1 ≠ (T_Cek b).2.1 := by decide +kernel
theorem tok_Cek : ∀ k, k < 3 → parseFieldDescriptor (T_Cek k).2.2.1 = some (ty_Cek k) := by decide +kernel
def R_Terms : String := "CekMachine$Terms"
def T_Terms : u_T := fun k => match k with
  | 0 => ("CekMachine$Terms", "kinds", "[I", true)
  | 1 => ("CekMachine$Terms", "args", "[J", true)
  | 2 => ("CekMachine$Terms", "firsts", "[I", true)
  | 3 => ("CekMachine$Terms", "lacks", "[I", true)
  | 4 => ("CekMachine$Terms", "text", "LCekMachine$ByteRow;", true)
  | 5 => ("CekMachine$Terms", "nodes", "I", false)
  | _ => ("CekMachine$Terms", "count", "I", false)
def ty_Terms : Nat → FieldType := fun k => match k with
  | 0 => .array .int
  | 1 => .array .long
  | 2 => .array .int
  | 3 => .array .int
  | 4 => .object "CekMachine$ByteRow"
  | 5 => .int
  | _ => .int
theorem nm_Terms : ∀ a, a < 7 → ∀ b, b < 7 → a ≠ b → (T_Terms a).2.1 ≠ (T_Terms b).2.1 := by decide +kernel
theorem tok_Terms : ∀ k, k < 7 → parseFieldDescriptor (T_Terms k).2.2.1 = some (ty_Terms k) := by decide +kernel
def R_ByteRow : String := "CekMachine$ByteRow"
def T_ByteRow : u_T := fun k => match k with
  | 0 => ("CekMachine$ByteRow", "row", "[B", true)
  | _ => ("CekMachine$ByteRow", "top", "I", false)
def ty_ByteRow : Nat → FieldType := fun k => match k with
  | 0 => .array .byte
  | _ => .int
theorem nm_ByteRow : ∀ a, a < 2 → ∀ b, b < 2 → a ≠ b → (T_ByteRow a).2.1 ≠ (T_ByteRow b).2.1 := by decide +kernel
theorem tok_ByteRow : ∀ k, k < 2 → parseFieldDescriptor (T_ByteRow k).2.2.1 = some (ty_ByteRow k) := by decide +kernel
def R_Evaluator : String := "CekMachine$Evaluator"
def T_Evaluator : u_T := fun k => match k with
  | 0 => ("CekMachine$Evaluator", "values", "LCekMachine$Values;", true)
  | 1 => ("CekMachine$Evaluator", "meter", "LCekMachine$Meter;", true)
  | 2 => ("CekMachine$Evaluator", "waiting", "LCekMachine$Waiting;", true)
  | 3 => ("CekMachine$Evaluator", "scopes", "LCekMachine$Scopes;", true)
  | 4 => ("CekMachine$Evaluator", "builtins", "LCekMachine$Builtins;", true)
  | 5 => ("CekMachine$Evaluator", "terms", "LCekMachine$Terms;", true)
  | 6 => ("CekMachine$Evaluator", "node", "I", false)
  | 7 => ("CekMachine$Evaluator", "scope", "I", false)
  | _ => ("CekMachine$Evaluator", "value", "I", false)
def ty_Evaluator : Nat → FieldType := fun k => match k with
  | 0 => .object "CekMachine$Values"
  | 1 => .object "CekMachine$Meter"
  | 2 => .object "CekMachine$Waiting"
  | 3 => .object "CekMachine$Scopes"
  | 4 => .object "CekMachine$Builtins"
  | 5 => .object "CekMachine$Terms"
  | 6 => .int
  | 7 => .int
  | _ => .int
theorem nm_Evaluator : ∀ a, a < 9 → ∀ b, b < 9 → a ≠ b → (T_Evaluator a).2.1 ≠ (T_Evaluator b).2.1 := by decide +kernel
theorem tok_Evaluator : ∀ k, k < 9 → parseFieldDescriptor (T_Evaluator k).2.2.1 = some (ty_Evaluator k) := by decide +kernel
def R_Values : String := "CekMachine$Values"
def T_Values : u_T := fun k => match k with
  | 0 => ("CekMachine$Values", "bytes", "LCekMachine$ByteRow;", true)
  | 1 => ("CekMachine$Values", "data", "LCekMachine$DataRow;", true)
  | 2 => ("CekMachine$Values", "kinds", "[I", true)
  | 3 => ("CekMachine$Values", "numbers", "[J", true)
  | 4 => ("CekMachine$Values", "parts", "[I", true)
  | 5 => ("CekMachine$Values", "links", "[I", true)
  | _ => ("CekMachine$Values", "top", "I", false)
def ty_Values : Nat → FieldType := fun k => match k with
  | 0 => .object "CekMachine$ByteRow"
  | 1 => .object "CekMachine$DataRow"
  | 2 => .array .int
  | 3 => .array .long
  | 4 => .array .int
  | 5 => .array .int
  | _ => .int
theorem nm_Values : ∀ a, a < 7 → ∀ b, b < 7 → a ≠ b → (T_Values a).2.1 ≠ (T_Values b).2.1 := by decide +kernel
theorem tok_Values : ∀ k, k < 7 → parseFieldDescriptor (T_Values k).2.2.1 = some (ty_Values k) := by decide +kernel
def R_DataRow : String := "CekMachine$DataRow"
def T_DataRow : u_T := fun k => match k with
  | 0 => ("CekMachine$DataRow", "forms", "[I", true)
  | 1 => ("CekMachine$DataRow", "counts", "[I", true)
  | 2 => ("CekMachine$DataRow", "numbers", "[J", true)
  | 3 => ("CekMachine$DataRow", "nodes", "[I", true)
  | 4 => ("CekMachine$DataRow", "depths", "[I", true)
  | 5 => ("CekMachine$DataRow", "weights", "[I", true)
  | _ => ("CekMachine$DataRow", "top", "I", false)
def ty_DataRow : Nat → FieldType := fun k => match k with
  | 0 => .array .int
  | 1 => .array .int
  | 2 => .array .long
  | 3 => .array .int
  | 4 => .array .int
  | 5 => .array .int
  | _ => .int
theorem nm_DataRow : ∀ a, a < 7 → ∀ b, b < 7 → a ≠ b → (T_DataRow a).2.1 ≠ (T_DataRow b).2.1 := by decide +kernel
theorem tok_DataRow : ∀ k, k < 7 → parseFieldDescriptor (T_DataRow k).2.2.1 = some (ty_DataRow k) := by decide +kernel
def R_Meter : String := "CekMachine$Meter"
def T_Meter : u_T := fun k => match k with
  | 0 => ("CekMachine$Meter", "steps", "I", false)
  | 1 => ("CekMachine$Meter", "memory", "I", false)
  | 2 => ("CekMachine$Meter", "mostSteps", "I", false)
  | 3 => ("CekMachine$Meter", "mostMemory", "I", false)
  | _ => ("CekMachine$Meter", "fault", "I", false)
def ty_Meter : Nat → FieldType := fun k => match k with
  | 0 => .int
  | 1 => .int
  | 2 => .int
  | 3 => .int
  | _ => .int
theorem nm_Meter : ∀ a, a < 5 → ∀ b, b < 5 → a ≠ b → (T_Meter a).2.1 ≠ (T_Meter b).2.1 := by decide +kernel
theorem tok_Meter : ∀ k, k < 5 → parseFieldDescriptor (T_Meter k).2.2.1 = some (ty_Meter k) := by decide +kernel
def R_Waiting : String := "CekMachine$Waiting"
def T_Waiting : u_T := fun k => match k with
  | 0 => ("CekMachine$Waiting", "nodes", "[I", true)
  | 1 => ("CekMachine$Waiting", "scopes", "[I", true)
  | 2 => ("CekMachine$Waiting", "functions", "[I", true)
  | 3 => ("CekMachine$Waiting", "depth", "I", false)
  | _ => ("CekMachine$Waiting", "most", "I", false)
def ty_Waiting : Nat → FieldType := fun k => match k with
  | 0 => .array .int
  | 1 => .array .int
  | 2 => .array .int
  | 3 => .int
  | _ => .int
theorem nm_Waiting : ∀ a, a < 5 → ∀ b, b < 5 → a ≠ b → (T_Waiting a).2.1 ≠ (T_Waiting b).2.1 := by decide +kernel
theorem tok_Waiting : ∀ k, k < 5 → parseFieldDescriptor (T_Waiting k).2.2.1 = some (ty_Waiting k) := by decide +kernel
def R_Scopes : String := "CekMachine$Scopes"
def T_Scopes : u_T := fun k => match k with
  | 0 => ("CekMachine$Scopes", "bound", "[I", true)
  | 1 => ("CekMachine$Scopes", "outer", "[I", true)
  | _ => ("CekMachine$Scopes", "top", "I", false)
def ty_Scopes : Nat → FieldType := fun k => match k with
  | 0 => .array .int
  | 1 => .array .int
  | _ => .int
theorem nm_Scopes : ∀ a, a < 3 → ∀ b, b < 3 → a ≠ b → (T_Scopes a).2.1 ≠ (T_Scopes b).2.1 := by decide +kernel
theorem tok_Scopes : ∀ k, k < 3 → parseFieldDescriptor (T_Scopes k).2.2.1 = some (ty_Scopes k) := by decide +kernel
def R_Builtins : String := "CekMachine$Builtins"
def T_Builtins : u_T := fun k => match k with
  | 0 => ("CekMachine$Builtins", "values", "LCekMachine$Values;", true)
  | 1 => ("CekMachine$Builtins", "meter", "LCekMachine$Meter;", true)
  | 2 => ("CekMachine$Builtins", "given", "[I", true)
  | _ => ("CekMachine$Builtins", "ready", "I", false)
def ty_Builtins : Nat → FieldType := fun k => match k with
  | 0 => .object "CekMachine$Values"
  | 1 => .object "CekMachine$Meter"
  | 2 => .array .int
  | _ => .int
theorem nm_Builtins : ∀ a, a < 4 → ∀ b, b < 4 → a ≠ b → (T_Builtins a).2.1 ≠ (T_Builtins b).2.1 := by decide +kernel
theorem tok_Builtins : ∀ k, k < 4 → parseFieldDescriptor (T_Builtins k).2.2.1 = some (ty_Builtins k) := by decide +kernel
def R_Mod : String := "CekMachineModel"
def T_Mod : u_T := fun k => match k with
  | 0 => ("CekMachineModel", "thrown", "I", false)
  | 1 => ("CekMachineModel", "kinds", "[I", true)
  | 2 => ("CekMachineModel", "numbers", "[J", true)
  | 3 => ("CekMachineModel", "firsts", "[I", true)
  | 4 => ("CekMachineModel", "seconds", "[I", true)
  | 5 => ("CekMachineModel", "sizes", "[I", true)
  | 6 => ("CekMachineModel", "nodeTexts", "[B", true)
  | 7 => ("CekMachineModel", "used", "I", false)
  | 8 => ("CekMachineModel", "terms", "[I", true)
  | 9 => ("CekMachineModel", "many", "I", false)
  | 10 => ("CekMachineModel", "valueKinds", "[I", true)
  | 11 => ("CekMachineModel", "valueNumbers", "[J", true)
  | 12 => ("CekMachineModel", "from", "[I", true)
  | 13 => ("CekMachineModel", "length", "[I", true)
  | 14 => ("CekMachineModel", "nodeOf", "[I", true)
  | 15 => ("CekMachineModel", "rowOf", "[I", true)
  | 16 => ("CekMachineModel", "given", "[I", true)
  | 17 => ("CekMachineModel", "firstGiven", "[I", true)
  | 18 => ("CekMachineModel", "secondGiven", "[I", true)
  | 19 => ("CekMachineModel", "values", "I", false)
  | 20 => ("CekMachineModel", "texts", "[B", true)
  | 21 => ("CekMachineModel", "textEnd", "I", false)
  | 22 => ("CekMachineModel", "forms", "[I", true)
  | 23 => ("CekMachineModel", "tags", "[J", true)
  | 24 => ("CekMachineModel", "counts", "[I", true)
  | 25 => ("CekMachineModel", "textsAt", "[I", true)
  | 26 => ("CekMachineModel", "dataEnd", "I", false)
  | 27 => ("CekMachineModel", "rows", "[I", true)
  | 28 => ("CekMachineModel", "rowEnd", "I", false)
  | 29 => ("CekMachineModel", "rowBegins", "[I", true)
  | 30 => ("CekMachineModel", "rowSizes", "[I", true)
  | 31 => ("CekMachineModel", "rowMany", "I", false)
  | 32 => ("CekMachineModel", "constants", "[I", true)
  | 33 => ("CekMachineModel", "waitKinds", "[I", true)
  | 34 => ("CekMachineModel", "waitNodes", "[I", true)
  | 35 => ("CekMachineModel", "waitOf", "[I", true)
  | 36 => ("CekMachineModel", "waiting", "I", false)
  | 37 => ("CekMachineModel", "mostWaiting", "I", false)
  | 38 => ("CekMachineModel", "answer", "I", false)
  | 39 => ("CekMachineModel", "steps", "I", false)
  | 40 => ("CekMachineModel", "memory", "I", false)
  | 41 => ("CekMachineModel", "maxSteps", "I", false)
  | 42 => ("CekMachineModel", "maxMemory", "I", false)
  | 43 => ("CekMachineModel", "fault", "I", false)
  | 44 => ("CekMachineModel", "result", "I", false)
  | 45 => ("CekMachineModel", "now", "I", false)
  | 46 => ("CekMachineModel", "nowRow", "I", false)
  | 47 => ("CekMachineModel", "come", "I", false)
  | 48 => ("CekMachineModel", "of", "[I", true)
  | 49 => ("CekMachineModel", "lacks", "[I", true)
  | 50 => ("CekMachineModel", "puts", "I", false)
  | _ => ("CekMachineModel", "comes", "[I", true)
def ty_Mod : Nat → FieldType := fun k => match k with
  | 0 => .int
  | 1 => .array .int
  | 2 => .array .long
  | 3 => .array .int
  | 4 => .array .int
  | 5 => .array .int
  | 6 => .array .byte
  | 7 => .int
  | 8 => .array .int
  | 9 => .int
  | 10 => .array .int
  | 11 => .array .long
  | 12 => .array .int
  | 13 => .array .int
  | 14 => .array .int
  | 15 => .array .int
  | 16 => .array .int
  | 17 => .array .int
  | 18 => .array .int
  | 19 => .int
  | 20 => .array .byte
  | 21 => .int
  | 22 => .array .int
  | 23 => .array .long
  | 24 => .array .int
  | 25 => .array .int
  | 26 => .int
  | 27 => .array .int
  | 28 => .int
  | 29 => .array .int
  | 30 => .array .int
  | 31 => .int
  | 32 => .array .int
  | 33 => .array .int
  | 34 => .array .int
  | 35 => .array .int
  | 36 => .int
  | 37 => .int
  | 38 => .int
  | 39 => .int
  | 40 => .int
  | 41 => .int
  | 42 => .int
  | 43 => .int
  | 44 => .int
  | 45 => .int
  | 46 => .int
  | 47 => .int
  | 48 => .array .int
  | 49 => .array .int
  | 50 => .int
  | _ => .array .int
theorem nm_Mod : ∀ a, a < 52 → ∀ b, b < 52 → a ≠ b → (T_Mod a).2.1 ≠ (T_Mod b).2.1 := by decide +kernel
theorem tok_Mod : ∀ k, k < 52 → parseFieldDescriptor (T_Mod k).2.2.1 = some (ty_Mod k) := by decide +kernel
abbrev vwCl : List vw_C := [(R_Cek, T_Cek, 3), (R_Terms, T_Terms, 7), (R_ByteRow, T_ByteRow, 2), (R_Evaluator, T_Evaluator, 9), (R_Values, T_Values, 7), (R_DataRow, T_DataRow, 7), (R_Meter, T_Meter, 5), (R_Waiting, T_Waiting, 5), (R_Scopes, T_Scopes, 3), (R_Builtins, T_Builtins, 4), (R_Mod, T_Mod, 52)]
def R_Law : String := "CekMachineLaw"
def R_Math : String := "java/lang/Math"
def R_String : String := "java/lang/String"
def R_StringLatin1 : String := "java/lang/StringLatin1"
def R_Preconditions : String := "jdk/internal/util/Preconditions"
abbrev b_Builtins_init : ByteArray := prog_2_method_1_code
def y_Builtins_init : MethodName := ⟨R_Builtins, "<init>", "(LCekMachine$Values;LCekMachine$Meter;)V"⟩
abbrev b_Builtins_takes : ByteArray := prog_2_method_2_code
def y_Builtins_takes : MethodName := ⟨R_Builtins, "takes", "(II)I"⟩
abbrev b_Builtins_forget : ByteArray := prog_2_method_3_code
def y_Builtins_forget : MethodName := ⟨R_Builtins, "forget", "()V"⟩
abbrev b_Builtins_isReady : ByteArray := prog_2_method_4_code
def y_Builtins_isReady : MethodName := ⟨R_Builtins, "isReady", "()Z"⟩
abbrev b_Builtins_take : ByteArray := prog_2_method_5_code
def y_Builtins_take : MethodName := ⟨R_Builtins, "take", "(II)I"⟩
abbrev b_Builtins_perform : ByteArray := prog_2_method_6_code
def y_Builtins_perform : MethodName := ⟨R_Builtins, "perform", "()I"⟩
abbrev b_Builtins_gather : ByteArray := prog_2_method_7_code
def y_Builtins_gather : MethodName := ⟨R_Builtins, "gather", "(III)V"⟩
abbrev b_Builtins_sizeOfGiven : ByteArray := prog_2_method_8_code
def y_Builtins_sizeOfGiven : MethodName := ⟨R_Builtins, "sizeOfGiven", "(I)I"⟩
abbrev b_Builtins_allFit : ByteArray := prog_2_method_9_code
def y_Builtins_allFit : MethodName := ⟨R_Builtins, "allFit", "(I)Z"⟩
abbrev b_Builtins_fits : ByteArray := prog_2_method_10_code
def y_Builtins_fits : MethodName := ⟨R_Builtins, "fits", "(II)Z"⟩
abbrev b_Builtins_onIntegers : ByteArray := prog_2_method_11_code
def y_Builtins_onIntegers : MethodName := ⟨R_Builtins, "onIntegers", "(IJJ)I"⟩
abbrev b_Builtins_sumFits : ByteArray := prog_2_method_12_code
def y_Builtins_sumFits : MethodName := ⟨R_Builtins, "sumFits", "(JJ)Z"⟩
abbrev b_Builtins_differenceFits : ByteArray := prog_2_method_13_code
def y_Builtins_differenceFits : MethodName := ⟨R_Builtins, "differenceFits", "(JJ)Z"⟩
abbrev b_Builtins_productFits : ByteArray := prog_2_method_14_code
def y_Builtins_productFits : MethodName := ⟨R_Builtins, "productFits", "(JJ)Z"⟩
abbrev b_Builtins_quotientFits : ByteArray := prog_2_method_15_code
def y_Builtins_quotientFits : MethodName := ⟨R_Builtins, "quotientFits", "(JJ)Z"⟩
abbrev b_Builtins_onBytes : ByteArray := prog_2_method_16_code
def y_Builtins_onBytes : MethodName := ⟨R_Builtins, "onBytes", "(I)I"⟩
abbrev b_Builtins_join : ByteArray := prog_2_method_17_code
def y_Builtins_join : MethodName := ⟨R_Builtins, "join", "(II)I"⟩
abbrev b_Builtins_byteOf : ByteArray := prog_2_method_18_code
def y_Builtins_byteOf : MethodName := ⟨R_Builtins, "byteOf", "(IJ)I"⟩
abbrev b_Builtins_slice : ByteArray := prog_2_method_19_code
def y_Builtins_slice : MethodName := ⟨R_Builtins, "slice", "(JJI)I"⟩
abbrev b_Builtins_compareBytes : ByteArray := prog_2_method_20_code
def y_Builtins_compareBytes : MethodName := ⟨R_Builtins, "compareBytes", "(II)I"⟩
abbrev b_Builtins_onData : ByteArray := prog_2_method_21_code
def y_Builtins_onData : MethodName := ⟨R_Builtins, "onData", "(I)I"⟩
abbrev b_Builtins_toConstructor : ByteArray := prog_2_method_22_code
def y_Builtins_toConstructor : MethodName := ⟨R_Builtins, "toConstructor", "(JI)I"⟩
abbrev b_Builtins_onLists : ByteArray := prog_2_method_23_code
def y_Builtins_onLists : MethodName := ⟨R_Builtins, "onLists", "(I)I"⟩
abbrev b_Builtins_sameData : ByteArray := prog_2_method_24_code
def y_Builtins_sameData : MethodName := ⟨R_Builtins, "sameData", "(II)Z"⟩
abbrev b_Builtins_sameNode : ByteArray := prog_2_method_25_code
def y_Builtins_sameNode : MethodName := ⟨R_Builtins, "sameNode", "(II)Z"⟩
abbrev b_ByteRow_init : ByteArray := prog_3_method_1_code
def y_ByteRow_init : MethodName := ⟨R_ByteRow, "<init>", "(I)V"⟩
abbrev b_ByteRow_at : ByteArray := prog_3_method_2_code
def y_ByteRow_at : MethodName := ⟨R_ByteRow, "at", "(I)I"⟩
abbrev b_ByteRow_put : ByteArray := prog_3_method_3_code
def y_ByteRow_put : MethodName := ⟨R_ByteRow, "put", "(II)V"⟩
abbrev b_ByteRow_cut : ByteArray := prog_3_method_4_code
def y_ByteRow_cut : MethodName := ⟨R_ByteRow, "cut", "(I)V"⟩
abbrev b_ByteRow_append : ByteArray := prog_3_method_5_code
def y_ByteRow_append : MethodName := ⟨R_ByteRow, "append", "(II)V"⟩
abbrev b_ByteRow_end : ByteArray := prog_3_method_6_code
def y_ByteRow_end : MethodName := ⟨R_ByteRow, "end", "()I"⟩
abbrev b_ByteRow_compare : ByteArray := prog_3_method_7_code
def y_ByteRow_compare : MethodName := ⟨R_ByteRow, "compare", "(IIII)I"⟩
abbrev b_DataRow_init : ByteArray := prog_4_method_1_code
def y_DataRow_init : MethodName := ⟨R_DataRow, "<init>", "()V"⟩
abbrev b_DataRow_forget : ByteArray := prog_4_method_2_code
def y_DataRow_forget : MethodName := ⟨R_DataRow, "forget", "()V"⟩
abbrev b_DataRow_formOf : ByteArray := prog_4_method_3_code
def y_DataRow_formOf : MethodName := ⟨R_DataRow, "formOf", "(I)I"⟩
abbrev b_DataRow_countOf : ByteArray := prog_4_method_4_code
def y_DataRow_countOf : MethodName := ⟨R_DataRow, "countOf", "(I)I"⟩
abbrev b_DataRow_numberOf : ByteArray := prog_4_method_5_code
def y_DataRow_numberOf : MethodName := ⟨R_DataRow, "numberOf", "(I)J"⟩
abbrev b_DataRow_nodesOf : ByteArray := prog_4_method_6_code
def y_DataRow_nodesOf : MethodName := ⟨R_DataRow, "nodesOf", "(I)I"⟩
abbrev b_DataRow_depthOf : ByteArray := prog_4_method_7_code
def y_DataRow_depthOf : MethodName := ⟨R_DataRow, "depthOf", "(I)I"⟩
abbrev b_DataRow_sizeOf : ByteArray := prog_4_method_8_code
def y_DataRow_sizeOf : MethodName := ⟨R_DataRow, "sizeOf", "(I)I"⟩
abbrev b_DataRow_leaf : ByteArray := prog_4_method_9_code
def y_DataRow_leaf : MethodName := ⟨R_DataRow, "leaf", "(IJI)I"⟩
abbrev b_DataRow_recast : ByteArray := prog_4_method_10_code
def y_DataRow_recast : MethodName := ⟨R_DataRow, "recast", "(IIJI)I"⟩
abbrev b_DataRow_prepend : ByteArray := prog_4_method_11_code
def y_DataRow_prepend : MethodName := ⟨R_DataRow, "prepend", "(II)I"⟩
abbrev b_DataRow_rest : ByteArray := prog_4_method_12_code
def y_DataRow_rest : MethodName := ⟨R_DataRow, "rest", "(I)I"⟩
abbrev b_DataRow_copy : ByteArray := prog_4_method_13_code
def y_DataRow_copy : MethodName := ⟨R_DataRow, "copy", "(II)Z"⟩
abbrev b_DataRow_sealed : ByteArray := prog_4_method_14_code
def y_DataRow_sealed : MethodName := ⟨R_DataRow, "sealed", "(I)I"⟩
abbrev b_Evaluator_init : ByteArray := prog_5_method_1_code
def y_Evaluator_init : MethodName := ⟨R_Evaluator, "<init>", "(LCekMachine$Terms;)V"⟩
abbrev b_Evaluator_outcome : ByteArray := prog_5_method_2_code
def y_Evaluator_outcome : MethodName := ⟨R_Evaluator, "outcome", "()I"⟩
abbrev b_Evaluator_evaluateLast : ByteArray := prog_5_method_3_code
def y_Evaluator_evaluateLast : MethodName := ⟨R_Evaluator, "evaluateLast", "(II)I"⟩
abbrev b_Evaluator_goesOn : ByteArray := prog_5_method_4_code
def y_Evaluator_goesOn : MethodName := ⟨R_Evaluator, "goesOn", "()Z"⟩
abbrev b_Evaluator_evaluateIn : ByteArray := prog_5_method_5_code
def y_Evaluator_evaluateIn : MethodName := ⟨R_Evaluator, "evaluateIn", "(II)V"⟩
abbrev b_Evaluator_evaluateNode : ByteArray := prog_5_method_6_code
def y_Evaluator_evaluateNode : MethodName := ⟨R_Evaluator, "evaluateNode", "()V"⟩
abbrev b_Evaluator_hold : ByteArray := prog_5_method_7_code
def y_Evaluator_hold : MethodName := ⟨R_Evaluator, "hold", "(II)V"⟩
abbrev b_Evaluator_await : ByteArray := prog_5_method_8_code
def y_Evaluator_await : MethodName := ⟨R_Evaluator, "await", "(II)V"⟩
abbrev b_Evaluator_goOn : ByteArray := prog_5_method_9_code
def y_Evaluator_goOn : MethodName := ⟨R_Evaluator, "goOn", "()V"⟩
abbrev b_Evaluator_force : ByteArray := prog_5_method_10_code
def y_Evaluator_force : MethodName := ⟨R_Evaluator, "force", "()V"⟩
abbrev b_Evaluator_call : ByteArray := prog_5_method_11_code
def y_Evaluator_call : MethodName := ⟨R_Evaluator, "call", "(I)V"⟩
abbrev b_Meter_init : ByteArray := prog_6_method_1_code
def y_Meter_init : MethodName := ⟨R_Meter, "<init>", "()V"⟩
abbrev b_Meter_start : ByteArray := prog_6_method_2_code
def y_Meter_start : MethodName := ⟨R_Meter, "start", "(II)V"⟩
abbrev b_Meter_steps : ByteArray := prog_6_method_3_code
def y_Meter_steps : MethodName := ⟨R_Meter, "steps", "()I"⟩
abbrev b_Meter_memory : ByteArray := prog_6_method_4_code
def y_Meter_memory : MethodName := ⟨R_Meter, "memory", "()I"⟩
abbrev b_Meter_fault : ByteArray := prog_6_method_5_code
def y_Meter_fault : MethodName := ⟨R_Meter, "fault", "()I"⟩
abbrev b_Meter_fail : ByteArray := prog_6_method_6_code
def y_Meter_fail : MethodName := ⟨R_Meter, "fail", "(I)V"⟩
abbrev b_Meter_paySteps : ByteArray := prog_6_method_7_code
def y_Meter_paySteps : MethodName := ⟨R_Meter, "paySteps", "(I)Z"⟩
abbrev b_Meter_payMemory : ByteArray := prog_6_method_8_code
def y_Meter_payMemory : MethodName := ⟨R_Meter, "payMemory", "(I)Z"⟩
abbrev b_Scopes_init : ByteArray := prog_7_method_1_code
def y_Scopes_init : MethodName := ⟨R_Scopes, "<init>", "()V"⟩
abbrev b_Scopes_forget : ByteArray := prog_7_method_2_code
def y_Scopes_forget : MethodName := ⟨R_Scopes, "forget", "()V"⟩
abbrev b_Scopes_bind : ByteArray := prog_7_method_3_code
def y_Scopes_bind : MethodName := ⟨R_Scopes, "bind", "(II)I"⟩
abbrev b_Scopes_find : ByteArray := prog_7_method_4_code
def y_Scopes_find : MethodName := ⟨R_Scopes, "find", "(IJ)I"⟩
abbrev b_Scopes_has : ByteArray := prog_7_method_5_code
def y_Scopes_has : MethodName := ⟨R_Scopes, "has", "(I)Z"⟩
abbrev b_Terms_init : ByteArray := prog_8_method_1_code
def y_Terms_init : MethodName := ⟨R_Terms, "<init>", "()V"⟩
abbrev b_Terms_allows : ByteArray := prog_8_method_2_code
def y_Terms_allows : MethodName := ⟨R_Terms, "allows", "(IJ)Z"⟩
abbrev b_Terms_partsOf : ByteArray := prog_8_method_3_code
def y_Terms_partsOf : MethodName := ⟨R_Terms, "partsOf", "(I)I"⟩
abbrev b_Terms_count : ByteArray := prog_8_method_4_code
def y_Terms_count : MethodName := ⟨R_Terms, "count", "()I"⟩
abbrev b_Terms_nodeCount : ByteArray := prog_8_method_5_code
def y_Terms_nodeCount : MethodName := ⟨R_Terms, "nodeCount", "()I"⟩
abbrev b_Terms_isFull : ByteArray := prog_8_method_6_code
def y_Terms_isFull : MethodName := ⟨R_Terms, "isFull", "()Z"⟩
abbrev b_Terms_last : ByteArray := prog_8_method_7_code
def y_Terms_last : MethodName := ⟨R_Terms, "last", "()I"⟩
abbrev b_Terms_lacksOfLast : ByteArray := prog_8_method_8_code
def y_Terms_lacksOfLast : MethodName := ⟨R_Terms, "lacksOfLast", "()I"⟩
abbrev b_Terms_kindOf : ByteArray := prog_8_method_9_code
def y_Terms_kindOf : MethodName := ⟨R_Terms, "kindOf", "(I)I"⟩
abbrev b_Terms_argOf : ByteArray := prog_8_method_10_code
def y_Terms_argOf : MethodName := ⟨R_Terms, "argOf", "(I)J"⟩
abbrev b_Terms_firstOf : ByteArray := prog_8_method_11_code
def y_Terms_firstOf : MethodName := ⟨R_Terms, "firstOf", "(I)I"⟩
abbrev b_Terms_lastPartOf : ByteArray := prog_8_method_12_code
def y_Terms_lastPartOf : MethodName := ⟨R_Terms, "lastPartOf", "(I)I"⟩
abbrev b_Terms_functionOf : ByteArray := prog_8_method_13_code
def y_Terms_functionOf : MethodName := ⟨R_Terms, "functionOf", "(I)I"⟩
abbrev b_Terms_textAt : ByteArray := prog_8_method_14_code
def y_Terms_textAt : MethodName := ⟨R_Terms, "textAt", "(II)I"⟩
abbrev b_Terms_forget : ByteArray := prog_8_method_15_code
def y_Terms_forget : MethodName := ⟨R_Terms, "forget", "()V"⟩
abbrev b_Terms_push : ByteArray := prog_8_method_16_code
def y_Terms_push : MethodName := ⟨R_Terms, "push", "(IJ)V"⟩
abbrev b_Terms_pop : ByteArray := prog_8_method_17_code
def y_Terms_pop : MethodName := ⟨R_Terms, "pop", "()Z"⟩
abbrev b_Terms_canLengthen : ByteArray := prog_8_method_18_code
def y_Terms_canLengthen : MethodName := ⟨R_Terms, "canLengthen", "(I)Z"⟩
abbrev b_Terms_lengthen : ByteArray := prog_8_method_19_code
def y_Terms_lengthen : MethodName := ⟨R_Terms, "lengthen", "(JI)V"⟩
abbrev b_Terms_has : ByteArray := prog_8_method_20_code
def y_Terms_has : MethodName := ⟨R_Terms, "has", "(I)Z"⟩
abbrev b_Terms_lacksOf : ByteArray := prog_8_method_21_code
def y_Terms_lacksOf : MethodName := ⟨R_Terms, "lacksOf", "(I)I"⟩
abbrev b_Terms_firstOfNew : ByteArray := prog_8_method_22_code
def y_Terms_firstOfNew : MethodName := ⟨R_Terms, "firstOfNew", "(I)I"⟩
abbrev b_Terms_lacksOfNew : ByteArray := prog_8_method_23_code
def y_Terms_lacksOfNew : MethodName := ⟨R_Terms, "lacksOfNew", "(IJ)I"⟩
abbrev b_Values_init : ByteArray := prog_9_method_1_code
def y_Values_init : MethodName := ⟨R_Values, "<init>", "()V"⟩
abbrev b_Values_forget : ByteArray := prog_9_method_2_code
def y_Values_forget : MethodName := ⟨R_Values, "forget", "()V"⟩
abbrev b_Values_takeConstants : ByteArray := prog_9_method_3_code
def y_Values_takeConstants : MethodName := ⟨R_Values, "takeConstants", "(LCekMachine$Terms;)V"⟩
abbrev b_Values_ofInteger : ByteArray := prog_9_method_4_code
def y_Values_ofInteger : MethodName := ⟨R_Values, "ofInteger", "(J)I"⟩
abbrev b_Values_ofTruth : ByteArray := prog_9_method_5_code
def y_Values_ofTruth : MethodName := ⟨R_Values, "ofTruth", "(Z)I"⟩
abbrev b_Values_ofBytes : ByteArray := prog_9_method_6_code
def y_Values_ofBytes : MethodName := ⟨R_Values, "ofBytes", "(II)I"⟩
abbrev b_Values_ofData : ByteArray := prog_9_method_7_code
def y_Values_ofData : MethodName := ⟨R_Values, "ofData", "(I)I"⟩
abbrev b_Values_ofBody : ByteArray := prog_9_method_8_code
def y_Values_ofBody : MethodName := ⟨R_Values, "ofBody", "(III)I"⟩
abbrev b_Values_ofBuiltin : ByteArray := prog_9_method_9_code
def y_Values_ofBuiltin : MethodName := ⟨R_Values, "ofBuiltin", "(JII)I"⟩
abbrev b_Values_kindOf : ByteArray := prog_9_method_10_code
def y_Values_kindOf : MethodName := ⟨R_Values, "kindOf", "(I)I"⟩
abbrev b_Values_numberOf : ByteArray := prog_9_method_11_code
def y_Values_numberOf : MethodName := ⟨R_Values, "numberOf", "(I)J"⟩
abbrev b_Values_startOf : ByteArray := prog_9_method_12_code
def y_Values_startOf : MethodName := ⟨R_Values, "startOf", "(I)I"⟩
abbrev b_Values_lengthOf : ByteArray := prog_9_method_13_code
def y_Values_lengthOf : MethodName := ⟨R_Values, "lengthOf", "(I)I"⟩
abbrev b_Values_rootOf : ByteArray := prog_9_method_14_code
def y_Values_rootOf : MethodName := ⟨R_Values, "rootOf", "(I)I"⟩
abbrev b_Values_bodyOf : ByteArray := prog_9_method_15_code
def y_Values_bodyOf : MethodName := ⟨R_Values, "bodyOf", "(I)I"⟩
abbrev b_Values_scopeOf : ByteArray := prog_9_method_16_code
def y_Values_scopeOf : MethodName := ⟨R_Values, "scopeOf", "(I)I"⟩
abbrev b_Values_argumentOf : ByteArray := prog_9_method_17_code
def y_Values_argumentOf : MethodName := ⟨R_Values, "argumentOf", "(I)I"⟩
abbrev b_Values_beforeOf : ByteArray := prog_9_method_18_code
def y_Values_beforeOf : MethodName := ⟨R_Values, "beforeOf", "(I)I"⟩
abbrev b_Values_givenTo : ByteArray := prog_9_method_19_code
def y_Values_givenTo : MethodName := ⟨R_Values, "givenTo", "(I)I"⟩
abbrev b_Values_sizeOf : ByteArray := prog_9_method_20_code
def y_Values_sizeOf : MethodName := ⟨R_Values, "sizeOf", "(I)I"⟩
abbrev b_Values_asNumber : ByteArray := prog_9_method_21_code
def y_Values_asNumber : MethodName := ⟨R_Values, "asNumber", "(I)J"⟩
abbrev b_Values_partOf : ByteArray := prog_9_method_22_code
def y_Values_partOf : MethodName := ⟨R_Values, "partOf", "(I)I"⟩
abbrev b_Values_linkOf : ByteArray := prog_9_method_23_code
def y_Values_linkOf : MethodName := ⟨R_Values, "linkOf", "(I)I"⟩
abbrev b_Values_make : ByteArray := prog_9_method_24_code
def y_Values_make : MethodName := ⟨R_Values, "make", "(IJII)I"⟩
abbrev b_Values_set : ByteArray := prog_9_method_25_code
def y_Values_set : MethodName := ⟨R_Values, "set", "(IIJII)V"⟩
abbrev b_Values_takeConstant : ByteArray := prog_9_method_26_code
def y_Values_takeConstant : MethodName := ⟨R_Values, "takeConstant", "(LCekMachine$Terms;I)V"⟩
abbrev b_Values_takeBytes : ByteArray := prog_9_method_27_code
def y_Values_takeBytes : MethodName := ⟨R_Values, "takeBytes", "(LCekMachine$Terms;I)V"⟩
abbrev b_Waiting_init : ByteArray := prog_10_method_1_code
def y_Waiting_init : MethodName := ⟨R_Waiting, "<init>", "()V"⟩
abbrev b_Waiting_forget : ByteArray := prog_10_method_2_code
def y_Waiting_forget : MethodName := ⟨R_Waiting, "forget", "()V"⟩
abbrev b_Waiting_most : ByteArray := prog_10_method_3_code
def y_Waiting_most : MethodName := ⟨R_Waiting, "most", "()I"⟩
abbrev b_Waiting_isEmpty : ByteArray := prog_10_method_4_code
def y_Waiting_isEmpty : MethodName := ⟨R_Waiting, "isEmpty", "()Z"⟩
abbrev b_Waiting_push : ByteArray := prog_10_method_5_code
def y_Waiting_push : MethodName := ⟨R_Waiting, "push", "(II)Z"⟩
abbrev b_Waiting_pop : ByteArray := prog_10_method_6_code
def y_Waiting_pop : MethodName := ⟨R_Waiting, "pop", "()V"⟩
abbrev b_Waiting_lastNode : ByteArray := prog_10_method_7_code
def y_Waiting_lastNode : MethodName := ⟨R_Waiting, "lastNode", "()I"⟩
abbrev b_Waiting_lastScope : ByteArray := prog_10_method_8_code
def y_Waiting_lastScope : MethodName := ⟨R_Waiting, "lastScope", "()I"⟩
abbrev b_Waiting_lastFunction : ByteArray := prog_10_method_9_code
def y_Waiting_lastFunction : MethodName := ⟨R_Waiting, "lastFunction", "()I"⟩
abbrev b_Waiting_setLastFunction : ByteArray := prog_10_method_10_code
def y_Waiting_setLastFunction : MethodName := ⟨R_Waiting, "setLastFunction", "(I)V"⟩
abbrev b_Waiting_has : ByteArray := prog_10_method_11_code
def y_Waiting_has : MethodName := ⟨R_Waiting, "has", "(I)Z"⟩
abbrev b_Cek_init : ByteArray := prog_1_method_1_code
def y_Cek_init : MethodName := ⟨R_Cek, "<init>", "()V"⟩
abbrev b_Cek_clear : ByteArray := prog_1_method_2_code
def y_Cek_clear : MethodName := ⟨R_Cek, "clear", "()V"⟩
abbrev b_Cek_node : ByteArray := prog_1_method_3_code
def y_Cek_node : MethodName := ⟨R_Cek, "node", "(IJ)I"⟩
abbrev b_Cek_bytes : ByteArray := prog_1_method_4_code
def y_Cek_bytes : MethodName := ⟨R_Cek, "bytes", "(JI)I"⟩
abbrev b_Cek_more : ByteArray := prog_1_method_5_code
def y_Cek_more : MethodName := ⟨R_Cek, "more", "(JI)Z"⟩
abbrev b_Cek_drop : ByteArray := prog_1_method_6_code
def y_Cek_drop : MethodName := ⟨R_Cek, "drop", "()Z"⟩
abbrev b_Cek_run : ByteArray := prog_1_method_7_code
def y_Cek_run : MethodName := ⟨R_Cek, "run", "(II)I"⟩
abbrev b_Cek_kind : ByteArray := prog_1_method_8_code
def y_Cek_kind : MethodName := ⟨R_Cek, "kind", "()I"⟩
abbrev b_Cek_number : ByteArray := prog_1_method_9_code
def y_Cek_number : MethodName := ⟨R_Cek, "number", "()J"⟩
abbrev b_Cek_byteAt : ByteArray := prog_1_method_10_code
def y_Cek_byteAt : MethodName := ⟨R_Cek, "byteAt", "(I)I"⟩
abbrev b_Cek_data : ByteArray := prog_1_method_11_code
def y_Cek_data : MethodName := ⟨R_Cek, "data", "(II)I"⟩
abbrev b_Cek_dataValue : ByteArray := prog_1_method_12_code
def y_Cek_dataValue : MethodName := ⟨R_Cek, "dataValue", "(I)J"⟩
abbrev b_Cek_dataByte : ByteArray := prog_1_method_13_code
def y_Cek_dataByte : MethodName := ⟨R_Cek, "dataByte", "(II)I"⟩
abbrev b_Cek_look : ByteArray := prog_1_method_14_code
def y_Cek_look : MethodName := ⟨R_Cek, "look", "(I)I"⟩
abbrev b_Cek_result : ByteArray := prog_1_method_15_code
def y_Cek_result : MethodName := ⟨R_Cek, "result", "()I"⟩
abbrev b_Cek_placeOfData : ByteArray := prog_1_method_16_code
def y_Cek_placeOfData : MethodName := ⟨R_Cek, "placeOfData", "(I)I"⟩
abbrev b_Mod_init : ByteArray := prog_12_method_1_code
def y_Mod_init : MethodName := ⟨R_Mod, "<init>", "()V"⟩
abbrev b_Mod_thrown : ByteArray := prog_12_method_2_code
def y_Mod_thrown : MethodName := ⟨R_Mod, "thrown", "()I"⟩
abbrev b_Mod_takes : ByteArray := prog_12_method_3_code
def y_Mod_takes : MethodName := ⟨R_Mod, "takes", "(I)I"⟩
abbrev b_Mod_isArg : ByteArray := prog_12_method_4_code
def y_Mod_isArg : MethodName := ⟨R_Mod, "isArg", "(IJ)Z"⟩
abbrev b_Mod_clear : ByteArray := prog_12_method_5_code
def y_Mod_clear : MethodName := ⟨R_Mod, "clear", "()V"⟩
abbrev b_Mod_node : ByteArray := prog_12_method_6_code
def y_Mod_node : MethodName := ⟨R_Mod, "node", "(IJ)I"⟩
abbrev b_Mod_append : ByteArray := prog_12_method_7_code
def y_Mod_append : MethodName := ⟨R_Mod, "append", "(IJI)V"⟩
abbrev b_Mod_bytes : ByteArray := prog_12_method_8_code
def y_Mod_bytes : MethodName := ⟨R_Mod, "bytes", "(JI)I"⟩
abbrev b_Mod_more : ByteArray := prog_12_method_9_code
def y_Mod_more : MethodName := ⟨R_Mod, "more", "(JI)Z"⟩
abbrev b_Mod_drop : ByteArray := prog_12_method_10_code
def y_Mod_drop : MethodName := ⟨R_Mod, "drop", "()Z"⟩
abbrev b_Mod_lacking : ByteArray := prog_12_method_11_code
def y_Mod_lacking : MethodName := ⟨R_Mod, "lacking", "()I"⟩
abbrev b_Mod_make : ByteArray := prog_12_method_12_code
def y_Mod_make : MethodName := ⟨R_Mod, "make", "(IJ)I"⟩
abbrev b_Mod_truth : ByteArray := prog_12_method_13_code
def y_Mod_truth : MethodName := ⟨R_Mod, "truth", "(Z)I"⟩
abbrev b_Mod_makeBytes : ByteArray := prog_12_method_14_code
def y_Mod_makeBytes : MethodName := ⟨R_Mod, "makeBytes", "(I)I"⟩
abbrev b_Mod_putText : ByteArray := prog_12_method_15_code
def y_Mod_putText : MethodName := ⟨R_Mod, "putText", "(I)V"⟩
abbrev b_Mod_byteOf : ByteArray := prog_12_method_16_code
def y_Mod_byteOf : MethodName := ⟨R_Mod, "byteOf", "(II)I"⟩
abbrev b_Mod_putData : ByteArray := prog_12_method_17_code
def y_Mod_putData : MethodName := ⟨R_Mod, "putData", "(IJII)V"⟩
abbrev b_Mod_makeData : ByteArray := prog_12_method_18_code
def y_Mod_makeData : MethodName := ⟨R_Mod, "makeData", "(I)I"⟩
abbrev b_Mod_copyData : ByteArray := prog_12_method_19_code
def y_Mod_copyData : MethodName := ⟨R_Mod, "copyData", "(II)V"⟩
abbrev b_Mod_within : ByteArray := prog_12_method_20_code
def y_Mod_within : MethodName := ⟨R_Mod, "within", "(I)I"⟩
abbrev b_Mod_sizeOfData : ByteArray := prog_12_method_21_code
def y_Mod_sizeOfData : MethodName := ⟨R_Mod, "sizeOfData", "(I)I"⟩
abbrev b_Mod_depthOfData : ByteArray := prog_12_method_22_code
def y_Mod_depthOfData : MethodName := ⟨R_Mod, "depthOfData", "(II)I"⟩
abbrev b_Mod_bytesOfData : ByteArray := prog_12_method_23_code
def y_Mod_bytesOfData : MethodName := ⟨R_Mod, "bytesOfData", "(II)I"⟩
abbrev b_Mod_sizeOf : ByteArray := prog_12_method_24_code
def y_Mod_sizeOf : MethodName := ⟨R_Mod, "sizeOf", "(I)I"⟩
abbrev b_Mod_arity : ByteArray := prog_12_method_25_code
def y_Mod_arity : MethodName := ⟨R_Mod, "arity", "(I)I"⟩
abbrev b_Mod_fail : ByteArray := prog_12_method_26_code
def y_Mod_fail : MethodName := ⟨R_Mod, "fail", "(I)I"⟩
abbrev b_Mod_isKind : ByteArray := prog_12_method_27_code
def y_Mod_isKind : MethodName := ⟨R_Mod, "isKind", "(II)Z"⟩
abbrev b_Mod_isForm : ByteArray := prog_12_method_28_code
def y_Mod_isForm : MethodName := ⟨R_Mod, "isForm", "(II)Z"⟩
abbrev b_Mod_fits : ByteArray := prog_12_method_29_code
def y_Mod_fits : MethodName := ⟨R_Mod, "fits", "(I)Z"⟩
abbrev b_Mod_isProduct : ByteArray := prog_12_method_30_code
def y_Mod_isProduct : MethodName := ⟨R_Mod, "isProduct", "(JJ)Z"⟩
abbrev b_Mod_sums : ByteArray := prog_12_method_31_code
def y_Mod_sums : MethodName := ⟨R_Mod, "sums", "(IJJ)I"⟩
abbrev b_Mod_order : ByteArray := prog_12_method_32_code
def y_Mod_order : MethodName := ⟨R_Mod, "order", "(II)I"⟩
abbrev b_Mod_ofBytes : ByteArray := prog_12_method_33_code
def y_Mod_ofBytes : MethodName := ⟨R_Mod, "ofBytes", "(I)I"⟩
abbrev b_Mod_sameData : ByteArray := prog_12_method_34_code
def y_Mod_sameData : MethodName := ⟨R_Mod, "sameData", "(II)Z"⟩
abbrev b_Mod_outer : ByteArray := prog_12_method_35_code
def y_Mod_outer : MethodName := ⟨R_Mod, "outer", "(IJII)I"⟩
abbrev b_Mod_ofData : ByteArray := prog_12_method_36_code
def y_Mod_ofData : MethodName := ⟨R_Mod, "ofData", "(I)I"⟩
abbrev b_Mod_ofLists : ByteArray := prog_12_method_37_code
def y_Mod_ofLists : MethodName := ⟨R_Mod, "ofLists", "(IIII)I"⟩
abbrev b_Mod_does : ByteArray := prog_12_method_38_code
def y_Mod_does : MethodName := ⟨R_Mod, "does", "(I)I"⟩
abbrev b_Mod_step : ByteArray := prog_12_method_39_code
def y_Mod_step : MethodName := ⟨R_Mod, "step", "(I)Z"⟩
abbrev b_Mod_keep : ByteArray := prog_12_method_40_code
def y_Mod_keep : MethodName := ⟨R_Mod, "keep", "(I)Z"⟩
abbrev b_Mod_comes : ByteArray := prog_12_method_41_code
def y_Mod_comes : MethodName := ⟨R_Mod, "comes", "(I)V"⟩
abbrev b_Mod_wait : ByteArray := prog_12_method_42_code
def y_Mod_wait : MethodName := ⟨R_Mod, "wait", "(III)V"⟩
abbrev b_Mod_constant : ByteArray := prog_12_method_43_code
def y_Mod_constant : MethodName := ⟨R_Mod, "constant", "(I)V"⟩
abbrev b_Mod_evaluate : ByteArray := prog_12_method_44_code
def y_Mod_evaluate : MethodName := ⟨R_Mod, "evaluate", "()V"⟩
abbrev b_Mod_callFunction : ByteArray := prog_12_method_45_code
def y_Mod_callFunction : MethodName := ⟨R_Mod, "callFunction", "(II)V"⟩
abbrev b_Mod_callBuiltin : ByteArray := prog_12_method_46_code
def y_Mod_callBuiltin : MethodName := ⟨R_Mod, "callBuiltin", "(II)V"⟩
abbrev b_Mod_answered : ByteArray := prog_12_method_47_code
def y_Mod_answered : MethodName := ⟨R_Mod, "answered", "()V"⟩
abbrev b_Mod_run : ByteArray := prog_12_method_48_code
def y_Mod_run : MethodName := ⟨R_Mod, "run", "(II)I"⟩
abbrev b_Mod_kind : ByteArray := prog_12_method_49_code
def y_Mod_kind : MethodName := ⟨R_Mod, "kind", "()I"⟩
abbrev b_Mod_number : ByteArray := prog_12_method_50_code
def y_Mod_number : MethodName := ⟨R_Mod, "number", "()J"⟩
abbrev b_Mod_byteAt : ByteArray := prog_12_method_51_code
def y_Mod_byteAt : MethodName := ⟨R_Mod, "byteAt", "(I)I"⟩
abbrev b_Mod_dataAt : ByteArray := prog_12_method_52_code
def y_Mod_dataAt : MethodName := ⟨R_Mod, "dataAt", "(I)I"⟩
abbrev b_Mod_data : ByteArray := prog_12_method_53_code
def y_Mod_data : MethodName := ⟨R_Mod, "data", "(II)I"⟩
abbrev b_Mod_dataValue : ByteArray := prog_12_method_54_code
def y_Mod_dataValue : MethodName := ⟨R_Mod, "dataValue", "(I)J"⟩
abbrev b_Mod_dataByte : ByteArray := prog_12_method_55_code
def y_Mod_dataByte : MethodName := ⟨R_Mod, "dataByte", "(II)I"⟩
abbrev b_Mod_look : ByteArray := prog_12_method_56_code
def y_Mod_look : MethodName := ⟨R_Mod, "look", "(I)I"⟩
abbrev b_Math_floorDiv : ByteArray := prog_16_method_49_code
def y_Math_floorDiv : MethodName := ⟨R_Math, "floorDiv", "(JJ)J"⟩
abbrev b_Math_floorMod : ByteArray := prog_16_method_52_code
def y_Math_floorMod : MethodName := ⟨R_Math, "floorMod", "(JJ)J"⟩
def wo_Builtins_init : List Cond := [.methodLink R_Builtins 5 objectInit, .instanceMethod objectInit, .code objectInit ⟨#[0xb1]⟩ 1 none, .arrayClass .int, .fieldLink R_Builtins 11 "CekMachine$Builtins" "given" "[I", .fieldLink R_Builtins 15 "CekMachine$Builtins" "ready" "I", .fieldLink R_Builtins 19 "CekMachine$Builtins" "values" "LCekMachine$Values;", .fieldLink R_Builtins 23 "CekMachine$Builtins" "meter" "LCekMachine$Meter;"]
def wo_Builtins_takes : List Cond := [.fieldLink R_Builtins 27 "CekMachine$Builtins" "TAKES" "[I"]
def wo_Builtins_forget : List Cond := [.fieldLink R_Builtins 15 "CekMachine$Builtins" "ready" "I"]
def wo_Builtins_isReady : List Cond := [.fieldLink R_Builtins 15 "CekMachine$Builtins" "ready" "I"]
def wo_Builtins_take : List Cond := [.fieldLink R_Builtins 19 "CekMachine$Builtins" "values" "LCekMachine$Values;", .methodLink R_Builtins 30 y_Values_numberOf, .instanceMethod y_Values_numberOf, .selects R_Values y_Values_numberOf y_Values_numberOf, .initialized R_Values, .code y_Values_numberOf b_Values_numberOf 2 (some .long), .methodLink R_Builtins 36 y_Values_givenTo, .instanceMethod y_Values_givenTo, .selects R_Values y_Values_givenTo y_Values_givenTo, .code y_Values_givenTo b_Values_givenTo 4 (some .int), .methodLink R_Builtins 40 y_Builtins_takes, .static y_Builtins_takes, .initialized y_Builtins_takes.cls, .code y_Builtins_takes b_Builtins_takes 4 (some .int), .fieldLink R_Builtins 23 "CekMachine$Builtins" "meter" "LCekMachine$Meter;", .methodLink R_Builtins 44 y_Meter_payMemory, .instanceMethod y_Meter_payMemory, .selects R_Meter y_Meter_payMemory y_Meter_payMemory, .initialized R_Meter, .code y_Meter_payMemory b_Meter_payMemory 2 (some .boolean), .methodLink R_Builtins 50 y_Values_ofBuiltin, .instanceMethod y_Values_ofBuiltin, .selects R_Values y_Values_ofBuiltin y_Values_ofBuiltin, .code y_Values_ofBuiltin b_Values_ofBuiltin 5 (some .int), .methodLink R_Builtins 54 y_Builtins_gather, .instanceMethod y_Builtins_gather, .selects R_Builtins y_Builtins_gather y_Builtins_gather, .initialized R_Builtins, .code y_Builtins_gather b_Builtins_gather 7 none, .fieldLink R_Builtins 15 "CekMachine$Builtins" "ready" "I"]
def wo_Builtins_perform : List Cond := [.fieldLink R_Builtins 15 "CekMachine$Builtins" "ready" "I", .fieldLink R_Builtins 23 "CekMachine$Builtins" "meter" "LCekMachine$Meter;", .methodLink R_Builtins 58 y_Builtins_sizeOfGiven, .instanceMethod y_Builtins_sizeOfGiven, .selects R_Builtins y_Builtins_sizeOfGiven y_Builtins_sizeOfGiven, .initialized R_Builtins, .code y_Builtins_sizeOfGiven b_Builtins_sizeOfGiven 4 (some .int), .methodLink R_Builtins 61 y_Meter_paySteps, .instanceMethod y_Meter_paySteps, .selects R_Meter y_Meter_paySteps y_Meter_paySteps, .initialized R_Meter, .code y_Meter_paySteps b_Meter_paySteps 2 (some .boolean), .methodLink R_Builtins 64 y_Builtins_allFit, .instanceMethod y_Builtins_allFit, .selects R_Builtins y_Builtins_allFit y_Builtins_allFit, .code y_Builtins_allFit b_Builtins_allFit 3 (some .boolean), .methodLink R_Builtins 67 y_Meter_fail, .instanceMethod y_Meter_fail, .selects R_Meter y_Meter_fail y_Meter_fail, .code y_Meter_fail b_Meter_fail 2 none, .fieldLink R_Builtins 19 "CekMachine$Builtins" "values" "LCekMachine$Values;", .fieldLink R_Builtins 11 "CekMachine$Builtins" "given" "[I", .methodLink R_Builtins 30 y_Values_numberOf, .instanceMethod y_Values_numberOf, .selects R_Values y_Values_numberOf y_Values_numberOf, .initialized R_Values, .code y_Values_numberOf b_Values_numberOf 2 (some .long), .methodLink R_Builtins 71 y_Builtins_onIntegers, .instanceMethod y_Builtins_onIntegers, .selects R_Builtins y_Builtins_onIntegers y_Builtins_onIntegers, .code y_Builtins_onIntegers b_Builtins_onIntegers 6 (some .int), .methodLink R_Builtins 75 y_Builtins_onBytes, .instanceMethod y_Builtins_onBytes, .selects R_Builtins y_Builtins_onBytes y_Builtins_onBytes, .code y_Builtins_onBytes b_Builtins_onBytes 2 (some .int), .methodLink R_Builtins 78 y_Builtins_onData, .instanceMethod y_Builtins_onData, .selects R_Builtins y_Builtins_onData y_Builtins_onData, .code y_Builtins_onData b_Builtins_onData 4 (some .int), .methodLink R_Builtins 81 y_Builtins_onLists, .instanceMethod y_Builtins_onLists, .selects R_Builtins y_Builtins_onLists y_Builtins_onLists, .code y_Builtins_onLists b_Builtins_onLists 5 (some .int), .methodLink R_Builtins 84 y_Values_sizeOf, .instanceMethod y_Values_sizeOf, .selects R_Values y_Values_sizeOf y_Values_sizeOf, .code y_Values_sizeOf b_Values_sizeOf 2 (some .int), .methodLink R_Builtins 44 y_Meter_payMemory, .instanceMethod y_Meter_payMemory, .selects R_Meter y_Meter_payMemory y_Meter_payMemory, .code y_Meter_payMemory b_Meter_payMemory 2 (some .boolean)]
def wo_Builtins_gather : List Cond := [.methodLink R_Builtins 87 Lib.Math.min.name, .static Lib.Math.min.name, .initialized "java/lang/Math", .code Lib.Math.min.name Lib.Math.min.code 2 (some .int), .fieldLink R_Builtins 11 "CekMachine$Builtins" "given" "[I", .fieldLink R_Builtins 19 "CekMachine$Builtins" "values" "LCekMachine$Values;", .methodLink R_Builtins 92 y_Values_argumentOf, .instanceMethod y_Values_argumentOf, .selects R_Values y_Values_argumentOf y_Values_argumentOf, .initialized R_Values, .code y_Values_argumentOf b_Values_argumentOf 2 (some .int), .methodLink R_Builtins 95 y_Values_beforeOf, .instanceMethod y_Values_beforeOf, .selects R_Values y_Values_beforeOf y_Values_beforeOf, .code y_Values_beforeOf b_Values_beforeOf 2 (some .int)]
def wo_Builtins_sizeOfGiven : List Cond := [.methodLink R_Builtins 40 y_Builtins_takes, .static y_Builtins_takes, .initialized y_Builtins_takes.cls, .code y_Builtins_takes b_Builtins_takes 4 (some .int), .fieldLink R_Builtins 19 "CekMachine$Builtins" "values" "LCekMachine$Values;", .fieldLink R_Builtins 11 "CekMachine$Builtins" "given" "[I", .methodLink R_Builtins 84 y_Values_sizeOf, .instanceMethod y_Values_sizeOf, .selects R_Values y_Values_sizeOf y_Values_sizeOf, .initialized R_Values, .code y_Values_sizeOf b_Values_sizeOf 2 (some .int)]
def wo_Builtins_allFit : List Cond := [.methodLink R_Builtins 40 y_Builtins_takes, .static y_Builtins_takes, .initialized y_Builtins_takes.cls, .code y_Builtins_takes b_Builtins_takes 4 (some .int), .fieldLink R_Builtins 11 "CekMachine$Builtins" "given" "[I", .methodLink R_Builtins 98 y_Builtins_fits, .instanceMethod y_Builtins_fits, .selects R_Builtins y_Builtins_fits y_Builtins_fits, .initialized R_Builtins, .code y_Builtins_fits b_Builtins_fits 5 (some .boolean)]
def wo_Builtins_fits : List Cond := [.fieldLink R_Builtins 19 "CekMachine$Builtins" "values" "LCekMachine$Values;", .methodLink R_Builtins 102 y_Values_kindOf, .instanceMethod y_Values_kindOf, .selects R_Values y_Values_kindOf y_Values_kindOf, .initialized R_Values, .code y_Values_kindOf b_Values_kindOf 2 (some .int), .fieldLink R_Builtins 105 "CekMachine$Values" "data" "LCekMachine$DataRow;", .methodLink R_Builtins 109 y_Values_rootOf, .instanceMethod y_Values_rootOf, .selects R_Values y_Values_rootOf y_Values_rootOf, .code y_Values_rootOf b_Values_rootOf 2 (some .int), .methodLink R_Builtins 112 y_DataRow_formOf, .instanceMethod y_DataRow_formOf, .selects R_DataRow y_DataRow_formOf y_DataRow_formOf, .initialized R_DataRow, .code y_DataRow_formOf b_DataRow_formOf 2 (some .int)]
def wo_Builtins_onIntegers : List Cond := [.methodLink R_Builtins 117 y_Builtins_sumFits, .static y_Builtins_sumFits, .initialized y_Builtins_sumFits.cls, .code y_Builtins_sumFits b_Builtins_sumFits 4 (some .boolean), .fieldLink R_Builtins 19 "CekMachine$Builtins" "values" "LCekMachine$Values;", .methodLink R_Builtins 121 y_Values_ofInteger, .instanceMethod y_Values_ofInteger, .selects R_Values y_Values_ofInteger y_Values_ofInteger, .initialized R_Values, .code y_Values_ofInteger b_Values_ofInteger 3 (some .int), .methodLink R_Builtins 125 y_Builtins_differenceFits, .static y_Builtins_differenceFits, .initialized y_Builtins_differenceFits.cls, .code y_Builtins_differenceFits b_Builtins_differenceFits 4 (some .boolean), .methodLink R_Builtins 128 y_Builtins_productFits, .static y_Builtins_productFits, .initialized y_Builtins_productFits.cls, .code y_Builtins_productFits b_Builtins_productFits 4 (some .boolean), .methodLink R_Builtins 131 y_Builtins_quotientFits, .static y_Builtins_quotientFits, .initialized y_Builtins_quotientFits.cls, .code y_Builtins_quotientFits b_Builtins_quotientFits 4 (some .boolean), .methodLink R_Builtins 134 y_Math_floorDiv, .static y_Math_floorDiv, .initialized y_Math_floorDiv.cls, .code y_Math_floorDiv b_Math_floorDiv 6 (some .long), .methodLink R_Builtins 138 y_Math_floorMod, .static y_Math_floorMod, .initialized y_Math_floorMod.cls, .code y_Math_floorMod b_Math_floorMod 6 (some .long), .methodLink R_Builtins 141 y_Values_ofTruth, .instanceMethod y_Values_ofTruth, .selects R_Values y_Values_ofTruth y_Values_ofTruth, .code y_Values_ofTruth b_Values_ofTruth 2 (some .int)]
def wo_Builtins_sumFits : List Cond := [.constantLong R_Builtins 147 (9223372036854775807), .constantLong R_Builtins 149 (-9223372036854775808)]
def wo_Builtins_differenceFits : List Cond := [.constantLong R_Builtins 149 (-9223372036854775808), .constantLong R_Builtins 147 (9223372036854775807)]
def wo_Builtins_productFits : List Cond := [.constantLong R_Builtins 151 (-1), .constantLong R_Builtins 149 (-9223372036854775808)]
def wo_Builtins_quotientFits : List Cond := [.constantLong R_Builtins 151 (-1), .constantLong R_Builtins 149 (-9223372036854775808)]
def wo_Builtins_onBytes : List Cond := [.fieldLink R_Builtins 11 "CekMachine$Builtins" "given" "[I", .methodLink R_Builtins 153 y_Builtins_join, .instanceMethod y_Builtins_join, .selects R_Builtins y_Builtins_join y_Builtins_join, .initialized R_Builtins, .code y_Builtins_join b_Builtins_join 5 (some .int), .fieldLink R_Builtins 19 "CekMachine$Builtins" "values" "LCekMachine$Values;", .methodLink R_Builtins 156 y_Values_lengthOf, .instanceMethod y_Values_lengthOf, .selects R_Values y_Values_lengthOf y_Values_lengthOf, .initialized R_Values, .code y_Values_lengthOf b_Values_lengthOf 2 (some .int), .methodLink R_Builtins 121 y_Values_ofInteger, .instanceMethod y_Values_ofInteger, .selects R_Values y_Values_ofInteger y_Values_ofInteger, .code y_Values_ofInteger b_Values_ofInteger 3 (some .int), .methodLink R_Builtins 30 y_Values_numberOf, .instanceMethod y_Values_numberOf, .selects R_Values y_Values_numberOf y_Values_numberOf, .code y_Values_numberOf b_Values_numberOf 2 (some .long), .methodLink R_Builtins 159 y_Builtins_byteOf, .instanceMethod y_Builtins_byteOf, .selects R_Builtins y_Builtins_byteOf y_Builtins_byteOf, .code y_Builtins_byteOf b_Builtins_byteOf 4 (some .int), .methodLink R_Builtins 163 y_Builtins_slice, .instanceMethod y_Builtins_slice, .selects R_Builtins y_Builtins_slice y_Builtins_slice, .code y_Builtins_slice b_Builtins_slice 10 (some .int), .methodLink R_Builtins 167 y_Builtins_compareBytes, .instanceMethod y_Builtins_compareBytes, .selects R_Builtins y_Builtins_compareBytes y_Builtins_compareBytes, .code y_Builtins_compareBytes b_Builtins_compareBytes 3 (some .int), .methodLink R_Builtins 141 y_Values_ofTruth, .instanceMethod y_Values_ofTruth, .selects R_Values y_Values_ofTruth y_Values_ofTruth, .code y_Values_ofTruth b_Values_ofTruth 2 (some .int)]
def wo_Builtins_join : List Cond := [.fieldLink R_Builtins 19 "CekMachine$Builtins" "values" "LCekMachine$Values;", .methodLink R_Builtins 156 y_Values_lengthOf, .instanceMethod y_Values_lengthOf, .selects R_Values y_Values_lengthOf y_Values_lengthOf, .initialized R_Values, .code y_Values_lengthOf b_Values_lengthOf 2 (some .int), .fieldLink R_Builtins 170 "CekMachine$Values" "bytes" "LCekMachine$ByteRow;", .methodLink R_Builtins 174 y_ByteRow_end, .instanceMethod y_ByteRow_end, .selects R_ByteRow y_ByteRow_end y_ByteRow_end, .initialized R_ByteRow, .code y_ByteRow_end b_ByteRow_end 1 (some .int), .methodLink R_Builtins 180 y_Values_startOf, .instanceMethod y_Values_startOf, .selects R_Values y_Values_startOf y_Values_startOf, .code y_Values_startOf b_Values_startOf 2 (some .int), .methodLink R_Builtins 183 y_ByteRow_append, .instanceMethod y_ByteRow_append, .selects R_ByteRow y_ByteRow_append y_ByteRow_append, .code y_ByteRow_append b_ByteRow_append 4 none, .methodLink R_Builtins 187 y_Values_ofBytes, .instanceMethod y_Values_ofBytes, .selects R_Values y_Values_ofBytes y_Values_ofBytes, .code y_Values_ofBytes b_Values_ofBytes 3 (some .int)]
def wo_Builtins_byteOf : List Cond := [.fieldLink R_Builtins 19 "CekMachine$Builtins" "values" "LCekMachine$Values;", .methodLink R_Builtins 156 y_Values_lengthOf, .instanceMethod y_Values_lengthOf, .selects R_Values y_Values_lengthOf y_Values_lengthOf, .initialized R_Values, .code y_Values_lengthOf b_Values_lengthOf 2 (some .int), .fieldLink R_Builtins 170 "CekMachine$Values" "bytes" "LCekMachine$ByteRow;", .methodLink R_Builtins 180 y_Values_startOf, .instanceMethod y_Values_startOf, .selects R_Values y_Values_startOf y_Values_startOf, .code y_Values_startOf b_Values_startOf 2 (some .int), .methodLink R_Builtins 190 y_ByteRow_at, .instanceMethod y_ByteRow_at, .selects R_ByteRow y_ByteRow_at y_ByteRow_at, .initialized R_ByteRow, .code y_ByteRow_at b_ByteRow_at 2 (some .int), .methodLink R_Builtins 121 y_Values_ofInteger, .instanceMethod y_Values_ofInteger, .selects R_Values y_Values_ofInteger y_Values_ofInteger, .code y_Values_ofInteger b_Values_ofInteger 3 (some .int)]
def wo_Builtins_slice : List Cond := [.methodLink R_Builtins 193 Lib.MathLoose.max_long.x, .static Lib.MathLoose.max_long.x, .initialized "java/lang/Math", .code Lib.MathLoose.max_long.x Lib.MathLoose.max_long.code 4 (some .long), .fieldLink R_Builtins 19 "CekMachine$Builtins" "values" "LCekMachine$Values;", .methodLink R_Builtins 156 y_Values_lengthOf, .instanceMethod y_Values_lengthOf, .selects R_Values y_Values_lengthOf y_Values_lengthOf, .initialized R_Values, .code y_Values_lengthOf b_Values_lengthOf 2 (some .int), .methodLink R_Builtins 196 Lib.MathLoose.min_long.x, .static Lib.MathLoose.min_long.x, .code Lib.MathLoose.min_long.x Lib.MathLoose.min_long.code 4 (some .long), .methodLink R_Builtins 180 y_Values_startOf, .instanceMethod y_Values_startOf, .selects R_Values y_Values_startOf y_Values_startOf, .code y_Values_startOf b_Values_startOf 2 (some .int), .methodLink R_Builtins 187 y_Values_ofBytes, .instanceMethod y_Values_ofBytes, .selects R_Values y_Values_ofBytes y_Values_ofBytes, .code y_Values_ofBytes b_Values_ofBytes 3 (some .int)]
def wo_Builtins_compareBytes : List Cond := [.fieldLink R_Builtins 19 "CekMachine$Builtins" "values" "LCekMachine$Values;", .fieldLink R_Builtins 170 "CekMachine$Values" "bytes" "LCekMachine$ByteRow;", .methodLink R_Builtins 180 y_Values_startOf, .instanceMethod y_Values_startOf, .selects R_Values y_Values_startOf y_Values_startOf, .initialized R_Values, .code y_Values_startOf b_Values_startOf 2 (some .int), .methodLink R_Builtins 156 y_Values_lengthOf, .instanceMethod y_Values_lengthOf, .selects R_Values y_Values_lengthOf y_Values_lengthOf, .code y_Values_lengthOf b_Values_lengthOf 2 (some .int), .methodLink R_Builtins 198 y_ByteRow_compare, .instanceMethod y_ByteRow_compare, .selects R_ByteRow y_ByteRow_compare y_ByteRow_compare, .initialized R_ByteRow, .code y_ByteRow_compare b_ByteRow_compare 8 (some .int)]
def wo_Builtins_onData : List Cond := [.fieldLink R_Builtins 19 "CekMachine$Builtins" "values" "LCekMachine$Values;", .fieldLink R_Builtins 105 "CekMachine$Values" "data" "LCekMachine$DataRow;", .fieldLink R_Builtins 11 "CekMachine$Builtins" "given" "[I", .methodLink R_Builtins 109 y_Values_rootOf, .instanceMethod y_Values_rootOf, .selects R_Values y_Values_rootOf y_Values_rootOf, .initialized R_Values, .code y_Values_rootOf b_Values_rootOf 2 (some .int), .methodLink R_Builtins 202 y_Builtins_sameData, .instanceMethod y_Builtins_sameData, .selects R_Builtins y_Builtins_sameData y_Builtins_sameData, .initialized R_Builtins, .code y_Builtins_sameData b_Builtins_sameData 5 (some .boolean), .methodLink R_Builtins 141 y_Values_ofTruth, .instanceMethod y_Values_ofTruth, .selects R_Values y_Values_ofTruth y_Values_ofTruth, .code y_Values_ofTruth b_Values_ofTruth 2 (some .int), .methodLink R_Builtins 112 y_DataRow_formOf, .instanceMethod y_DataRow_formOf, .selects R_DataRow y_DataRow_formOf y_DataRow_formOf, .initialized R_DataRow, .code y_DataRow_formOf b_DataRow_formOf 2 (some .int), .methodLink R_Builtins 121 y_Values_ofInteger, .instanceMethod y_Values_ofInteger, .selects R_Values y_Values_ofInteger y_Values_ofInteger, .code y_Values_ofInteger b_Values_ofInteger 3 (some .int), .methodLink R_Builtins 205 y_DataRow_numberOf, .instanceMethod y_DataRow_numberOf, .selects R_DataRow y_DataRow_numberOf y_DataRow_numberOf, .code y_DataRow_numberOf b_DataRow_numberOf 2 (some .long), .methodLink R_Builtins 206 y_DataRow_countOf, .instanceMethod y_DataRow_countOf, .selects R_DataRow y_DataRow_countOf y_DataRow_countOf, .code y_DataRow_countOf b_DataRow_countOf 2 (some .int), .methodLink R_Builtins 209 y_DataRow_recast, .instanceMethod y_DataRow_recast, .selects R_DataRow y_DataRow_recast y_DataRow_recast, .code y_DataRow_recast b_DataRow_recast 7 (some .int), .methodLink R_Builtins 213 y_Values_ofData, .instanceMethod y_Values_ofData, .selects R_Values y_Values_ofData y_Values_ofData, .code y_Values_ofData b_Values_ofData 2 (some .int), .methodLink R_Builtins 30 y_Values_numberOf, .instanceMethod y_Values_numberOf, .selects R_Values y_Values_numberOf y_Values_numberOf, .code y_Values_numberOf b_Values_numberOf 2 (some .long), .methodLink R_Builtins 216 y_Builtins_toConstructor, .instanceMethod y_Builtins_toConstructor, .selects R_Builtins y_Builtins_toConstructor y_Builtins_toConstructor, .code y_Builtins_toConstructor b_Builtins_toConstructor 5 (some .int), .methodLink R_Builtins 220 y_DataRow_leaf, .instanceMethod y_DataRow_leaf, .selects R_DataRow y_DataRow_leaf y_DataRow_leaf, .code y_DataRow_leaf b_DataRow_leaf 6 (some .int), .methodLink R_Builtins 180 y_Values_startOf, .instanceMethod y_Values_startOf, .selects R_Values y_Values_startOf y_Values_startOf, .code y_Values_startOf b_Values_startOf 2 (some .int), .methodLink R_Builtins 156 y_Values_lengthOf, .instanceMethod y_Values_lengthOf, .selects R_Values y_Values_lengthOf y_Values_lengthOf, .code y_Values_lengthOf b_Values_lengthOf 2 (some .int), .methodLink R_Builtins 187 y_Values_ofBytes, .instanceMethod y_Values_ofBytes, .selects R_Values y_Values_ofBytes y_Values_ofBytes, .code y_Values_ofBytes b_Values_ofBytes 3 (some .int)]
def wo_Builtins_toConstructor : List Cond := [.constantLong R_Builtins 224 (127), .fieldLink R_Builtins 19 "CekMachine$Builtins" "values" "LCekMachine$Values;", .fieldLink R_Builtins 105 "CekMachine$Values" "data" "LCekMachine$DataRow;", .methodLink R_Builtins 206 y_DataRow_countOf, .instanceMethod y_DataRow_countOf, .selects R_DataRow y_DataRow_countOf y_DataRow_countOf, .initialized R_DataRow, .code y_DataRow_countOf b_DataRow_countOf 2 (some .int), .methodLink R_Builtins 209 y_DataRow_recast, .instanceMethod y_DataRow_recast, .selects R_DataRow y_DataRow_recast y_DataRow_recast, .code y_DataRow_recast b_DataRow_recast 7 (some .int), .methodLink R_Builtins 213 y_Values_ofData, .instanceMethod y_Values_ofData, .selects R_Values y_Values_ofData y_Values_ofData, .initialized R_Values, .code y_Values_ofData b_Values_ofData 2 (some .int)]
def wo_Builtins_onLists : List Cond := [.fieldLink R_Builtins 19 "CekMachine$Builtins" "values" "LCekMachine$Values;", .fieldLink R_Builtins 105 "CekMachine$Values" "data" "LCekMachine$DataRow;", .fieldLink R_Builtins 11 "CekMachine$Builtins" "given" "[I", .methodLink R_Builtins 109 y_Values_rootOf, .instanceMethod y_Values_rootOf, .selects R_Values y_Values_rootOf y_Values_rootOf, .initialized R_Values, .code y_Values_rootOf b_Values_rootOf 2 (some .int), .methodLink R_Builtins 206 y_DataRow_countOf, .instanceMethod y_DataRow_countOf, .selects R_DataRow y_DataRow_countOf y_DataRow_countOf, .initialized R_DataRow, .code y_DataRow_countOf b_DataRow_countOf 2 (some .int), .methodLink R_Builtins 213 y_Values_ofData, .instanceMethod y_Values_ofData, .selects R_Values y_Values_ofData y_Values_ofData, .code y_Values_ofData b_Values_ofData 2 (some .int), .methodLink R_Builtins 226 y_DataRow_rest, .instanceMethod y_DataRow_rest, .selects R_DataRow y_DataRow_rest y_DataRow_rest, .code y_DataRow_rest b_DataRow_rest 4 (some .int), .methodLink R_Builtins 229 y_DataRow_prepend, .instanceMethod y_DataRow_prepend, .selects R_DataRow y_DataRow_prepend y_DataRow_prepend, .code y_DataRow_prepend b_DataRow_prepend 5 (some .int), .methodLink R_Builtins 141 y_Values_ofTruth, .instanceMethod y_Values_ofTruth, .selects R_Values y_Values_ofTruth y_Values_ofTruth, .code y_Values_ofTruth b_Values_ofTruth 2 (some .int), .methodLink R_Builtins 209 y_DataRow_recast, .instanceMethod y_DataRow_recast, .selects R_DataRow y_DataRow_recast y_DataRow_recast, .code y_DataRow_recast b_DataRow_recast 7 (some .int)]
def wo_Builtins_sameData : List Cond := [.fieldLink R_Builtins 19 "CekMachine$Builtins" "values" "LCekMachine$Values;", .fieldLink R_Builtins 105 "CekMachine$Values" "data" "LCekMachine$DataRow;", .methodLink R_Builtins 232 y_DataRow_nodesOf, .instanceMethod y_DataRow_nodesOf, .selects R_DataRow y_DataRow_nodesOf y_DataRow_nodesOf, .initialized R_DataRow, .code y_DataRow_nodesOf b_DataRow_nodesOf 2 (some .int), .methodLink R_Builtins 235 y_Builtins_sameNode, .instanceMethod y_Builtins_sameNode, .selects R_Builtins y_Builtins_sameNode y_Builtins_sameNode, .initialized R_Builtins, .code y_Builtins_sameNode b_Builtins_sameNode 7 (some .boolean)]
def wo_Builtins_sameNode : List Cond := [.fieldLink R_Builtins 19 "CekMachine$Builtins" "values" "LCekMachine$Values;", .fieldLink R_Builtins 105 "CekMachine$Values" "data" "LCekMachine$DataRow;", .methodLink R_Builtins 206 y_DataRow_countOf, .instanceMethod y_DataRow_countOf, .selects R_DataRow y_DataRow_countOf y_DataRow_countOf, .initialized R_DataRow, .code y_DataRow_countOf b_DataRow_countOf 2 (some .int), .methodLink R_Builtins 112 y_DataRow_formOf, .instanceMethod y_DataRow_formOf, .selects R_DataRow y_DataRow_formOf y_DataRow_formOf, .code y_DataRow_formOf b_DataRow_formOf 2 (some .int), .methodLink R_Builtins 205 y_DataRow_numberOf, .instanceMethod y_DataRow_numberOf, .selects R_DataRow y_DataRow_numberOf y_DataRow_numberOf, .code y_DataRow_numberOf b_DataRow_numberOf 2 (some .long), .fieldLink R_Builtins 170 "CekMachine$Values" "bytes" "LCekMachine$ByteRow;", .methodLink R_Builtins 198 y_ByteRow_compare, .instanceMethod y_ByteRow_compare, .selects R_ByteRow y_ByteRow_compare y_ByteRow_compare, .initialized R_ByteRow, .code y_ByteRow_compare b_ByteRow_compare 8 (some .int)]
def wo_ByteRow_init : List Cond := [.methodLink R_ByteRow 3 objectInit, .instanceMethod objectInit, .code objectInit ⟨#[0xb1]⟩ 1 none, .fieldLink R_ByteRow 9 "CekMachine$ByteRow" "top" "I", .methodLink R_ByteRow 15 Lib.Math.max.name, .static Lib.Math.max.name, .initialized "java/lang/Math", .code Lib.Math.max.name Lib.Math.max.code 2 (some .int), .arrayClass .byte, .fieldLink R_ByteRow 21 "CekMachine$ByteRow" "row" "[B"]
def wo_ByteRow_at : List Cond := [.fieldLink R_ByteRow 21 "CekMachine$ByteRow" "row" "[B"]
def wo_ByteRow_put : List Cond := [.fieldLink R_ByteRow 21 "CekMachine$ByteRow" "row" "[B"]
def wo_ByteRow_cut : List Cond := [.fieldLink R_ByteRow 9 "CekMachine$ByteRow" "top" "I"]
def wo_ByteRow_append : List Cond := [.fieldLink R_ByteRow 9 "CekMachine$ByteRow" "top" "I", .methodLink R_ByteRow 25 y_ByteRow_at, .instanceMethod y_ByteRow_at, .selects R_ByteRow y_ByteRow_at y_ByteRow_at, .initialized R_ByteRow, .code y_ByteRow_at b_ByteRow_at 2 (some .int), .methodLink R_ByteRow 29 y_ByteRow_put, .instanceMethod y_ByteRow_put, .selects R_ByteRow y_ByteRow_put y_ByteRow_put, .code y_ByteRow_put b_ByteRow_put 3 none, .methodLink R_ByteRow 15 Lib.Math.max.name, .static Lib.Math.max.name, .initialized "java/lang/Math", .code Lib.Math.max.name Lib.Math.max.code 2 (some .int)]
def wo_ByteRow_end : List Cond := [.fieldLink R_ByteRow 9 "CekMachine$ByteRow" "top" "I"]
def wo_ByteRow_compare : List Cond := [.methodLink R_ByteRow 33 Lib.Math.min.name, .static Lib.Math.min.name, .initialized "java/lang/Math", .code Lib.Math.min.name Lib.Math.min.code 2 (some .int), .methodLink R_ByteRow 25 y_ByteRow_at, .instanceMethod y_ByteRow_at, .selects R_ByteRow y_ByteRow_at y_ByteRow_at, .initialized R_ByteRow, .code y_ByteRow_at b_ByteRow_at 2 (some .int)]
def wo_DataRow_init : List Cond := [.methodLink R_DataRow 3 objectInit, .instanceMethod objectInit, .code objectInit ⟨#[0xb1]⟩ 1 none, .arrayClass .int, .fieldLink R_DataRow 9 "CekMachine$DataRow" "forms" "[I", .fieldLink R_DataRow 15 "CekMachine$DataRow" "counts" "[I", .arrayClass .long, .fieldLink R_DataRow 18 "CekMachine$DataRow" "numbers" "[J", .fieldLink R_DataRow 22 "CekMachine$DataRow" "nodes" "[I", .fieldLink R_DataRow 25 "CekMachine$DataRow" "depths" "[I", .fieldLink R_DataRow 28 "CekMachine$DataRow" "weights" "[I", .fieldLink R_DataRow 31 "CekMachine$DataRow" "top" "I", .methodLink R_DataRow 35 y_DataRow_forget, .instanceMethod y_DataRow_forget, .selects R_DataRow y_DataRow_forget y_DataRow_forget, .initialized R_DataRow, .code y_DataRow_forget b_DataRow_forget 1 none]
def wo_DataRow_forget : List Cond := [.fieldLink R_DataRow 31 "CekMachine$DataRow" "top" "I", .methodLink R_DataRow 38 y_DataRow_leaf, .instanceMethod y_DataRow_leaf, .selects R_DataRow y_DataRow_leaf y_DataRow_leaf, .initialized R_DataRow, .code y_DataRow_leaf b_DataRow_leaf 6 (some .int)]
def wo_DataRow_formOf : List Cond := [.fieldLink R_DataRow 31 "CekMachine$DataRow" "top" "I", .fieldLink R_DataRow 9 "CekMachine$DataRow" "forms" "[I"]
def wo_DataRow_countOf : List Cond := [.fieldLink R_DataRow 31 "CekMachine$DataRow" "top" "I", .fieldLink R_DataRow 15 "CekMachine$DataRow" "counts" "[I"]
def wo_DataRow_numberOf : List Cond := [.fieldLink R_DataRow 31 "CekMachine$DataRow" "top" "I", .fieldLink R_DataRow 18 "CekMachine$DataRow" "numbers" "[J"]
def wo_DataRow_nodesOf : List Cond := [.fieldLink R_DataRow 31 "CekMachine$DataRow" "top" "I", .fieldLink R_DataRow 22 "CekMachine$DataRow" "nodes" "[I"]
def wo_DataRow_depthOf : List Cond := [.fieldLink R_DataRow 31 "CekMachine$DataRow" "top" "I", .fieldLink R_DataRow 25 "CekMachine$DataRow" "depths" "[I"]
def wo_DataRow_sizeOf : List Cond := [.fieldLink R_DataRow 31 "CekMachine$DataRow" "top" "I", .fieldLink R_DataRow 22 "CekMachine$DataRow" "nodes" "[I", .fieldLink R_DataRow 28 "CekMachine$DataRow" "weights" "[I"]
def wo_DataRow_leaf : List Cond := [.fieldLink R_DataRow 31 "CekMachine$DataRow" "top" "I", .fieldLink R_DataRow 9 "CekMachine$DataRow" "forms" "[I", .fieldLink R_DataRow 18 "CekMachine$DataRow" "numbers" "[J", .fieldLink R_DataRow 15 "CekMachine$DataRow" "counts" "[I", .fieldLink R_DataRow 22 "CekMachine$DataRow" "nodes" "[I", .fieldLink R_DataRow 25 "CekMachine$DataRow" "depths" "[I", .fieldLink R_DataRow 28 "CekMachine$DataRow" "weights" "[I"]
def wo_DataRow_recast : List Cond := [.fieldLink R_DataRow 31 "CekMachine$DataRow" "top" "I", .methodLink R_DataRow 42 y_DataRow_nodesOf, .instanceMethod y_DataRow_nodesOf, .selects R_DataRow y_DataRow_nodesOf y_DataRow_nodesOf, .initialized R_DataRow, .code y_DataRow_nodesOf b_DataRow_nodesOf 2 (some .int), .methodLink R_DataRow 46 y_DataRow_copy, .instanceMethod y_DataRow_copy, .selects R_DataRow y_DataRow_copy y_DataRow_copy, .code y_DataRow_copy b_DataRow_copy 3 (some .boolean), .fieldLink R_DataRow 9 "CekMachine$DataRow" "forms" "[I", .fieldLink R_DataRow 18 "CekMachine$DataRow" "numbers" "[J", .fieldLink R_DataRow 15 "CekMachine$DataRow" "counts" "[I"]
def wo_DataRow_prepend : List Cond := [.methodLink R_DataRow 42 y_DataRow_nodesOf, .instanceMethod y_DataRow_nodesOf, .selects R_DataRow y_DataRow_nodesOf y_DataRow_nodesOf, .initialized R_DataRow, .code y_DataRow_nodesOf b_DataRow_nodesOf 2 (some .int), .methodLink R_DataRow 50 y_DataRow_depthOf, .instanceMethod y_DataRow_depthOf, .selects R_DataRow y_DataRow_depthOf y_DataRow_depthOf, .code y_DataRow_depthOf b_DataRow_depthOf 2 (some .int), .methodLink R_DataRow 53 y_DataRow_countOf, .instanceMethod y_DataRow_countOf, .selects R_DataRow y_DataRow_countOf y_DataRow_countOf, .code y_DataRow_countOf b_DataRow_countOf 2 (some .int), .methodLink R_DataRow 38 y_DataRow_leaf, .instanceMethod y_DataRow_leaf, .selects R_DataRow y_DataRow_leaf y_DataRow_leaf, .code y_DataRow_leaf b_DataRow_leaf 6 (some .int), .methodLink R_DataRow 46 y_DataRow_copy, .instanceMethod y_DataRow_copy, .selects R_DataRow y_DataRow_copy y_DataRow_copy, .code y_DataRow_copy b_DataRow_copy 3 (some .boolean), .methodLink R_DataRow 56 y_DataRow_sealed, .instanceMethod y_DataRow_sealed, .selects R_DataRow y_DataRow_sealed y_DataRow_sealed, .code y_DataRow_sealed b_DataRow_sealed 6 (some .int)]
def wo_DataRow_rest : List Cond := [.methodLink R_DataRow 53 y_DataRow_countOf, .instanceMethod y_DataRow_countOf, .selects R_DataRow y_DataRow_countOf y_DataRow_countOf, .initialized R_DataRow, .code y_DataRow_countOf b_DataRow_countOf 2 (some .int), .methodLink R_DataRow 42 y_DataRow_nodesOf, .instanceMethod y_DataRow_nodesOf, .selects R_DataRow y_DataRow_nodesOf y_DataRow_nodesOf, .code y_DataRow_nodesOf b_DataRow_nodesOf 2 (some .int), .methodLink R_DataRow 38 y_DataRow_leaf, .instanceMethod y_DataRow_leaf, .selects R_DataRow y_DataRow_leaf y_DataRow_leaf, .code y_DataRow_leaf b_DataRow_leaf 6 (some .int), .methodLink R_DataRow 46 y_DataRow_copy, .instanceMethod y_DataRow_copy, .selects R_DataRow y_DataRow_copy y_DataRow_copy, .code y_DataRow_copy b_DataRow_copy 3 (some .boolean), .methodLink R_DataRow 56 y_DataRow_sealed, .instanceMethod y_DataRow_sealed, .selects R_DataRow y_DataRow_sealed y_DataRow_sealed, .code y_DataRow_sealed b_DataRow_sealed 6 (some .int)]
def wo_DataRow_copy : List Cond := [.fieldLink R_DataRow 31 "CekMachine$DataRow" "top" "I", .fieldLink R_DataRow 9 "CekMachine$DataRow" "forms" "[I", .methodLink R_DataRow 59 arraycopyName, .native arraycopyName, .static arraycopyName, .initialized "java/lang/System", .fieldLink R_DataRow 15 "CekMachine$DataRow" "counts" "[I", .fieldLink R_DataRow 18 "CekMachine$DataRow" "numbers" "[J", .fieldLink R_DataRow 22 "CekMachine$DataRow" "nodes" "[I", .fieldLink R_DataRow 25 "CekMachine$DataRow" "depths" "[I", .fieldLink R_DataRow 28 "CekMachine$DataRow" "weights" "[I"]
def wo_DataRow_sealed : List Cond := [.fieldLink R_DataRow 31 "CekMachine$DataRow" "top" "I", .fieldLink R_DataRow 15 "CekMachine$DataRow" "counts" "[I", .fieldLink R_DataRow 25 "CekMachine$DataRow" "depths" "[I", .methodLink R_DataRow 65 Lib.Math.max.name, .static Lib.Math.max.name, .initialized "java/lang/Math", .code Lib.Math.max.name Lib.Math.max.code 2 (some .int), .fieldLink R_DataRow 28 "CekMachine$DataRow" "weights" "[I", .fieldLink R_DataRow 22 "CekMachine$DataRow" "nodes" "[I"]
def wo_Evaluator_init : List Cond := [.methodLink R_Evaluator 3 objectInit, .instanceMethod objectInit, .code objectInit ⟨#[0xb1]⟩ 1 none, .classLink R_Evaluator 9 "CekMachine$Values", .instantiable "CekMachine$Values" 7, .initialized "CekMachine$Values", .instanceMethod y_Values_init, .initialized R_Values, .code y_Values_init b_Values_init 1 none, .fieldLink R_Evaluator 12 "CekMachine$Evaluator" "values" "LCekMachine$Values;", .classLink R_Evaluator 18 "CekMachine$Meter", .instantiable "CekMachine$Meter" 5, .initialized "CekMachine$Meter", .instanceMethod y_Meter_init, .initialized R_Meter, .code y_Meter_init b_Meter_init 1 none, .fieldLink R_Evaluator 21 "CekMachine$Evaluator" "meter" "LCekMachine$Meter;", .classLink R_Evaluator 25 "CekMachine$Waiting", .instantiable "CekMachine$Waiting" 5, .initialized "CekMachine$Waiting", .instanceMethod y_Waiting_init, .initialized R_Waiting, .code y_Waiting_init b_Waiting_init 1 none, .fieldLink R_Evaluator 28 "CekMachine$Evaluator" "waiting" "LCekMachine$Waiting;", .classLink R_Evaluator 32 "CekMachine$Scopes", .instantiable "CekMachine$Scopes" 3, .initialized "CekMachine$Scopes", .instanceMethod y_Scopes_init, .initialized R_Scopes, .code y_Scopes_init b_Scopes_init 1 none, .fieldLink R_Evaluator 35 "CekMachine$Evaluator" "scopes" "LCekMachine$Scopes;", .classLink R_Evaluator 39 "CekMachine$Builtins", .instantiable "CekMachine$Builtins" 4, .initialized "CekMachine$Builtins", .methodLink R_Evaluator 41 y_Builtins_init, .instanceMethod y_Builtins_init, .initialized R_Builtins, .code y_Builtins_init b_Builtins_init 3 none, .fieldLink R_Evaluator 44 "CekMachine$Evaluator" "builtins" "LCekMachine$Builtins;", .fieldLink R_Evaluator 48 "CekMachine$Evaluator" "node" "I", .fieldLink R_Evaluator 52 "CekMachine$Evaluator" "scope" "I", .fieldLink R_Evaluator 55 "CekMachine$Evaluator" "value" "I", .fieldLink R_Evaluator 58 "CekMachine$Evaluator" "terms" "LCekMachine$Terms;"]
def wo_Evaluator_outcome : List Cond := [.fieldLink R_Evaluator 55 "CekMachine$Evaluator" "value" "I"]
def wo_Evaluator_evaluateLast : List Cond := [.fieldLink R_Evaluator 21 "CekMachine$Evaluator" "meter" "LCekMachine$Meter;", .methodLink R_Evaluator 62 y_Meter_start, .instanceMethod y_Meter_start, .selects R_Meter y_Meter_start y_Meter_start, .initialized R_Meter, .code y_Meter_start b_Meter_start 3 none, .fieldLink R_Evaluator 28 "CekMachine$Evaluator" "waiting" "LCekMachine$Waiting;", .methodLink R_Evaluator 66 y_Waiting_forget, .instanceMethod y_Waiting_forget, .selects R_Waiting y_Waiting_forget y_Waiting_forget, .initialized R_Waiting, .code y_Waiting_forget b_Waiting_forget 1 none, .fieldLink R_Evaluator 35 "CekMachine$Evaluator" "scopes" "LCekMachine$Scopes;", .methodLink R_Evaluator 69 y_Scopes_forget, .instanceMethod y_Scopes_forget, .selects R_Scopes y_Scopes_forget y_Scopes_forget, .initialized R_Scopes, .code y_Scopes_forget b_Scopes_forget 1 none, .fieldLink R_Evaluator 44 "CekMachine$Evaluator" "builtins" "LCekMachine$Builtins;", .methodLink R_Evaluator 70 y_Builtins_forget, .instanceMethod y_Builtins_forget, .selects R_Builtins y_Builtins_forget y_Builtins_forget, .initialized R_Builtins, .code y_Builtins_forget b_Builtins_forget 1 none, .fieldLink R_Evaluator 12 "CekMachine$Evaluator" "values" "LCekMachine$Values;", .methodLink R_Evaluator 71 y_Values_forget, .instanceMethod y_Values_forget, .selects R_Values y_Values_forget y_Values_forget, .initialized R_Values, .code y_Values_forget b_Values_forget 1 none, .fieldLink R_Evaluator 58 "CekMachine$Evaluator" "terms" "LCekMachine$Terms;", .methodLink R_Evaluator 72 y_Values_takeConstants, .instanceMethod y_Values_takeConstants, .selects R_Values y_Values_takeConstants y_Values_takeConstants, .code y_Values_takeConstants b_Values_takeConstants 4 none, .fieldLink R_Evaluator 55 "CekMachine$Evaluator" "value" "I", .methodLink R_Evaluator 76 y_Terms_last, .instanceMethod y_Terms_last, .selects R_Terms y_Terms_last y_Terms_last, .initialized R_Terms, .code y_Terms_last b_Terms_last 1 (some .int), .methodLink R_Evaluator 82 y_Evaluator_evaluateIn, .instanceMethod y_Evaluator_evaluateIn, .selects R_Evaluator y_Evaluator_evaluateIn y_Evaluator_evaluateIn, .initialized R_Evaluator, .code y_Evaluator_evaluateIn b_Evaluator_evaluateIn 3 none, .constant R_Evaluator 85 (1000000), .methodLink R_Evaluator 86 y_Evaluator_goesOn, .instanceMethod y_Evaluator_goesOn, .selects R_Evaluator y_Evaluator_goesOn y_Evaluator_goesOn, .code y_Evaluator_goesOn b_Evaluator_goesOn 2 (some .boolean), .fieldLink R_Evaluator 48 "CekMachine$Evaluator" "node" "I", .methodLink R_Evaluator 90 y_Evaluator_evaluateNode, .instanceMethod y_Evaluator_evaluateNode, .selects R_Evaluator y_Evaluator_evaluateNode y_Evaluator_evaluateNode, .code y_Evaluator_evaluateNode b_Evaluator_evaluateNode 2 none, .methodLink R_Evaluator 93 y_Builtins_isReady, .instanceMethod y_Builtins_isReady, .selects R_Builtins y_Builtins_isReady y_Builtins_isReady, .code y_Builtins_isReady b_Builtins_isReady 1 (some .boolean), .methodLink R_Evaluator 96 y_Builtins_perform, .instanceMethod y_Builtins_perform, .selects R_Builtins y_Builtins_perform y_Builtins_perform, .code y_Builtins_perform b_Builtins_perform 3 (some .int), .methodLink R_Evaluator 99 y_Evaluator_goOn, .instanceMethod y_Evaluator_goOn, .selects R_Evaluator y_Evaluator_goOn y_Evaluator_goOn, .code y_Evaluator_goOn b_Evaluator_goOn 3 none, .methodLink R_Evaluator 102 y_Meter_fault, .instanceMethod y_Meter_fault, .selects R_Meter y_Meter_fault y_Meter_fault, .code y_Meter_fault b_Meter_fault 1 (some .int)]
def wo_Evaluator_goesOn : List Cond := [.fieldLink R_Evaluator 48 "CekMachine$Evaluator" "node" "I", .fieldLink R_Evaluator 44 "CekMachine$Evaluator" "builtins" "LCekMachine$Builtins;", .methodLink R_Evaluator 93 y_Builtins_isReady, .instanceMethod y_Builtins_isReady, .selects R_Builtins y_Builtins_isReady y_Builtins_isReady, .initialized R_Builtins, .code y_Builtins_isReady b_Builtins_isReady 1 (some .boolean), .fieldLink R_Evaluator 28 "CekMachine$Evaluator" "waiting" "LCekMachine$Waiting;", .methodLink R_Evaluator 105 y_Waiting_isEmpty, .instanceMethod y_Waiting_isEmpty, .selects R_Waiting y_Waiting_isEmpty y_Waiting_isEmpty, .initialized R_Waiting, .code y_Waiting_isEmpty b_Waiting_isEmpty 1 (some .boolean), .fieldLink R_Evaluator 21 "CekMachine$Evaluator" "meter" "LCekMachine$Meter;", .methodLink R_Evaluator 102 y_Meter_fault, .instanceMethod y_Meter_fault, .selects R_Meter y_Meter_fault y_Meter_fault, .initialized R_Meter, .code y_Meter_fault b_Meter_fault 1 (some .int)]
def wo_Evaluator_evaluateIn : List Cond := [.fieldLink R_Evaluator 48 "CekMachine$Evaluator" "node" "I", .fieldLink R_Evaluator 52 "CekMachine$Evaluator" "scope" "I"]
def wo_Evaluator_evaluateNode : List Cond := [.fieldLink R_Evaluator 48 "CekMachine$Evaluator" "node" "I", .fieldLink R_Evaluator 21 "CekMachine$Evaluator" "meter" "LCekMachine$Meter;", .methodLink R_Evaluator 108 y_Meter_paySteps, .instanceMethod y_Meter_paySteps, .selects R_Meter y_Meter_paySteps y_Meter_paySteps, .initialized R_Meter, .code y_Meter_paySteps b_Meter_paySteps 2 (some .boolean), .fieldLink R_Evaluator 58 "CekMachine$Evaluator" "terms" "LCekMachine$Terms;", .methodLink R_Evaluator 112 y_Terms_kindOf, .instanceMethod y_Terms_kindOf, .selects R_Terms y_Terms_kindOf y_Terms_kindOf, .initialized R_Terms, .code y_Terms_kindOf b_Terms_kindOf 2 (some .int), .fieldLink R_Evaluator 35 "CekMachine$Evaluator" "scopes" "LCekMachine$Scopes;", .fieldLink R_Evaluator 52 "CekMachine$Evaluator" "scope" "I", .methodLink R_Evaluator 116 y_Terms_argOf, .instanceMethod y_Terms_argOf, .selects R_Terms y_Terms_argOf y_Terms_argOf, .code y_Terms_argOf b_Terms_argOf 2 (some .long), .methodLink R_Evaluator 120 y_Scopes_find, .instanceMethod y_Scopes_find, .selects R_Scopes y_Scopes_find y_Scopes_find, .initialized R_Scopes, .code y_Scopes_find b_Scopes_find 7 (some .int), .fieldLink R_Evaluator 55 "CekMachine$Evaluator" "value" "I", .methodLink R_Evaluator 124 y_Evaluator_hold, .instanceMethod y_Evaluator_hold, .selects R_Evaluator y_Evaluator_hold y_Evaluator_hold, .initialized R_Evaluator, .code y_Evaluator_hold b_Evaluator_hold 3 none, .methodLink R_Evaluator 127 y_Terms_functionOf, .instanceMethod y_Terms_functionOf, .selects R_Terms y_Terms_functionOf y_Terms_functionOf, .code y_Terms_functionOf b_Terms_functionOf 2 (some .int), .methodLink R_Evaluator 130 y_Evaluator_await, .instanceMethod y_Evaluator_await, .selects R_Evaluator y_Evaluator_await y_Evaluator_await, .code y_Evaluator_await b_Evaluator_await 3 none, .methodLink R_Evaluator 133 y_Terms_lastPartOf, .instanceMethod y_Terms_lastPartOf, .selects R_Terms y_Terms_lastPartOf y_Terms_lastPartOf, .code y_Terms_lastPartOf b_Terms_lastPartOf 2 (some .int), .methodLink R_Evaluator 136 y_Meter_fail, .instanceMethod y_Meter_fail, .selects R_Meter y_Meter_fail y_Meter_fail, .code y_Meter_fail b_Meter_fail 2 none, .methodLink R_Evaluator 140 y_Meter_payMemory, .instanceMethod y_Meter_payMemory, .selects R_Meter y_Meter_payMemory y_Meter_payMemory, .code y_Meter_payMemory b_Meter_payMemory 2 (some .boolean), .fieldLink R_Evaluator 12 "CekMachine$Evaluator" "values" "LCekMachine$Values;", .methodLink R_Evaluator 143 y_Values_ofBuiltin, .instanceMethod y_Values_ofBuiltin, .selects R_Values y_Values_ofBuiltin y_Values_ofBuiltin, .initialized R_Values, .code y_Values_ofBuiltin b_Values_ofBuiltin 5 (some .int)]
def wo_Evaluator_hold : List Cond := [.fieldLink R_Evaluator 21 "CekMachine$Evaluator" "meter" "LCekMachine$Meter;", .methodLink R_Evaluator 140 y_Meter_payMemory, .instanceMethod y_Meter_payMemory, .selects R_Meter y_Meter_payMemory y_Meter_payMemory, .initialized R_Meter, .code y_Meter_payMemory b_Meter_payMemory 2 (some .boolean), .fieldLink R_Evaluator 12 "CekMachine$Evaluator" "values" "LCekMachine$Values;", .fieldLink R_Evaluator 58 "CekMachine$Evaluator" "terms" "LCekMachine$Terms;", .methodLink R_Evaluator 133 y_Terms_lastPartOf, .instanceMethod y_Terms_lastPartOf, .selects R_Terms y_Terms_lastPartOf y_Terms_lastPartOf, .initialized R_Terms, .code y_Terms_lastPartOf b_Terms_lastPartOf 2 (some .int), .fieldLink R_Evaluator 52 "CekMachine$Evaluator" "scope" "I", .methodLink R_Evaluator 147 y_Values_ofBody, .instanceMethod y_Values_ofBody, .selects R_Values y_Values_ofBody y_Values_ofBody, .initialized R_Values, .code y_Values_ofBody b_Values_ofBody 4 (some .int), .fieldLink R_Evaluator 55 "CekMachine$Evaluator" "value" "I"]
def wo_Evaluator_await : List Cond := [.fieldLink R_Evaluator 28 "CekMachine$Evaluator" "waiting" "LCekMachine$Waiting;", .fieldLink R_Evaluator 52 "CekMachine$Evaluator" "scope" "I", .methodLink R_Evaluator 151 y_Waiting_push, .instanceMethod y_Waiting_push, .selects R_Waiting y_Waiting_push y_Waiting_push, .initialized R_Waiting, .code y_Waiting_push b_Waiting_push 3 (some .boolean), .fieldLink R_Evaluator 48 "CekMachine$Evaluator" "node" "I", .fieldLink R_Evaluator 21 "CekMachine$Evaluator" "meter" "LCekMachine$Meter;", .methodLink R_Evaluator 136 y_Meter_fail, .instanceMethod y_Meter_fail, .selects R_Meter y_Meter_fail y_Meter_fail, .initialized R_Meter, .code y_Meter_fail b_Meter_fail 2 none]
def wo_Evaluator_goOn : List Cond := [.fieldLink R_Evaluator 28 "CekMachine$Evaluator" "waiting" "LCekMachine$Waiting;", .methodLink R_Evaluator 155 y_Waiting_lastNode, .instanceMethod y_Waiting_lastNode, .selects R_Waiting y_Waiting_lastNode y_Waiting_lastNode, .initialized R_Waiting, .code y_Waiting_lastNode b_Waiting_lastNode 1 (some .int), .methodLink R_Evaluator 158 y_Waiting_lastFunction, .instanceMethod y_Waiting_lastFunction, .selects R_Waiting y_Waiting_lastFunction y_Waiting_lastFunction, .code y_Waiting_lastFunction b_Waiting_lastFunction 1 (some .int), .fieldLink R_Evaluator 58 "CekMachine$Evaluator" "terms" "LCekMachine$Terms;", .methodLink R_Evaluator 112 y_Terms_kindOf, .instanceMethod y_Terms_kindOf, .selects R_Terms y_Terms_kindOf y_Terms_kindOf, .initialized R_Terms, .code y_Terms_kindOf b_Terms_kindOf 2 (some .int), .methodLink R_Evaluator 161 y_Waiting_pop, .instanceMethod y_Waiting_pop, .selects R_Waiting y_Waiting_pop y_Waiting_pop, .code y_Waiting_pop b_Waiting_pop 1 none, .methodLink R_Evaluator 164 y_Evaluator_force, .instanceMethod y_Evaluator_force, .selects R_Evaluator y_Evaluator_force y_Evaluator_force, .initialized R_Evaluator, .code y_Evaluator_force b_Evaluator_force 1 none, .fieldLink R_Evaluator 55 "CekMachine$Evaluator" "value" "I", .methodLink R_Evaluator 167 y_Waiting_setLastFunction, .instanceMethod y_Waiting_setLastFunction, .selects R_Waiting y_Waiting_setLastFunction y_Waiting_setLastFunction, .code y_Waiting_setLastFunction b_Waiting_setLastFunction 2 none, .methodLink R_Evaluator 133 y_Terms_lastPartOf, .instanceMethod y_Terms_lastPartOf, .selects R_Terms y_Terms_lastPartOf y_Terms_lastPartOf, .code y_Terms_lastPartOf b_Terms_lastPartOf 2 (some .int), .methodLink R_Evaluator 170 y_Waiting_lastScope, .instanceMethod y_Waiting_lastScope, .selects R_Waiting y_Waiting_lastScope y_Waiting_lastScope, .code y_Waiting_lastScope b_Waiting_lastScope 1 (some .int), .methodLink R_Evaluator 82 y_Evaluator_evaluateIn, .instanceMethod y_Evaluator_evaluateIn, .selects R_Evaluator y_Evaluator_evaluateIn y_Evaluator_evaluateIn, .code y_Evaluator_evaluateIn b_Evaluator_evaluateIn 3 none, .methodLink R_Evaluator 173 y_Evaluator_call, .instanceMethod y_Evaluator_call, .selects R_Evaluator y_Evaluator_call y_Evaluator_call, .code y_Evaluator_call b_Evaluator_call 4 none]
def wo_Evaluator_force : List Cond := [.fieldLink R_Evaluator 12 "CekMachine$Evaluator" "values" "LCekMachine$Values;", .fieldLink R_Evaluator 55 "CekMachine$Evaluator" "value" "I", .methodLink R_Evaluator 176 y_Values_kindOf, .instanceMethod y_Values_kindOf, .selects R_Values y_Values_kindOf y_Values_kindOf, .initialized R_Values, .code y_Values_kindOf b_Values_kindOf 2 (some .int), .methodLink R_Evaluator 177 y_Values_bodyOf, .instanceMethod y_Values_bodyOf, .selects R_Values y_Values_bodyOf y_Values_bodyOf, .code y_Values_bodyOf b_Values_bodyOf 2 (some .int), .methodLink R_Evaluator 180 y_Values_scopeOf, .instanceMethod y_Values_scopeOf, .selects R_Values y_Values_scopeOf y_Values_scopeOf, .code y_Values_scopeOf b_Values_scopeOf 2 (some .int), .methodLink R_Evaluator 82 y_Evaluator_evaluateIn, .instanceMethod y_Evaluator_evaluateIn, .selects R_Evaluator y_Evaluator_evaluateIn y_Evaluator_evaluateIn, .initialized R_Evaluator, .code y_Evaluator_evaluateIn b_Evaluator_evaluateIn 3 none, .fieldLink R_Evaluator 21 "CekMachine$Evaluator" "meter" "LCekMachine$Meter;", .methodLink R_Evaluator 136 y_Meter_fail, .instanceMethod y_Meter_fail, .selects R_Meter y_Meter_fail y_Meter_fail, .initialized R_Meter, .code y_Meter_fail b_Meter_fail 2 none]
def wo_Evaluator_call : List Cond := [.fieldLink R_Evaluator 12 "CekMachine$Evaluator" "values" "LCekMachine$Values;", .methodLink R_Evaluator 176 y_Values_kindOf, .instanceMethod y_Values_kindOf, .selects R_Values y_Values_kindOf y_Values_kindOf, .initialized R_Values, .code y_Values_kindOf b_Values_kindOf 2 (some .int), .fieldLink R_Evaluator 44 "CekMachine$Evaluator" "builtins" "LCekMachine$Builtins;", .fieldLink R_Evaluator 55 "CekMachine$Evaluator" "value" "I", .methodLink R_Evaluator 183 y_Builtins_take, .instanceMethod y_Builtins_take, .selects R_Builtins y_Builtins_take y_Builtins_take, .initialized R_Builtins, .code y_Builtins_take b_Builtins_take 5 (some .int), .fieldLink R_Evaluator 21 "CekMachine$Evaluator" "meter" "LCekMachine$Meter;", .methodLink R_Evaluator 136 y_Meter_fail, .instanceMethod y_Meter_fail, .selects R_Meter y_Meter_fail y_Meter_fail, .initialized R_Meter, .code y_Meter_fail b_Meter_fail 2 none, .methodLink R_Evaluator 140 y_Meter_payMemory, .instanceMethod y_Meter_payMemory, .selects R_Meter y_Meter_payMemory y_Meter_payMemory, .code y_Meter_payMemory b_Meter_payMemory 2 (some .boolean), .fieldLink R_Evaluator 35 "CekMachine$Evaluator" "scopes" "LCekMachine$Scopes;", .methodLink R_Evaluator 180 y_Values_scopeOf, .instanceMethod y_Values_scopeOf, .selects R_Values y_Values_scopeOf y_Values_scopeOf, .code y_Values_scopeOf b_Values_scopeOf 2 (some .int), .methodLink R_Evaluator 187 y_Scopes_bind, .instanceMethod y_Scopes_bind, .selects R_Scopes y_Scopes_bind y_Scopes_bind, .initialized R_Scopes, .code y_Scopes_bind b_Scopes_bind 3 (some .int), .methodLink R_Evaluator 177 y_Values_bodyOf, .instanceMethod y_Values_bodyOf, .selects R_Values y_Values_bodyOf y_Values_bodyOf, .code y_Values_bodyOf b_Values_bodyOf 2 (some .int), .methodLink R_Evaluator 82 y_Evaluator_evaluateIn, .instanceMethod y_Evaluator_evaluateIn, .selects R_Evaluator y_Evaluator_evaluateIn y_Evaluator_evaluateIn, .initialized R_Evaluator, .code y_Evaluator_evaluateIn b_Evaluator_evaluateIn 3 none]
def wo_Meter_init : List Cond := [.methodLink R_Meter 3 objectInit, .instanceMethod objectInit, .code objectInit ⟨#[0xb1]⟩ 1 none, .fieldLink R_Meter 9 "CekMachine$Meter" "steps" "I", .fieldLink R_Meter 15 "CekMachine$Meter" "memory" "I", .fieldLink R_Meter 18 "CekMachine$Meter" "mostSteps" "I", .fieldLink R_Meter 21 "CekMachine$Meter" "mostMemory" "I", .fieldLink R_Meter 24 "CekMachine$Meter" "fault" "I"]
def wo_Meter_start : List Cond := [.fieldLink R_Meter 9 "CekMachine$Meter" "steps" "I", .fieldLink R_Meter 15 "CekMachine$Meter" "memory" "I", .fieldLink R_Meter 18 "CekMachine$Meter" "mostSteps" "I", .fieldLink R_Meter 21 "CekMachine$Meter" "mostMemory" "I", .fieldLink R_Meter 24 "CekMachine$Meter" "fault" "I"]
def wo_Meter_steps : List Cond := [.fieldLink R_Meter 9 "CekMachine$Meter" "steps" "I"]
def wo_Meter_memory : List Cond := [.fieldLink R_Meter 15 "CekMachine$Meter" "memory" "I"]
def wo_Meter_fault : List Cond := [.fieldLink R_Meter 24 "CekMachine$Meter" "fault" "I"]
def wo_Meter_fail : List Cond := [.fieldLink R_Meter 24 "CekMachine$Meter" "fault" "I"]
def wo_Meter_paySteps : List Cond := [.fieldLink R_Meter 18 "CekMachine$Meter" "mostSteps" "I", .fieldLink R_Meter 9 "CekMachine$Meter" "steps" "I", .methodLink R_Meter 27 y_Meter_fail, .instanceMethod y_Meter_fail, .selects R_Meter y_Meter_fail y_Meter_fail, .initialized R_Meter, .code y_Meter_fail b_Meter_fail 2 none]
def wo_Meter_payMemory : List Cond := [.fieldLink R_Meter 21 "CekMachine$Meter" "mostMemory" "I", .fieldLink R_Meter 15 "CekMachine$Meter" "memory" "I", .methodLink R_Meter 27 y_Meter_fail, .instanceMethod y_Meter_fail, .selects R_Meter y_Meter_fail y_Meter_fail, .initialized R_Meter, .code y_Meter_fail b_Meter_fail 2 none]
def wo_Scopes_init : List Cond := [.methodLink R_Scopes 3 objectInit, .instanceMethod objectInit, .code objectInit ⟨#[0xb1]⟩ 1 none, .arrayClass .int, .fieldLink R_Scopes 9 "CekMachine$Scopes" "bound" "[I", .fieldLink R_Scopes 15 "CekMachine$Scopes" "outer" "[I", .fieldLink R_Scopes 18 "CekMachine$Scopes" "top" "I"]
def wo_Scopes_forget : List Cond := [.fieldLink R_Scopes 18 "CekMachine$Scopes" "top" "I"]
def wo_Scopes_bind : List Cond := [.fieldLink R_Scopes 18 "CekMachine$Scopes" "top" "I", .fieldLink R_Scopes 9 "CekMachine$Scopes" "bound" "[I", .fieldLink R_Scopes 15 "CekMachine$Scopes" "outer" "[I"]
def wo_Scopes_find : List Cond := [.methodLink R_Scopes 22 y_Scopes_has, .instanceMethod y_Scopes_has, .selects R_Scopes y_Scopes_has y_Scopes_has, .initialized R_Scopes, .code y_Scopes_has b_Scopes_has 2 (some .boolean), .fieldLink R_Scopes 15 "CekMachine$Scopes" "outer" "[I", .fieldLink R_Scopes 9 "CekMachine$Scopes" "bound" "[I"]
def wo_Scopes_has : List Cond := [.fieldLink R_Scopes 18 "CekMachine$Scopes" "top" "I"]
def wo_Terms_init : List Cond := [.methodLink R_Terms 3 objectInit, .instanceMethod objectInit, .code objectInit ⟨#[0xb1]⟩ 1 none, .arrayClass .int, .fieldLink R_Terms 9 "CekMachine$Terms" "kinds" "[I", .arrayClass .long, .fieldLink R_Terms 15 "CekMachine$Terms" "args" "[J", .fieldLink R_Terms 19 "CekMachine$Terms" "firsts" "[I", .fieldLink R_Terms 22 "CekMachine$Terms" "lacks" "[I", .classLink R_Terms 25 "CekMachine$ByteRow", .instantiable "CekMachine$ByteRow" 2, .initialized "CekMachine$ByteRow", .methodLink R_Terms 27 y_ByteRow_init, .instanceMethod y_ByteRow_init, .initialized R_ByteRow, .code y_ByteRow_init b_ByteRow_init 2 none, .fieldLink R_Terms 30 "CekMachine$Terms" "text" "LCekMachine$ByteRow;", .fieldLink R_Terms 34 "CekMachine$Terms" "nodes" "I", .fieldLink R_Terms 38 "CekMachine$Terms" "count" "I"]
def wo_Terms_allows : List Cond := [.constantLong R_Terms 41 (200), .constantLong R_Terms 45 (32)]
def wo_Terms_partsOf : List Cond := []
def wo_Terms_count : List Cond := [.fieldLink R_Terms 38 "CekMachine$Terms" "count" "I"]
def wo_Terms_nodeCount : List Cond := [.fieldLink R_Terms 34 "CekMachine$Terms" "nodes" "I"]
def wo_Terms_isFull : List Cond := [.fieldLink R_Terms 34 "CekMachine$Terms" "nodes" "I"]
def wo_Terms_last : List Cond := [.fieldLink R_Terms 34 "CekMachine$Terms" "nodes" "I"]
def wo_Terms_lacksOfLast : List Cond := [.methodLink R_Terms 47 y_Terms_last, .instanceMethod y_Terms_last, .selects R_Terms y_Terms_last y_Terms_last, .initialized R_Terms, .code y_Terms_last b_Terms_last 1 (some .int), .methodLink R_Terms 51 y_Terms_lacksOf, .instanceMethod y_Terms_lacksOf, .selects R_Terms y_Terms_lacksOf y_Terms_lacksOf, .code y_Terms_lacksOf b_Terms_lacksOf 2 (some .int)]
def wo_Terms_kindOf : List Cond := [.methodLink R_Terms 55 y_Terms_has, .instanceMethod y_Terms_has, .selects R_Terms y_Terms_has y_Terms_has, .initialized R_Terms, .code y_Terms_has b_Terms_has 2 (some .boolean), .fieldLink R_Terms 9 "CekMachine$Terms" "kinds" "[I"]
def wo_Terms_argOf : List Cond := [.methodLink R_Terms 55 y_Terms_has, .instanceMethod y_Terms_has, .selects R_Terms y_Terms_has y_Terms_has, .initialized R_Terms, .code y_Terms_has b_Terms_has 2 (some .boolean), .fieldLink R_Terms 15 "CekMachine$Terms" "args" "[J"]
def wo_Terms_firstOf : List Cond := [.methodLink R_Terms 55 y_Terms_has, .instanceMethod y_Terms_has, .selects R_Terms y_Terms_has y_Terms_has, .initialized R_Terms, .code y_Terms_has b_Terms_has 2 (some .boolean), .fieldLink R_Terms 19 "CekMachine$Terms" "firsts" "[I"]
def wo_Terms_lastPartOf : List Cond := []
def wo_Terms_functionOf : List Cond := [.methodLink R_Terms 59 y_Terms_lastPartOf, .instanceMethod y_Terms_lastPartOf, .selects R_Terms y_Terms_lastPartOf y_Terms_lastPartOf, .initialized R_Terms, .code y_Terms_lastPartOf b_Terms_lastPartOf 2 (some .int), .methodLink R_Terms 62 y_Terms_firstOf, .instanceMethod y_Terms_firstOf, .selects R_Terms y_Terms_firstOf y_Terms_firstOf, .code y_Terms_firstOf b_Terms_firstOf 2 (some .int)]
def wo_Terms_textAt : List Cond := [.fieldLink R_Terms 30 "CekMachine$Terms" "text" "LCekMachine$ByteRow;", .methodLink R_Terms 65 y_ByteRow_at, .instanceMethod y_ByteRow_at, .selects R_ByteRow y_ByteRow_at y_ByteRow_at, .initialized R_ByteRow, .code y_ByteRow_at b_ByteRow_at 2 (some .int)]
def wo_Terms_forget : List Cond := [.fieldLink R_Terms 34 "CekMachine$Terms" "nodes" "I", .fieldLink R_Terms 38 "CekMachine$Terms" "count" "I"]
def wo_Terms_push : List Cond := [.methodLink R_Terms 68 y_Terms_isFull, .instanceMethod y_Terms_isFull, .selects R_Terms y_Terms_isFull y_Terms_isFull, .initialized R_Terms, .code y_Terms_isFull b_Terms_isFull 1 (some .boolean), .fieldLink R_Terms 38 "CekMachine$Terms" "count" "I", .methodLink R_Terms 72 y_Terms_partsOf, .static y_Terms_partsOf, .initialized y_Terms_partsOf.cls, .code y_Terms_partsOf b_Terms_partsOf 1 (some .int), .fieldLink R_Terms 9 "CekMachine$Terms" "kinds" "[I", .fieldLink R_Terms 34 "CekMachine$Terms" "nodes" "I", .fieldLink R_Terms 15 "CekMachine$Terms" "args" "[J", .fieldLink R_Terms 19 "CekMachine$Terms" "firsts" "[I", .methodLink R_Terms 75 y_Terms_firstOfNew, .instanceMethod y_Terms_firstOfNew, .selects R_Terms y_Terms_firstOfNew y_Terms_firstOfNew, .code y_Terms_firstOfNew b_Terms_firstOfNew 2 (some .int), .fieldLink R_Terms 22 "CekMachine$Terms" "lacks" "[I", .methodLink R_Terms 78 y_Terms_lacksOfNew, .instanceMethod y_Terms_lacksOfNew, .selects R_Terms y_Terms_lacksOfNew y_Terms_lacksOfNew, .code y_Terms_lacksOfNew b_Terms_lacksOfNew 5 (some .int)]
def wo_Terms_pop : List Cond := [.fieldLink R_Terms 38 "CekMachine$Terms" "count" "I", .methodLink R_Terms 47 y_Terms_last, .instanceMethod y_Terms_last, .selects R_Terms y_Terms_last y_Terms_last, .initialized R_Terms, .code y_Terms_last b_Terms_last 1 (some .int), .methodLink R_Terms 62 y_Terms_firstOf, .instanceMethod y_Terms_firstOf, .selects R_Terms y_Terms_firstOf y_Terms_firstOf, .code y_Terms_firstOf b_Terms_firstOf 2 (some .int), .fieldLink R_Terms 34 "CekMachine$Terms" "nodes" "I"]
def wo_Terms_canLengthen : List Cond := [.methodLink R_Terms 47 y_Terms_last, .instanceMethod y_Terms_last, .selects R_Terms y_Terms_last y_Terms_last, .initialized R_Terms, .code y_Terms_last b_Terms_last 1 (some .int), .methodLink R_Terms 82 y_Terms_kindOf, .instanceMethod y_Terms_kindOf, .selects R_Terms y_Terms_kindOf y_Terms_kindOf, .code y_Terms_kindOf b_Terms_kindOf 2 (some .int), .methodLink R_Terms 85 y_Terms_argOf, .instanceMethod y_Terms_argOf, .selects R_Terms y_Terms_argOf y_Terms_argOf, .code y_Terms_argOf b_Terms_argOf 2 (some .long), .constantLong R_Terms 89 (64)]
def wo_Terms_lengthen : List Cond := [.methodLink R_Terms 91 y_Terms_canLengthen, .instanceMethod y_Terms_canLengthen, .selects R_Terms y_Terms_canLengthen y_Terms_canLengthen, .initialized R_Terms, .code y_Terms_canLengthen b_Terms_canLengthen 2 (some .boolean), .methodLink R_Terms 47 y_Terms_last, .instanceMethod y_Terms_last, .selects R_Terms y_Terms_last y_Terms_last, .code y_Terms_last b_Terms_last 1 (some .int), .methodLink R_Terms 85 y_Terms_argOf, .instanceMethod y_Terms_argOf, .selects R_Terms y_Terms_argOf y_Terms_argOf, .code y_Terms_argOf b_Terms_argOf 2 (some .long), .fieldLink R_Terms 30 "CekMachine$Terms" "text" "LCekMachine$ByteRow;", .methodLink R_Terms 94 y_ByteRow_put, .instanceMethod y_ByteRow_put, .selects R_ByteRow y_ByteRow_put y_ByteRow_put, .initialized R_ByteRow, .code y_ByteRow_put b_ByteRow_put 3 none, .fieldLink R_Terms 15 "CekMachine$Terms" "args" "[J"]
def wo_Terms_has : List Cond := [.fieldLink R_Terms 34 "CekMachine$Terms" "nodes" "I"]
def wo_Terms_lacksOf : List Cond := [.methodLink R_Terms 55 y_Terms_has, .instanceMethod y_Terms_has, .selects R_Terms y_Terms_has y_Terms_has, .initialized R_Terms, .code y_Terms_has b_Terms_has 2 (some .boolean), .fieldLink R_Terms 22 "CekMachine$Terms" "lacks" "[I"]
def wo_Terms_firstOfNew : List Cond := [.fieldLink R_Terms 34 "CekMachine$Terms" "nodes" "I", .methodLink R_Terms 98 y_Terms_functionOf, .instanceMethod y_Terms_functionOf, .selects R_Terms y_Terms_functionOf y_Terms_functionOf, .initialized R_Terms, .code y_Terms_functionOf b_Terms_functionOf 2 (some .int), .methodLink R_Terms 62 y_Terms_firstOf, .instanceMethod y_Terms_firstOf, .selects R_Terms y_Terms_firstOf y_Terms_firstOf, .code y_Terms_firstOf b_Terms_firstOf 2 (some .int), .methodLink R_Terms 72 y_Terms_partsOf, .static y_Terms_partsOf, .initialized y_Terms_partsOf.cls, .code y_Terms_partsOf b_Terms_partsOf 1 (some .int), .methodLink R_Terms 59 y_Terms_lastPartOf, .instanceMethod y_Terms_lastPartOf, .selects R_Terms y_Terms_lastPartOf y_Terms_lastPartOf, .code y_Terms_lastPartOf b_Terms_lastPartOf 2 (some .int)]
def wo_Terms_lacksOfNew : List Cond := [.fieldLink R_Terms 34 "CekMachine$Terms" "nodes" "I", .methodLink R_Terms 59 y_Terms_lastPartOf, .instanceMethod y_Terms_lastPartOf, .selects R_Terms y_Terms_lastPartOf y_Terms_lastPartOf, .initialized R_Terms, .code y_Terms_lastPartOf b_Terms_lastPartOf 2 (some .int), .methodLink R_Terms 51 y_Terms_lacksOf, .instanceMethod y_Terms_lacksOf, .selects R_Terms y_Terms_lacksOf y_Terms_lacksOf, .code y_Terms_lacksOf b_Terms_lacksOf 2 (some .int), .methodLink R_Terms 101 Lib.Math.max.name, .static Lib.Math.max.name, .initialized "java/lang/Math", .code Lib.Math.max.name Lib.Math.max.code 2 (some .int), .methodLink R_Terms 98 y_Terms_functionOf, .instanceMethod y_Terms_functionOf, .selects R_Terms y_Terms_functionOf y_Terms_functionOf, .code y_Terms_functionOf b_Terms_functionOf 2 (some .int)]
def wo_Values_init : List Cond := [.methodLink R_Values 3 objectInit, .instanceMethod objectInit, .code objectInit ⟨#[0xb1]⟩ 1 none, .classLink R_Values 9 "CekMachine$ByteRow", .instantiable "CekMachine$ByteRow" 2, .initialized "CekMachine$ByteRow", .constant R_Values 11 (36864), .methodLink R_Values 12 y_ByteRow_init, .instanceMethod y_ByteRow_init, .initialized R_ByteRow, .code y_ByteRow_init b_ByteRow_init 2 none, .fieldLink R_Values 15 "CekMachine$Values" "bytes" "LCekMachine$ByteRow;", .classLink R_Values 21 "CekMachine$DataRow", .instantiable "CekMachine$DataRow" 7, .initialized "CekMachine$DataRow", .methodLink R_Values 23 y_DataRow_init, .instanceMethod y_DataRow_init, .initialized R_DataRow, .code y_DataRow_init b_DataRow_init 1 none, .fieldLink R_Values 24 "CekMachine$Values" "data" "LCekMachine$DataRow;", .arrayClass .int, .fieldLink R_Values 28 "CekMachine$Values" "kinds" "[I", .arrayClass .long, .fieldLink R_Values 32 "CekMachine$Values" "numbers" "[J", .fieldLink R_Values 36 "CekMachine$Values" "parts" "[I", .fieldLink R_Values 39 "CekMachine$Values" "links" "[I", .fieldLink R_Values 42 "CekMachine$Values" "top" "I"]
def wo_Values_forget : List Cond := [.fieldLink R_Values 42 "CekMachine$Values" "top" "I", .fieldLink R_Values 15 "CekMachine$Values" "bytes" "LCekMachine$ByteRow;", .methodLink R_Values 46 y_ByteRow_cut, .instanceMethod y_ByteRow_cut, .selects R_ByteRow y_ByteRow_cut y_ByteRow_cut, .initialized R_ByteRow, .code y_ByteRow_cut b_ByteRow_cut 2 none, .fieldLink R_Values 24 "CekMachine$Values" "data" "LCekMachine$DataRow;", .methodLink R_Values 49 y_DataRow_forget, .instanceMethod y_DataRow_forget, .selects R_DataRow y_DataRow_forget y_DataRow_forget, .initialized R_DataRow, .code y_DataRow_forget b_DataRow_forget 1 none]
def wo_Values_takeConstants : List Cond := [.methodLink R_Values 52 y_Terms_last, .instanceMethod y_Terms_last, .selects R_Terms y_Terms_last y_Terms_last, .initialized R_Terms, .code y_Terms_last b_Terms_last 1 (some .int), .methodLink R_Values 58 y_Terms_firstOf, .instanceMethod y_Terms_firstOf, .selects R_Terms y_Terms_firstOf y_Terms_firstOf, .code y_Terms_firstOf b_Terms_firstOf 2 (some .int), .methodLink R_Values 62 y_Values_takeConstant, .instanceMethod y_Values_takeConstant, .selects R_Values y_Values_takeConstant y_Values_takeConstant, .initialized R_Values, .code y_Values_takeConstant b_Values_takeConstant 3 none]
def wo_Values_ofInteger : List Cond := [.methodLink R_Values 66 y_Values_make, .instanceMethod y_Values_make, .selects R_Values y_Values_make y_Values_make, .initialized R_Values, .code y_Values_make b_Values_make 7 (some .int)]
def wo_Values_ofTruth : List Cond := [.methodLink R_Values 66 y_Values_make, .instanceMethod y_Values_make, .selects R_Values y_Values_make y_Values_make, .initialized R_Values, .code y_Values_make b_Values_make 7 (some .int)]
def wo_Values_ofBytes : List Cond := [.methodLink R_Values 66 y_Values_make, .instanceMethod y_Values_make, .selects R_Values y_Values_make y_Values_make, .initialized R_Values, .code y_Values_make b_Values_make 7 (some .int)]
def wo_Values_ofData : List Cond := [.methodLink R_Values 66 y_Values_make, .instanceMethod y_Values_make, .selects R_Values y_Values_make y_Values_make, .initialized R_Values, .code y_Values_make b_Values_make 7 (some .int)]
def wo_Values_ofBody : List Cond := [.methodLink R_Values 66 y_Values_make, .instanceMethod y_Values_make, .selects R_Values y_Values_make y_Values_make, .initialized R_Values, .code y_Values_make b_Values_make 7 (some .int)]
def wo_Values_ofBuiltin : List Cond := [.methodLink R_Values 66 y_Values_make, .instanceMethod y_Values_make, .selects R_Values y_Values_make y_Values_make, .initialized R_Values, .code y_Values_make b_Values_make 7 (some .int)]
def wo_Values_kindOf : List Cond := [.fieldLink R_Values 42 "CekMachine$Values" "top" "I", .fieldLink R_Values 28 "CekMachine$Values" "kinds" "[I"]
def wo_Values_numberOf : List Cond := [.fieldLink R_Values 42 "CekMachine$Values" "top" "I", .fieldLink R_Values 32 "CekMachine$Values" "numbers" "[J"]
def wo_Values_startOf : List Cond := [.methodLink R_Values 70 y_Values_partOf, .instanceMethod y_Values_partOf, .selects R_Values y_Values_partOf y_Values_partOf, .initialized R_Values, .code y_Values_partOf b_Values_partOf 2 (some .int)]
def wo_Values_lengthOf : List Cond := [.methodLink R_Values 73 y_Values_linkOf, .instanceMethod y_Values_linkOf, .selects R_Values y_Values_linkOf y_Values_linkOf, .initialized R_Values, .code y_Values_linkOf b_Values_linkOf 2 (some .int)]
def wo_Values_rootOf : List Cond := [.methodLink R_Values 70 y_Values_partOf, .instanceMethod y_Values_partOf, .selects R_Values y_Values_partOf y_Values_partOf, .initialized R_Values, .code y_Values_partOf b_Values_partOf 2 (some .int)]
def wo_Values_bodyOf : List Cond := [.methodLink R_Values 70 y_Values_partOf, .instanceMethod y_Values_partOf, .selects R_Values y_Values_partOf y_Values_partOf, .initialized R_Values, .code y_Values_partOf b_Values_partOf 2 (some .int)]
def wo_Values_scopeOf : List Cond := [.methodLink R_Values 73 y_Values_linkOf, .instanceMethod y_Values_linkOf, .selects R_Values y_Values_linkOf y_Values_linkOf, .initialized R_Values, .code y_Values_linkOf b_Values_linkOf 2 (some .int)]
def wo_Values_argumentOf : List Cond := [.methodLink R_Values 70 y_Values_partOf, .instanceMethod y_Values_partOf, .selects R_Values y_Values_partOf y_Values_partOf, .initialized R_Values, .code y_Values_partOf b_Values_partOf 2 (some .int)]
def wo_Values_beforeOf : List Cond := [.methodLink R_Values 73 y_Values_linkOf, .instanceMethod y_Values_linkOf, .selects R_Values y_Values_linkOf y_Values_linkOf, .initialized R_Values, .code y_Values_linkOf b_Values_linkOf 2 (some .int)]
def wo_Values_givenTo : List Cond := [.methodLink R_Values 73 y_Values_linkOf, .instanceMethod y_Values_linkOf, .selects R_Values y_Values_linkOf y_Values_linkOf, .initialized R_Values, .code y_Values_linkOf b_Values_linkOf 2 (some .int)]
def wo_Values_sizeOf : List Cond := [.methodLink R_Values 76 y_Values_kindOf, .instanceMethod y_Values_kindOf, .selects R_Values y_Values_kindOf y_Values_kindOf, .initialized R_Values, .code y_Values_kindOf b_Values_kindOf 2 (some .int), .methodLink R_Values 79 y_Values_lengthOf, .instanceMethod y_Values_lengthOf, .selects R_Values y_Values_lengthOf y_Values_lengthOf, .code y_Values_lengthOf b_Values_lengthOf 2 (some .int), .fieldLink R_Values 24 "CekMachine$Values" "data" "LCekMachine$DataRow;", .methodLink R_Values 82 y_Values_rootOf, .instanceMethod y_Values_rootOf, .selects R_Values y_Values_rootOf y_Values_rootOf, .code y_Values_rootOf b_Values_rootOf 2 (some .int), .methodLink R_Values 85 y_DataRow_sizeOf, .instanceMethod y_DataRow_sizeOf, .selects R_DataRow y_DataRow_sizeOf y_DataRow_sizeOf, .initialized R_DataRow, .code y_DataRow_sizeOf b_DataRow_sizeOf 2 (some .int)]
def wo_Values_asNumber : List Cond := [.methodLink R_Values 76 y_Values_kindOf, .instanceMethod y_Values_kindOf, .selects R_Values y_Values_kindOf y_Values_kindOf, .initialized R_Values, .code y_Values_kindOf b_Values_kindOf 2 (some .int), .methodLink R_Values 88 y_Values_numberOf, .instanceMethod y_Values_numberOf, .selects R_Values y_Values_numberOf y_Values_numberOf, .code y_Values_numberOf b_Values_numberOf 2 (some .long), .methodLink R_Values 79 y_Values_lengthOf, .instanceMethod y_Values_lengthOf, .selects R_Values y_Values_lengthOf y_Values_lengthOf, .code y_Values_lengthOf b_Values_lengthOf 2 (some .int), .fieldLink R_Values 24 "CekMachine$Values" "data" "LCekMachine$DataRow;", .methodLink R_Values 82 y_Values_rootOf, .instanceMethod y_Values_rootOf, .selects R_Values y_Values_rootOf y_Values_rootOf, .code y_Values_rootOf b_Values_rootOf 2 (some .int), .methodLink R_Values 92 y_DataRow_nodesOf, .instanceMethod y_DataRow_nodesOf, .selects R_DataRow y_DataRow_nodesOf y_DataRow_nodesOf, .initialized R_DataRow, .code y_DataRow_nodesOf b_DataRow_nodesOf 2 (some .int)]
def wo_Values_partOf : List Cond := [.fieldLink R_Values 42 "CekMachine$Values" "top" "I", .fieldLink R_Values 36 "CekMachine$Values" "parts" "[I"]
def wo_Values_linkOf : List Cond := [.fieldLink R_Values 42 "CekMachine$Values" "top" "I", .fieldLink R_Values 39 "CekMachine$Values" "links" "[I"]
def wo_Values_make : List Cond := [.fieldLink R_Values 42 "CekMachine$Values" "top" "I", .methodLink R_Values 95 y_Values_set, .instanceMethod y_Values_set, .selects R_Values y_Values_set y_Values_set, .initialized R_Values, .code y_Values_set b_Values_set 7 none]
def wo_Values_set : List Cond := [.fieldLink R_Values 42 "CekMachine$Values" "top" "I", .fieldLink R_Values 28 "CekMachine$Values" "kinds" "[I", .fieldLink R_Values 32 "CekMachine$Values" "numbers" "[J", .fieldLink R_Values 36 "CekMachine$Values" "parts" "[I", .fieldLink R_Values 39 "CekMachine$Values" "links" "[I"]
def wo_Values_takeConstant : List Cond := [.methodLink R_Values 99 y_Terms_kindOf, .instanceMethod y_Terms_kindOf, .selects R_Terms y_Terms_kindOf y_Terms_kindOf, .initialized R_Terms, .code y_Terms_kindOf b_Terms_kindOf 2 (some .int), .methodLink R_Values 100 y_Terms_argOf, .instanceMethod y_Terms_argOf, .selects R_Terms y_Terms_argOf y_Terms_argOf, .code y_Terms_argOf b_Terms_argOf 2 (some .long), .methodLink R_Values 95 y_Values_set, .instanceMethod y_Values_set, .selects R_Values y_Values_set y_Values_set, .initialized R_Values, .code y_Values_set b_Values_set 7 none, .methodLink R_Values 103 y_Values_takeBytes, .instanceMethod y_Values_takeBytes, .selects R_Values y_Values_takeBytes y_Values_takeBytes, .code y_Values_takeBytes b_Values_takeBytes 6 none]
def wo_Values_takeBytes : List Cond := [.methodLink R_Values 100 y_Terms_argOf, .instanceMethod y_Terms_argOf, .selects R_Terms y_Terms_argOf y_Terms_argOf, .initialized R_Terms, .code y_Terms_argOf b_Terms_argOf 2 (some .long), .fieldLink R_Values 15 "CekMachine$Values" "bytes" "LCekMachine$ByteRow;", .methodLink R_Values 106 y_Terms_textAt, .instanceMethod y_Terms_textAt, .selects R_Terms y_Terms_textAt y_Terms_textAt, .code y_Terms_textAt b_Terms_textAt 3 (some .int), .methodLink R_Values 110 y_ByteRow_put, .instanceMethod y_ByteRow_put, .selects R_ByteRow y_ByteRow_put y_ByteRow_put, .initialized R_ByteRow, .code y_ByteRow_put b_ByteRow_put 3 none, .methodLink R_Values 95 y_Values_set, .instanceMethod y_Values_set, .selects R_Values y_Values_set y_Values_set, .initialized R_Values, .code y_Values_set b_Values_set 7 none]
def wo_Waiting_init : List Cond := [.methodLink R_Waiting 3 objectInit, .instanceMethod objectInit, .code objectInit ⟨#[0xb1]⟩ 1 none, .arrayClass .int, .fieldLink R_Waiting 9 "CekMachine$Waiting" "nodes" "[I", .fieldLink R_Waiting 15 "CekMachine$Waiting" "scopes" "[I", .fieldLink R_Waiting 18 "CekMachine$Waiting" "functions" "[I", .fieldLink R_Waiting 21 "CekMachine$Waiting" "depth" "I", .fieldLink R_Waiting 25 "CekMachine$Waiting" "most" "I"]
def wo_Waiting_forget : List Cond := [.fieldLink R_Waiting 21 "CekMachine$Waiting" "depth" "I", .fieldLink R_Waiting 25 "CekMachine$Waiting" "most" "I"]
def wo_Waiting_most : List Cond := [.fieldLink R_Waiting 25 "CekMachine$Waiting" "most" "I"]
def wo_Waiting_isEmpty : List Cond := [.fieldLink R_Waiting 21 "CekMachine$Waiting" "depth" "I"]
def wo_Waiting_push : List Cond := [.fieldLink R_Waiting 21 "CekMachine$Waiting" "depth" "I", .fieldLink R_Waiting 9 "CekMachine$Waiting" "nodes" "[I", .fieldLink R_Waiting 15 "CekMachine$Waiting" "scopes" "[I", .fieldLink R_Waiting 18 "CekMachine$Waiting" "functions" "[I", .fieldLink R_Waiting 25 "CekMachine$Waiting" "most" "I", .methodLink R_Waiting 28 Lib.Math.max.name, .static Lib.Math.max.name, .initialized "java/lang/Math", .code Lib.Math.max.name Lib.Math.max.code 2 (some .int)]
def wo_Waiting_pop : List Cond := [.fieldLink R_Waiting 21 "CekMachine$Waiting" "depth" "I", .methodLink R_Waiting 28 Lib.Math.max.name, .static Lib.Math.max.name, .initialized "java/lang/Math", .code Lib.Math.max.name Lib.Math.max.code 2 (some .int)]
def wo_Waiting_lastNode : List Cond := [.fieldLink R_Waiting 21 "CekMachine$Waiting" "depth" "I", .methodLink R_Waiting 34 y_Waiting_has, .instanceMethod y_Waiting_has, .selects R_Waiting y_Waiting_has y_Waiting_has, .initialized R_Waiting, .code y_Waiting_has b_Waiting_has 2 (some .boolean), .fieldLink R_Waiting 9 "CekMachine$Waiting" "nodes" "[I"]
def wo_Waiting_lastScope : List Cond := [.fieldLink R_Waiting 21 "CekMachine$Waiting" "depth" "I", .methodLink R_Waiting 34 y_Waiting_has, .instanceMethod y_Waiting_has, .selects R_Waiting y_Waiting_has y_Waiting_has, .initialized R_Waiting, .code y_Waiting_has b_Waiting_has 2 (some .boolean), .fieldLink R_Waiting 15 "CekMachine$Waiting" "scopes" "[I"]
def wo_Waiting_lastFunction : List Cond := [.fieldLink R_Waiting 21 "CekMachine$Waiting" "depth" "I", .methodLink R_Waiting 34 y_Waiting_has, .instanceMethod y_Waiting_has, .selects R_Waiting y_Waiting_has y_Waiting_has, .initialized R_Waiting, .code y_Waiting_has b_Waiting_has 2 (some .boolean), .fieldLink R_Waiting 18 "CekMachine$Waiting" "functions" "[I"]
def wo_Waiting_setLastFunction : List Cond := [.fieldLink R_Waiting 21 "CekMachine$Waiting" "depth" "I", .methodLink R_Waiting 34 y_Waiting_has, .instanceMethod y_Waiting_has, .selects R_Waiting y_Waiting_has y_Waiting_has, .initialized R_Waiting, .code y_Waiting_has b_Waiting_has 2 (some .boolean), .fieldLink R_Waiting 18 "CekMachine$Waiting" "functions" "[I"]
def wo_Waiting_has : List Cond := []
def wo_Cek_init : List Cond := [.methodLink R_Cek 3 objectInit, .instanceMethod objectInit, .code objectInit ⟨#[0xb1]⟩ 1 none, .classLink R_Cek 9 "CekMachine$Terms", .instantiable "CekMachine$Terms" 7, .initialized "CekMachine$Terms", .instanceMethod y_Terms_init, .initialized R_Terms, .code y_Terms_init b_Terms_init 1 none, .fieldLink R_Cek 12 "CekMachine" "terms" "LCekMachine$Terms;", .classLink R_Cek 16 "CekMachine$Evaluator", .instantiable "CekMachine$Evaluator" 9, .initialized "CekMachine$Evaluator", .methodLink R_Cek 18 y_Evaluator_init, .instanceMethod y_Evaluator_init, .initialized R_Evaluator, .code y_Evaluator_init b_Evaluator_init 2 none, .fieldLink R_Cek 21 "CekMachine" "evaluator" "LCekMachine$Evaluator;", .fieldLink R_Cek 25 "CekMachine" "answer" "I"]
def wo_Cek_clear : List Cond := [.fieldLink R_Cek 12 "CekMachine" "terms" "LCekMachine$Terms;", .methodLink R_Cek 29 y_Terms_forget, .instanceMethod y_Terms_forget, .selects R_Terms y_Terms_forget y_Terms_forget, .initialized R_Terms, .code y_Terms_forget b_Terms_forget 1 none]
def wo_Cek_node : List Cond := [.methodLink R_Cek 32 y_Terms_allows, .static y_Terms_allows, .initialized y_Terms_allows.cls, .code y_Terms_allows b_Terms_allows 3 (some .boolean), .fieldLink R_Cek 12 "CekMachine" "terms" "LCekMachine$Terms;", .methodLink R_Cek 43 y_Terms_count, .instanceMethod y_Terms_count, .selects R_Terms y_Terms_count y_Terms_count, .initialized R_Terms, .code y_Terms_count b_Terms_count 1 (some .int), .methodLink R_Cek 47 y_Terms_partsOf, .static y_Terms_partsOf, .initialized y_Terms_partsOf.cls, .code y_Terms_partsOf b_Terms_partsOf 1 (some .int), .methodLink R_Cek 51 y_Terms_isFull, .instanceMethod y_Terms_isFull, .selects R_Terms y_Terms_isFull y_Terms_isFull, .code y_Terms_isFull b_Terms_isFull 1 (some .boolean), .methodLink R_Cek 60 y_Terms_push, .instanceMethod y_Terms_push, .selects R_Terms y_Terms_push y_Terms_push, .code y_Terms_push b_Terms_push 4 none]
def wo_Cek_bytes : List Cond := [.fieldLink R_Cek 12 "CekMachine" "terms" "LCekMachine$Terms;", .methodLink R_Cek 51 y_Terms_isFull, .instanceMethod y_Terms_isFull, .selects R_Terms y_Terms_isFull y_Terms_isFull, .initialized R_Terms, .code y_Terms_isFull b_Terms_isFull 1 (some .boolean), .methodLink R_Cek 60 y_Terms_push, .instanceMethod y_Terms_push, .selects R_Terms y_Terms_push y_Terms_push, .code y_Terms_push b_Terms_push 4 none, .methodLink R_Cek 68 y_Terms_lengthen, .instanceMethod y_Terms_lengthen, .selects R_Terms y_Terms_lengthen y_Terms_lengthen, .code y_Terms_lengthen b_Terms_lengthen 6 none, .methodLink R_Cek 43 y_Terms_count, .instanceMethod y_Terms_count, .selects R_Terms y_Terms_count y_Terms_count, .code y_Terms_count b_Terms_count 1 (some .int)]
def wo_Cek_more : List Cond := [.fieldLink R_Cek 12 "CekMachine" "terms" "LCekMachine$Terms;", .methodLink R_Cek 72 y_Terms_canLengthen, .instanceMethod y_Terms_canLengthen, .selects R_Terms y_Terms_canLengthen y_Terms_canLengthen, .initialized R_Terms, .code y_Terms_canLengthen b_Terms_canLengthen 2 (some .boolean), .methodLink R_Cek 68 y_Terms_lengthen, .instanceMethod y_Terms_lengthen, .selects R_Terms y_Terms_lengthen y_Terms_lengthen, .code y_Terms_lengthen b_Terms_lengthen 6 none]
def wo_Cek_drop : List Cond := [.fieldLink R_Cek 12 "CekMachine" "terms" "LCekMachine$Terms;", .methodLink R_Cek 76 y_Terms_pop, .instanceMethod y_Terms_pop, .selects R_Terms y_Terms_pop y_Terms_pop, .initialized R_Terms, .code y_Terms_pop b_Terms_pop 1 (some .boolean)]
def wo_Cek_run : List Cond := [.fieldLink R_Cek 12 "CekMachine" "terms" "LCekMachine$Terms;", .methodLink R_Cek 43 y_Terms_count, .instanceMethod y_Terms_count, .selects R_Terms y_Terms_count y_Terms_count, .initialized R_Terms, .code y_Terms_count b_Terms_count 1 (some .int), .methodLink R_Cek 79 y_Terms_lacksOfLast, .instanceMethod y_Terms_lacksOfLast, .selects R_Terms y_Terms_lacksOfLast y_Terms_lacksOfLast, .code y_Terms_lacksOfLast b_Terms_lacksOfLast 1 (some .int), .fieldLink R_Cek 21 "CekMachine" "evaluator" "LCekMachine$Evaluator;", .methodLink R_Cek 86 y_Evaluator_evaluateLast, .instanceMethod y_Evaluator_evaluateLast, .selects R_Evaluator y_Evaluator_evaluateLast y_Evaluator_evaluateLast, .initialized R_Evaluator, .code y_Evaluator_evaluateLast b_Evaluator_evaluateLast 4 (some .int), .fieldLink R_Cek 25 "CekMachine" "answer" "I"]
def wo_Cek_kind : List Cond := [.fieldLink R_Cek 21 "CekMachine" "evaluator" "LCekMachine$Evaluator;", .fieldLink R_Cek 90 "CekMachine$Evaluator" "values" "LCekMachine$Values;", .methodLink R_Cek 94 y_Cek_result, .instanceMethod y_Cek_result, .selects R_Cek y_Cek_result y_Cek_result, .initialized R_Cek, .code y_Cek_result b_Cek_result 1 (some .int), .methodLink R_Cek 97 y_Values_kindOf, .instanceMethod y_Values_kindOf, .selects R_Values y_Values_kindOf y_Values_kindOf, .initialized R_Values, .code y_Values_kindOf b_Values_kindOf 2 (some .int)]
def wo_Cek_number : List Cond := [.methodLink R_Cek 94 y_Cek_result, .instanceMethod y_Cek_result, .selects R_Cek y_Cek_result y_Cek_result, .initialized R_Cek, .code y_Cek_result b_Cek_result 1 (some .int), .fieldLink R_Cek 21 "CekMachine" "evaluator" "LCekMachine$Evaluator;", .fieldLink R_Cek 90 "CekMachine$Evaluator" "values" "LCekMachine$Values;", .methodLink R_Cek 104 y_Values_asNumber, .instanceMethod y_Values_asNumber, .selects R_Values y_Values_asNumber y_Values_asNumber, .initialized R_Values, .code y_Values_asNumber b_Values_asNumber 2 (some .long)]
def wo_Cek_byteAt : List Cond := [.fieldLink R_Cek 21 "CekMachine" "evaluator" "LCekMachine$Evaluator;", .fieldLink R_Cek 90 "CekMachine$Evaluator" "values" "LCekMachine$Values;", .methodLink R_Cek 94 y_Cek_result, .instanceMethod y_Cek_result, .selects R_Cek y_Cek_result y_Cek_result, .initialized R_Cek, .code y_Cek_result b_Cek_result 1 (some .int), .methodLink R_Cek 97 y_Values_kindOf, .instanceMethod y_Values_kindOf, .selects R_Values y_Values_kindOf y_Values_kindOf, .initialized R_Values, .code y_Values_kindOf b_Values_kindOf 2 (some .int), .methodLink R_Cek 108 y_Values_lengthOf, .instanceMethod y_Values_lengthOf, .selects R_Values y_Values_lengthOf y_Values_lengthOf, .code y_Values_lengthOf b_Values_lengthOf 2 (some .int), .fieldLink R_Cek 111 "CekMachine$Values" "bytes" "LCekMachine$ByteRow;", .methodLink R_Cek 115 y_Values_startOf, .instanceMethod y_Values_startOf, .selects R_Values y_Values_startOf y_Values_startOf, .code y_Values_startOf b_Values_startOf 2 (some .int), .methodLink R_Cek 118 y_ByteRow_at, .instanceMethod y_ByteRow_at, .selects R_ByteRow y_ByteRow_at y_ByteRow_at, .initialized R_ByteRow, .code y_ByteRow_at b_ByteRow_at 2 (some .int)]
def wo_Cek_data : List Cond := [.fieldLink R_Cek 21 "CekMachine" "evaluator" "LCekMachine$Evaluator;", .fieldLink R_Cek 90 "CekMachine$Evaluator" "values" "LCekMachine$Values;", .fieldLink R_Cek 123 "CekMachine$Values" "data" "LCekMachine$DataRow;", .methodLink R_Cek 127 y_Cek_placeOfData, .instanceMethod y_Cek_placeOfData, .selects R_Cek y_Cek_placeOfData y_Cek_placeOfData, .initialized R_Cek, .code y_Cek_placeOfData b_Cek_placeOfData 5 (some .int), .methodLink R_Cek 130 y_DataRow_formOf, .instanceMethod y_DataRow_formOf, .selects R_DataRow y_DataRow_formOf y_DataRow_formOf, .initialized R_DataRow, .code y_DataRow_formOf b_DataRow_formOf 2 (some .int), .methodLink R_Cek 135 y_DataRow_countOf, .instanceMethod y_DataRow_countOf, .selects R_DataRow y_DataRow_countOf y_DataRow_countOf, .code y_DataRow_countOf b_DataRow_countOf 2 (some .int), .methodLink R_Cek 138 y_DataRow_numberOf, .instanceMethod y_DataRow_numberOf, .selects R_DataRow y_DataRow_numberOf y_DataRow_numberOf, .code y_DataRow_numberOf b_DataRow_numberOf 2 (some .long), .methodLink R_Cek 141 y_DataRow_depthOf, .instanceMethod y_DataRow_depthOf, .selects R_DataRow y_DataRow_depthOf y_DataRow_depthOf, .code y_DataRow_depthOf b_DataRow_depthOf 2 (some .int)]
def wo_Cek_dataValue : List Cond := [.fieldLink R_Cek 21 "CekMachine" "evaluator" "LCekMachine$Evaluator;", .fieldLink R_Cek 90 "CekMachine$Evaluator" "values" "LCekMachine$Values;", .fieldLink R_Cek 123 "CekMachine$Values" "data" "LCekMachine$DataRow;", .methodLink R_Cek 127 y_Cek_placeOfData, .instanceMethod y_Cek_placeOfData, .selects R_Cek y_Cek_placeOfData y_Cek_placeOfData, .initialized R_Cek, .code y_Cek_placeOfData b_Cek_placeOfData 5 (some .int), .methodLink R_Cek 130 y_DataRow_formOf, .instanceMethod y_DataRow_formOf, .selects R_DataRow y_DataRow_formOf y_DataRow_formOf, .initialized R_DataRow, .code y_DataRow_formOf b_DataRow_formOf 2 (some .int), .methodLink R_Cek 138 y_DataRow_numberOf, .instanceMethod y_DataRow_numberOf, .selects R_DataRow y_DataRow_numberOf y_DataRow_numberOf, .code y_DataRow_numberOf b_DataRow_numberOf 2 (some .long)]
def wo_Cek_dataByte : List Cond := [.fieldLink R_Cek 21 "CekMachine" "evaluator" "LCekMachine$Evaluator;", .fieldLink R_Cek 90 "CekMachine$Evaluator" "values" "LCekMachine$Values;", .fieldLink R_Cek 123 "CekMachine$Values" "data" "LCekMachine$DataRow;", .methodLink R_Cek 127 y_Cek_placeOfData, .instanceMethod y_Cek_placeOfData, .selects R_Cek y_Cek_placeOfData y_Cek_placeOfData, .initialized R_Cek, .code y_Cek_placeOfData b_Cek_placeOfData 5 (some .int), .methodLink R_Cek 130 y_DataRow_formOf, .instanceMethod y_DataRow_formOf, .selects R_DataRow y_DataRow_formOf y_DataRow_formOf, .initialized R_DataRow, .code y_DataRow_formOf b_DataRow_formOf 2 (some .int), .methodLink R_Cek 135 y_DataRow_countOf, .instanceMethod y_DataRow_countOf, .selects R_DataRow y_DataRow_countOf y_DataRow_countOf, .code y_DataRow_countOf b_DataRow_countOf 2 (some .int), .fieldLink R_Cek 111 "CekMachine$Values" "bytes" "LCekMachine$ByteRow;", .methodLink R_Cek 138 y_DataRow_numberOf, .instanceMethod y_DataRow_numberOf, .selects R_DataRow y_DataRow_numberOf y_DataRow_numberOf, .code y_DataRow_numberOf b_DataRow_numberOf 2 (some .long), .methodLink R_Cek 118 y_ByteRow_at, .instanceMethod y_ByteRow_at, .selects R_ByteRow y_ByteRow_at y_ByteRow_at, .initialized R_ByteRow, .code y_ByteRow_at b_ByteRow_at 2 (some .int)]
def wo_Cek_look : List Cond := [.fieldLink R_Cek 12 "CekMachine" "terms" "LCekMachine$Terms;", .methodLink R_Cek 43 y_Terms_count, .instanceMethod y_Terms_count, .selects R_Terms y_Terms_count y_Terms_count, .initialized R_Terms, .code y_Terms_count b_Terms_count 1 (some .int), .methodLink R_Cek 146 y_Terms_nodeCount, .instanceMethod y_Terms_nodeCount, .selects R_Terms y_Terms_nodeCount y_Terms_nodeCount, .code y_Terms_nodeCount b_Terms_nodeCount 1 (some .int), .methodLink R_Cek 79 y_Terms_lacksOfLast, .instanceMethod y_Terms_lacksOfLast, .selects R_Terms y_Terms_lacksOfLast y_Terms_lacksOfLast, .code y_Terms_lacksOfLast b_Terms_lacksOfLast 1 (some .int), .fieldLink R_Cek 25 "CekMachine" "answer" "I", .fieldLink R_Cek 21 "CekMachine" "evaluator" "LCekMachine$Evaluator;", .fieldLink R_Cek 149 "CekMachine$Evaluator" "meter" "LCekMachine$Meter;", .methodLink R_Cek 153 y_Meter_steps, .instanceMethod y_Meter_steps, .selects R_Meter y_Meter_steps y_Meter_steps, .initialized R_Meter, .code y_Meter_steps b_Meter_steps 1 (some .int), .methodLink R_Cek 158 y_Meter_memory, .instanceMethod y_Meter_memory, .selects R_Meter y_Meter_memory y_Meter_memory, .code y_Meter_memory b_Meter_memory 1 (some .int), .fieldLink R_Cek 161 "CekMachine$Evaluator" "waiting" "LCekMachine$Waiting;", .methodLink R_Cek 165 y_Waiting_most, .instanceMethod y_Waiting_most, .selects R_Waiting y_Waiting_most y_Waiting_most, .initialized R_Waiting, .code y_Waiting_most b_Waiting_most 1 (some .int)]
def wo_Cek_result : List Cond := [.fieldLink R_Cek 25 "CekMachine" "answer" "I", .fieldLink R_Cek 21 "CekMachine" "evaluator" "LCekMachine$Evaluator;", .methodLink R_Cek 170 y_Evaluator_outcome, .instanceMethod y_Evaluator_outcome, .selects R_Evaluator y_Evaluator_outcome y_Evaluator_outcome, .initialized R_Evaluator, .code y_Evaluator_outcome b_Evaluator_outcome 1 (some .int)]
def wo_Cek_placeOfData : List Cond := [.fieldLink R_Cek 21 "CekMachine" "evaluator" "LCekMachine$Evaluator;", .fieldLink R_Cek 90 "CekMachine$Evaluator" "values" "LCekMachine$Values;", .methodLink R_Cek 94 y_Cek_result, .instanceMethod y_Cek_result, .selects R_Cek y_Cek_result y_Cek_result, .initialized R_Cek, .code y_Cek_result b_Cek_result 1 (some .int), .methodLink R_Cek 97 y_Values_kindOf, .instanceMethod y_Values_kindOf, .selects R_Values y_Values_kindOf y_Values_kindOf, .initialized R_Values, .code y_Values_kindOf b_Values_kindOf 2 (some .int), .methodLink R_Cek 173 y_Values_rootOf, .instanceMethod y_Values_rootOf, .selects R_Values y_Values_rootOf y_Values_rootOf, .code y_Values_rootOf b_Values_rootOf 2 (some .int), .fieldLink R_Cek 123 "CekMachine$Values" "data" "LCekMachine$DataRow;", .methodLink R_Cek 176 y_DataRow_nodesOf, .instanceMethod y_DataRow_nodesOf, .selects R_DataRow y_DataRow_nodesOf y_DataRow_nodesOf, .initialized R_DataRow, .code y_DataRow_nodesOf b_DataRow_nodesOf 2 (some .int)]
def wo_Mod_init : List Cond := [.methodLink R_Mod 1 objectInit, .instanceMethod objectInit, .code objectInit ⟨#[0xb1]⟩ 1 none, .arrayClass .int, .fieldLink R_Mod 7 "CekMachineModel" "kinds" "[I", .arrayClass .long, .fieldLink R_Mod 13 "CekMachineModel" "numbers" "[J", .fieldLink R_Mod 17 "CekMachineModel" "firsts" "[I", .fieldLink R_Mod 20 "CekMachineModel" "seconds" "[I", .fieldLink R_Mod 23 "CekMachineModel" "sizes" "[I", .arrayClass .byte, .fieldLink R_Mod 26 "CekMachineModel" "nodeTexts" "[B", .fieldLink R_Mod 30 "CekMachineModel" "terms" "[I", .fieldLink R_Mod 33 "CekMachineModel" "valueKinds" "[I", .fieldLink R_Mod 36 "CekMachineModel" "valueNumbers" "[J", .fieldLink R_Mod 39 "CekMachineModel" "from" "[I", .fieldLink R_Mod 42 "CekMachineModel" "length" "[I", .fieldLink R_Mod 45 "CekMachineModel" "nodeOf" "[I", .fieldLink R_Mod 48 "CekMachineModel" "rowOf" "[I", .fieldLink R_Mod 51 "CekMachineModel" "given" "[I", .fieldLink R_Mod 54 "CekMachineModel" "firstGiven" "[I", .fieldLink R_Mod 57 "CekMachineModel" "secondGiven" "[I", .constant R_Mod 60 (70000), .fieldLink R_Mod 61 "CekMachineModel" "texts" "[B", .fieldLink R_Mod 64 "CekMachineModel" "forms" "[I", .fieldLink R_Mod 67 "CekMachineModel" "tags" "[J", .fieldLink R_Mod 70 "CekMachineModel" "counts" "[I", .fieldLink R_Mod 73 "CekMachineModel" "textsAt" "[I", .constant R_Mod 76 (700000), .fieldLink R_Mod 77 "CekMachineModel" "rows" "[I", .fieldLink R_Mod 80 "CekMachineModel" "rowBegins" "[I", .fieldLink R_Mod 83 "CekMachineModel" "rowSizes" "[I", .fieldLink R_Mod 86 "CekMachineModel" "constants" "[I", .fieldLink R_Mod 89 "CekMachineModel" "waitKinds" "[I", .fieldLink R_Mod 92 "CekMachineModel" "waitNodes" "[I", .fieldLink R_Mod 95 "CekMachineModel" "waitOf" "[I", .fieldLink R_Mod 98 "CekMachineModel" "answer" "I", .fieldLink R_Mod 102 "CekMachineModel" "of" "[I", .fieldLink R_Mod 105 "CekMachineModel" "lacks" "[I", .fieldLink R_Mod 108 "CekMachineModel" "comes" "[I"]
def wo_Mod_thrown : List Cond := [.fieldLink R_Mod 111 "CekMachineModel" "thrown" "I"]
def wo_Mod_takes : List Cond := []
def wo_Mod_isArg : List Cond := [.constantLong R_Mod 114 (200), .constantLong R_Mod 116 (31)]
def wo_Mod_clear : List Cond := [.fieldLink R_Mod 111 "CekMachineModel" "thrown" "I", .fieldLink R_Mod 118 "CekMachineModel" "used" "I", .fieldLink R_Mod 121 "CekMachineModel" "many" "I"]
def wo_Mod_node : List Cond := [.methodLink R_Mod 124 y_Mod_isArg, .static y_Mod_isArg, .initialized y_Mod_isArg.cls, .code y_Mod_isArg b_Mod_isArg 3 (some .boolean), .fieldLink R_Mod 111 "CekMachineModel" "thrown" "I", .fieldLink R_Mod 121 "CekMachineModel" "many" "I", .methodLink R_Mod 128 y_Mod_takes, .static y_Mod_takes, .initialized y_Mod_takes.cls, .code y_Mod_takes b_Mod_takes 1 (some .int), .fieldLink R_Mod 118 "CekMachineModel" "used" "I", .fieldLink R_Mod 7 "CekMachineModel" "kinds" "[I", .fieldLink R_Mod 13 "CekMachineModel" "numbers" "[J", .fieldLink R_Mod 17 "CekMachineModel" "firsts" "[I", .fieldLink R_Mod 20 "CekMachineModel" "seconds" "[I", .fieldLink R_Mod 23 "CekMachineModel" "sizes" "[I", .fieldLink R_Mod 30 "CekMachineModel" "terms" "[I"]
def wo_Mod_append : List Cond := [.fieldLink R_Mod 26 "CekMachineModel" "nodeTexts" "[B", .fieldLink R_Mod 13 "CekMachineModel" "numbers" "[J"]
def wo_Mod_bytes : List Cond := [.fieldLink R_Mod 118 "CekMachineModel" "used" "I", .fieldLink R_Mod 111 "CekMachineModel" "thrown" "I", .fieldLink R_Mod 7 "CekMachineModel" "kinds" "[I", .fieldLink R_Mod 13 "CekMachineModel" "numbers" "[J", .fieldLink R_Mod 17 "CekMachineModel" "firsts" "[I", .fieldLink R_Mod 20 "CekMachineModel" "seconds" "[I", .fieldLink R_Mod 23 "CekMachineModel" "sizes" "[I", .methodLink R_Mod 132 y_Mod_append, .instanceMethod y_Mod_append, .selects R_Mod y_Mod_append y_Mod_append, .initialized R_Mod, .code y_Mod_append b_Mod_append 6 none, .fieldLink R_Mod 30 "CekMachineModel" "terms" "[I", .fieldLink R_Mod 121 "CekMachineModel" "many" "I"]
def wo_Mod_more : List Cond := [.fieldLink R_Mod 111 "CekMachineModel" "thrown" "I", .fieldLink R_Mod 121 "CekMachineModel" "many" "I", .fieldLink R_Mod 30 "CekMachineModel" "terms" "[I", .fieldLink R_Mod 7 "CekMachineModel" "kinds" "[I", .fieldLink R_Mod 13 "CekMachineModel" "numbers" "[J", .constantLong R_Mod 136 (64), .methodLink R_Mod 132 y_Mod_append, .instanceMethod y_Mod_append, .selects R_Mod y_Mod_append y_Mod_append, .initialized R_Mod, .code y_Mod_append b_Mod_append 6 none]
def wo_Mod_drop : List Cond := [.fieldLink R_Mod 111 "CekMachineModel" "thrown" "I", .fieldLink R_Mod 121 "CekMachineModel" "many" "I", .fieldLink R_Mod 118 "CekMachineModel" "used" "I", .fieldLink R_Mod 23 "CekMachineModel" "sizes" "[I", .fieldLink R_Mod 30 "CekMachineModel" "terms" "[I"]
def wo_Mod_lacking : List Cond := [.fieldLink R_Mod 30 "CekMachineModel" "terms" "[I", .fieldLink R_Mod 121 "CekMachineModel" "many" "I", .fieldLink R_Mod 23 "CekMachineModel" "sizes" "[I", .fieldLink R_Mod 17 "CekMachineModel" "firsts" "[I", .fieldLink R_Mod 105 "CekMachineModel" "lacks" "[I", .fieldLink R_Mod 20 "CekMachineModel" "seconds" "[I", .fieldLink R_Mod 7 "CekMachineModel" "kinds" "[I", .fieldLink R_Mod 13 "CekMachineModel" "numbers" "[J"]
def wo_Mod_make : List Cond := [.fieldLink R_Mod 33 "CekMachineModel" "valueKinds" "[I", .fieldLink R_Mod 138 "CekMachineModel" "values" "I", .fieldLink R_Mod 36 "CekMachineModel" "valueNumbers" "[J", .fieldLink R_Mod 51 "CekMachineModel" "given" "[I"]
def wo_Mod_truth : List Cond := [.methodLink R_Mod 141 y_Mod_make, .instanceMethod y_Mod_make, .selects R_Mod y_Mod_make y_Mod_make, .initialized R_Mod, .code y_Mod_make b_Mod_make 4 (some .int)]
def wo_Mod_makeBytes : List Cond := [.methodLink R_Mod 141 y_Mod_make, .instanceMethod y_Mod_make, .selects R_Mod y_Mod_make y_Mod_make, .initialized R_Mod, .code y_Mod_make b_Mod_make 4 (some .int), .fieldLink R_Mod 39 "CekMachineModel" "from" "[I", .fieldLink R_Mod 145 "CekMachineModel" "textEnd" "I", .fieldLink R_Mod 42 "CekMachineModel" "length" "[I"]
def wo_Mod_putText : List Cond := [.fieldLink R_Mod 61 "CekMachineModel" "texts" "[B", .fieldLink R_Mod 145 "CekMachineModel" "textEnd" "I", .fieldLink R_Mod 148 "CekMachineModel" "puts" "I"]
def wo_Mod_byteOf : List Cond := [.fieldLink R_Mod 61 "CekMachineModel" "texts" "[B", .fieldLink R_Mod 39 "CekMachineModel" "from" "[I"]
def wo_Mod_putData : List Cond := [.fieldLink R_Mod 64 "CekMachineModel" "forms" "[I", .fieldLink R_Mod 151 "CekMachineModel" "dataEnd" "I", .fieldLink R_Mod 67 "CekMachineModel" "tags" "[J", .fieldLink R_Mod 70 "CekMachineModel" "counts" "[I", .fieldLink R_Mod 73 "CekMachineModel" "textsAt" "[I"]
def wo_Mod_makeData : List Cond := [.methodLink R_Mod 141 y_Mod_make, .instanceMethod y_Mod_make, .selects R_Mod y_Mod_make y_Mod_make, .initialized R_Mod, .code y_Mod_make b_Mod_make 4 (some .int), .fieldLink R_Mod 39 "CekMachineModel" "from" "[I", .fieldLink R_Mod 42 "CekMachineModel" "length" "[I", .fieldLink R_Mod 151 "CekMachineModel" "dataEnd" "I"]
def wo_Mod_copyData : List Cond := [.fieldLink R_Mod 64 "CekMachineModel" "forms" "[I", .fieldLink R_Mod 67 "CekMachineModel" "tags" "[J", .fieldLink R_Mod 70 "CekMachineModel" "counts" "[I", .fieldLink R_Mod 73 "CekMachineModel" "textsAt" "[I", .methodLink R_Mod 154 y_Mod_putData, .instanceMethod y_Mod_putData, .selects R_Mod y_Mod_putData y_Mod_putData, .initialized R_Mod, .code y_Mod_putData b_Mod_putData 6 none]
def wo_Mod_within : List Cond := [.fieldLink R_Mod 64 "CekMachineModel" "forms" "[I", .fieldLink R_Mod 70 "CekMachineModel" "counts" "[I"]
def wo_Mod_sizeOfData : List Cond := [.methodLink R_Mod 158 y_Mod_within, .instanceMethod y_Mod_within, .selects R_Mod y_Mod_within y_Mod_within, .initialized R_Mod, .code y_Mod_within b_Mod_within 2 (some .int)]
def wo_Mod_depthOfData : List Cond := [.fieldLink R_Mod 108 "CekMachineModel" "comes" "[I", .methodLink R_Mod 158 y_Mod_within, .instanceMethod y_Mod_within, .selects R_Mod y_Mod_within y_Mod_within, .initialized R_Mod, .code y_Mod_within b_Mod_within 2 (some .int)]
def wo_Mod_bytesOfData : List Cond := [.fieldLink R_Mod 64 "CekMachineModel" "forms" "[I", .fieldLink R_Mod 70 "CekMachineModel" "counts" "[I"]
def wo_Mod_sizeOf : List Cond := [.fieldLink R_Mod 33 "CekMachineModel" "valueKinds" "[I", .fieldLink R_Mod 42 "CekMachineModel" "length" "[I", .fieldLink R_Mod 39 "CekMachineModel" "from" "[I", .methodLink R_Mod 161 y_Mod_bytesOfData, .instanceMethod y_Mod_bytesOfData, .selects R_Mod y_Mod_bytesOfData y_Mod_bytesOfData, .initialized R_Mod, .code y_Mod_bytesOfData b_Mod_bytesOfData 5 (some .int)]
def wo_Mod_arity : List Cond := []
def wo_Mod_fail : List Cond := [.fieldLink R_Mod 165 "CekMachineModel" "fault" "I"]
def wo_Mod_isKind : List Cond := [.fieldLink R_Mod 33 "CekMachineModel" "valueKinds" "[I", .fieldLink R_Mod 102 "CekMachineModel" "of" "[I"]
def wo_Mod_isForm : List Cond := [.methodLink R_Mod 168 y_Mod_isKind, .instanceMethod y_Mod_isKind, .selects R_Mod y_Mod_isKind y_Mod_isKind, .initialized R_Mod, .code y_Mod_isKind b_Mod_isKind 3 (some .boolean), .fieldLink R_Mod 64 "CekMachineModel" "forms" "[I", .fieldLink R_Mod 39 "CekMachineModel" "from" "[I", .fieldLink R_Mod 102 "CekMachineModel" "of" "[I"]
def wo_Mod_fits : List Cond := [.methodLink R_Mod 168 y_Mod_isKind, .instanceMethod y_Mod_isKind, .selects R_Mod y_Mod_isKind y_Mod_isKind, .initialized R_Mod, .code y_Mod_isKind b_Mod_isKind 3 (some .boolean), .methodLink R_Mod 172 y_Mod_isForm, .instanceMethod y_Mod_isForm, .selects R_Mod y_Mod_isForm y_Mod_isForm, .code y_Mod_isForm b_Mod_isForm 3 (some .boolean)]
def wo_Mod_isProduct : List Cond := [.constantLong R_Mod 175 (-1), .constantLong R_Mod 179 (-9223372036854775808)]
def wo_Mod_sums : List Cond := [.constantLong R_Mod 175 (-1), .constantLong R_Mod 179 (-9223372036854775808), .constantLong R_Mod 181 (9223372036854775807), .methodLink R_Mod 183 y_Mod_fail, .instanceMethod y_Mod_fail, .selects R_Mod y_Mod_fail y_Mod_fail, .initialized R_Mod, .code y_Mod_fail b_Mod_fail 2 (some .int), .methodLink R_Mod 141 y_Mod_make, .instanceMethod y_Mod_make, .selects R_Mod y_Mod_make y_Mod_make, .code y_Mod_make b_Mod_make 4 (some .int), .methodLink R_Mod 186 y_Mod_isProduct, .static y_Mod_isProduct, .initialized y_Mod_isProduct.cls, .code y_Mod_isProduct b_Mod_isProduct 6 (some .boolean), .methodLink R_Mod 190 y_Mod_truth, .instanceMethod y_Mod_truth, .selects R_Mod y_Mod_truth y_Mod_truth, .code y_Mod_truth b_Mod_truth 2 (some .int)]
def wo_Mod_order : List Cond := [.fieldLink R_Mod 42 "CekMachineModel" "length" "[I", .methodLink R_Mod 194 y_Mod_byteOf, .instanceMethod y_Mod_byteOf, .selects R_Mod y_Mod_byteOf y_Mod_byteOf, .initialized R_Mod, .code y_Mod_byteOf b_Mod_byteOf 3 (some .int)]
def wo_Mod_ofBytes : List Cond := [.fieldLink R_Mod 148 "CekMachineModel" "puts" "I", .fieldLink R_Mod 102 "CekMachineModel" "of" "[I", .fieldLink R_Mod 42 "CekMachineModel" "length" "[I", .methodLink R_Mod 183 y_Mod_fail, .instanceMethod y_Mod_fail, .selects R_Mod y_Mod_fail y_Mod_fail, .initialized R_Mod, .code y_Mod_fail b_Mod_fail 2 (some .int), .methodLink R_Mod 194 y_Mod_byteOf, .instanceMethod y_Mod_byteOf, .selects R_Mod y_Mod_byteOf y_Mod_byteOf, .code y_Mod_byteOf b_Mod_byteOf 3 (some .int), .methodLink R_Mod 197 y_Mod_putText, .instanceMethod y_Mod_putText, .selects R_Mod y_Mod_putText y_Mod_putText, .code y_Mod_putText b_Mod_putText 2 none, .methodLink R_Mod 201 y_Mod_makeBytes, .instanceMethod y_Mod_makeBytes, .selects R_Mod y_Mod_makeBytes y_Mod_makeBytes, .code y_Mod_makeBytes b_Mod_makeBytes 3 (some .int), .methodLink R_Mod 141 y_Mod_make, .instanceMethod y_Mod_make, .selects R_Mod y_Mod_make y_Mod_make, .code y_Mod_make b_Mod_make 4 (some .int), .fieldLink R_Mod 36 "CekMachineModel" "valueNumbers" "[J", .methodLink R_Mod 204 y_Mod_order, .instanceMethod y_Mod_order, .selects R_Mod y_Mod_order y_Mod_order, .code y_Mod_order b_Mod_order 4 (some .int), .methodLink R_Mod 190 y_Mod_truth, .instanceMethod y_Mod_truth, .selects R_Mod y_Mod_truth y_Mod_truth, .code y_Mod_truth b_Mod_truth 2 (some .int)]
def wo_Mod_sameData : List Cond := [.fieldLink R_Mod 42 "CekMachineModel" "length" "[I", .fieldLink R_Mod 39 "CekMachineModel" "from" "[I", .fieldLink R_Mod 64 "CekMachineModel" "forms" "[I", .fieldLink R_Mod 67 "CekMachineModel" "tags" "[J", .fieldLink R_Mod 70 "CekMachineModel" "counts" "[I", .fieldLink R_Mod 61 "CekMachineModel" "texts" "[B", .fieldLink R_Mod 73 "CekMachineModel" "textsAt" "[I"]
def wo_Mod_outer : List Cond := [.fieldLink R_Mod 151 "CekMachineModel" "dataEnd" "I", .methodLink R_Mod 154 y_Mod_putData, .instanceMethod y_Mod_putData, .selects R_Mod y_Mod_putData y_Mod_putData, .initialized R_Mod, .code y_Mod_putData b_Mod_putData 6 none, .fieldLink R_Mod 39 "CekMachineModel" "from" "[I", .fieldLink R_Mod 42 "CekMachineModel" "length" "[I", .methodLink R_Mod 207 y_Mod_copyData, .instanceMethod y_Mod_copyData, .selects R_Mod y_Mod_copyData y_Mod_copyData, .code y_Mod_copyData b_Mod_copyData 4 none, .methodLink R_Mod 211 y_Mod_makeData, .instanceMethod y_Mod_makeData, .selects R_Mod y_Mod_makeData y_Mod_makeData, .code y_Mod_makeData b_Mod_makeData 3 (some .int)]
def wo_Mod_ofData : List Cond := [.fieldLink R_Mod 102 "CekMachineModel" "of" "[I", .fieldLink R_Mod 39 "CekMachineModel" "from" "[I", .fieldLink R_Mod 151 "CekMachineModel" "dataEnd" "I", .methodLink R_Mod 214 y_Mod_sameData, .instanceMethod y_Mod_sameData, .selects R_Mod y_Mod_sameData y_Mod_sameData, .initialized R_Mod, .code y_Mod_sameData b_Mod_sameData 8 (some .boolean), .methodLink R_Mod 190 y_Mod_truth, .instanceMethod y_Mod_truth, .selects R_Mod y_Mod_truth y_Mod_truth, .code y_Mod_truth b_Mod_truth 2 (some .int), .fieldLink R_Mod 64 "CekMachineModel" "forms" "[I", .methodLink R_Mod 141 y_Mod_make, .instanceMethod y_Mod_make, .selects R_Mod y_Mod_make y_Mod_make, .code y_Mod_make b_Mod_make 4 (some .int), .fieldLink R_Mod 67 "CekMachineModel" "tags" "[J", .fieldLink R_Mod 70 "CekMachineModel" "counts" "[I", .methodLink R_Mod 217 y_Mod_outer, .instanceMethod y_Mod_outer, .selects R_Mod y_Mod_outer y_Mod_outer, .code y_Mod_outer b_Mod_outer 7 (some .int), .fieldLink R_Mod 36 "CekMachineModel" "valueNumbers" "[J", .constantLong R_Mod 221 (127), .methodLink R_Mod 183 y_Mod_fail, .instanceMethod y_Mod_fail, .selects R_Mod y_Mod_fail y_Mod_fail, .code y_Mod_fail b_Mod_fail 2 (some .int), .methodLink R_Mod 154 y_Mod_putData, .instanceMethod y_Mod_putData, .selects R_Mod y_Mod_putData y_Mod_putData, .code y_Mod_putData b_Mod_putData 6 none, .methodLink R_Mod 211 y_Mod_makeData, .instanceMethod y_Mod_makeData, .selects R_Mod y_Mod_makeData y_Mod_makeData, .code y_Mod_makeData b_Mod_makeData 3 (some .int), .fieldLink R_Mod 42 "CekMachineModel" "length" "[I", .fieldLink R_Mod 148 "CekMachineModel" "puts" "I", .fieldLink R_Mod 61 "CekMachineModel" "texts" "[B", .fieldLink R_Mod 73 "CekMachineModel" "textsAt" "[I", .methodLink R_Mod 197 y_Mod_putText, .instanceMethod y_Mod_putText, .selects R_Mod y_Mod_putText y_Mod_putText, .code y_Mod_putText b_Mod_putText 2 none, .methodLink R_Mod 201 y_Mod_makeBytes, .instanceMethod y_Mod_makeBytes, .selects R_Mod y_Mod_makeBytes y_Mod_makeBytes, .code y_Mod_makeBytes b_Mod_makeBytes 3 (some .int), .methodLink R_Mod 223 y_Mod_ofLists, .instanceMethod y_Mod_ofLists, .selects R_Mod y_Mod_ofLists y_Mod_ofLists, .code y_Mod_ofLists b_Mod_ofLists 8 (some .int)]
def wo_Mod_ofLists : List Cond := [.fieldLink R_Mod 70 "CekMachineModel" "counts" "[I", .methodLink R_Mod 227 y_Mod_sizeOfData, .instanceMethod y_Mod_sizeOfData, .selects R_Mod y_Mod_sizeOfData y_Mod_sizeOfData, .initialized R_Mod, .code y_Mod_sizeOfData b_Mod_sizeOfData 4 (some .int), .methodLink R_Mod 183 y_Mod_fail, .instanceMethod y_Mod_fail, .selects R_Mod y_Mod_fail y_Mod_fail, .code y_Mod_fail b_Mod_fail 2 (some .int), .methodLink R_Mod 207 y_Mod_copyData, .instanceMethod y_Mod_copyData, .selects R_Mod y_Mod_copyData y_Mod_copyData, .code y_Mod_copyData b_Mod_copyData 4 none, .methodLink R_Mod 211 y_Mod_makeData, .instanceMethod y_Mod_makeData, .selects R_Mod y_Mod_makeData y_Mod_makeData, .code y_Mod_makeData b_Mod_makeData 3 (some .int), .methodLink R_Mod 154 y_Mod_putData, .instanceMethod y_Mod_putData, .selects R_Mod y_Mod_putData y_Mod_putData, .code y_Mod_putData b_Mod_putData 6 none, .fieldLink R_Mod 42 "CekMachineModel" "length" "[I", .fieldLink R_Mod 102 "CekMachineModel" "of" "[I", .fieldLink R_Mod 39 "CekMachineModel" "from" "[I", .fieldLink R_Mod 151 "CekMachineModel" "dataEnd" "I", .methodLink R_Mod 230 y_Mod_depthOfData, .instanceMethod y_Mod_depthOfData, .selects R_Mod y_Mod_depthOfData y_Mod_depthOfData, .code y_Mod_depthOfData b_Mod_depthOfData 6 (some .int), .methodLink R_Mod 190 y_Mod_truth, .instanceMethod y_Mod_truth, .selects R_Mod y_Mod_truth y_Mod_truth, .code y_Mod_truth b_Mod_truth 2 (some .int), .methodLink R_Mod 217 y_Mod_outer, .instanceMethod y_Mod_outer, .selects R_Mod y_Mod_outer y_Mod_outer, .code y_Mod_outer b_Mod_outer 7 (some .int)]
def wo_Mod_does : List Cond := [.methodLink R_Mod 233 y_Mod_fits, .instanceMethod y_Mod_fits, .selects R_Mod y_Mod_fits y_Mod_fits, .initialized R_Mod, .code y_Mod_fits b_Mod_fits 2 (some .boolean), .methodLink R_Mod 183 y_Mod_fail, .instanceMethod y_Mod_fail, .selects R_Mod y_Mod_fail y_Mod_fail, .code y_Mod_fail b_Mod_fail 2 (some .int), .fieldLink R_Mod 36 "CekMachineModel" "valueNumbers" "[J", .fieldLink R_Mod 102 "CekMachineModel" "of" "[I", .methodLink R_Mod 237 y_Mod_sums, .instanceMethod y_Mod_sums, .selects R_Mod y_Mod_sums y_Mod_sums, .code y_Mod_sums b_Mod_sums 7 (some .int), .methodLink R_Mod 241 y_Mod_ofBytes, .instanceMethod y_Mod_ofBytes, .selects R_Mod y_Mod_ofBytes y_Mod_ofBytes, .code y_Mod_ofBytes b_Mod_ofBytes 6 (some .int), .methodLink R_Mod 244 y_Mod_ofData, .instanceMethod y_Mod_ofData, .selects R_Mod y_Mod_ofData y_Mod_ofData, .code y_Mod_ofData b_Mod_ofData 6 (some .int)]
def wo_Mod_step : List Cond := [.fieldLink R_Mod 247 "CekMachineModel" "steps" "I", .fieldLink R_Mod 250 "CekMachineModel" "maxSteps" "I", .methodLink R_Mod 183 y_Mod_fail, .instanceMethod y_Mod_fail, .selects R_Mod y_Mod_fail y_Mod_fail, .initialized R_Mod, .code y_Mod_fail b_Mod_fail 2 (some .int)]
def wo_Mod_keep : List Cond := [.fieldLink R_Mod 253 "CekMachineModel" "memory" "I", .fieldLink R_Mod 256 "CekMachineModel" "maxMemory" "I", .methodLink R_Mod 183 y_Mod_fail, .instanceMethod y_Mod_fail, .selects R_Mod y_Mod_fail y_Mod_fail, .initialized R_Mod, .code y_Mod_fail b_Mod_fail 2 (some .int)]
def wo_Mod_comes : List Cond := [.fieldLink R_Mod 259 "CekMachineModel" "now" "I", .fieldLink R_Mod 262 "CekMachineModel" "come" "I"]
def wo_Mod_wait : List Cond := [.fieldLink R_Mod 89 "CekMachineModel" "waitKinds" "[I", .fieldLink R_Mod 265 "CekMachineModel" "waiting" "I", .fieldLink R_Mod 92 "CekMachineModel" "waitNodes" "[I", .fieldLink R_Mod 95 "CekMachineModel" "waitOf" "[I", .fieldLink R_Mod 268 "CekMachineModel" "mostWaiting" "I"]
def wo_Mod_constant : List Cond := [.fieldLink R_Mod 7 "CekMachineModel" "kinds" "[I", .fieldLink R_Mod 13 "CekMachineModel" "numbers" "[J", .methodLink R_Mod 141 y_Mod_make, .instanceMethod y_Mod_make, .selects R_Mod y_Mod_make y_Mod_make, .initialized R_Mod, .code y_Mod_make b_Mod_make 4 (some .int), .fieldLink R_Mod 148 "CekMachineModel" "puts" "I", .fieldLink R_Mod 26 "CekMachineModel" "nodeTexts" "[B", .methodLink R_Mod 197 y_Mod_putText, .instanceMethod y_Mod_putText, .selects R_Mod y_Mod_putText y_Mod_putText, .code y_Mod_putText b_Mod_putText 2 none, .methodLink R_Mod 201 y_Mod_makeBytes, .instanceMethod y_Mod_makeBytes, .selects R_Mod y_Mod_makeBytes y_Mod_makeBytes, .code y_Mod_makeBytes b_Mod_makeBytes 3 (some .int), .methodLink R_Mod 154 y_Mod_putData, .instanceMethod y_Mod_putData, .selects R_Mod y_Mod_putData y_Mod_putData, .code y_Mod_putData b_Mod_putData 6 none, .fieldLink R_Mod 151 "CekMachineModel" "dataEnd" "I", .methodLink R_Mod 211 y_Mod_makeData, .instanceMethod y_Mod_makeData, .selects R_Mod y_Mod_makeData y_Mod_makeData, .code y_Mod_makeData b_Mod_makeData 3 (some .int), .fieldLink R_Mod 86 "CekMachineModel" "constants" "[I"]
def wo_Mod_evaluate : List Cond := [.methodLink R_Mod 271 y_Mod_step, .instanceMethod y_Mod_step, .selects R_Mod y_Mod_step y_Mod_step, .initialized R_Mod, .code y_Mod_step b_Mod_step 3 (some .boolean), .fieldLink R_Mod 259 "CekMachineModel" "now" "I", .fieldLink R_Mod 7 "CekMachineModel" "kinds" "[I", .fieldLink R_Mod 77 "CekMachineModel" "rows" "[I", .fieldLink R_Mod 80 "CekMachineModel" "rowBegins" "[I", .fieldLink R_Mod 274 "CekMachineModel" "nowRow" "I", .fieldLink R_Mod 83 "CekMachineModel" "rowSizes" "[I", .fieldLink R_Mod 13 "CekMachineModel" "numbers" "[J", .methodLink R_Mod 277 y_Mod_comes, .instanceMethod y_Mod_comes, .selects R_Mod y_Mod_comes y_Mod_comes, .code y_Mod_comes b_Mod_comes 2 none, .methodLink R_Mod 279 y_Mod_keep, .instanceMethod y_Mod_keep, .selects R_Mod y_Mod_keep y_Mod_keep, .code y_Mod_keep b_Mod_keep 3 (some .boolean), .methodLink R_Mod 141 y_Mod_make, .instanceMethod y_Mod_make, .selects R_Mod y_Mod_make y_Mod_make, .code y_Mod_make b_Mod_make 4 (some .int), .fieldLink R_Mod 45 "CekMachineModel" "nodeOf" "[I", .fieldLink R_Mod 17 "CekMachineModel" "firsts" "[I", .fieldLink R_Mod 48 "CekMachineModel" "rowOf" "[I", .fieldLink R_Mod 265 "CekMachineModel" "waiting" "I", .methodLink R_Mod 183 y_Mod_fail, .instanceMethod y_Mod_fail, .selects R_Mod y_Mod_fail y_Mod_fail, .code y_Mod_fail b_Mod_fail 2 (some .int), .fieldLink R_Mod 20 "CekMachineModel" "seconds" "[I", .methodLink R_Mod 282 y_Mod_wait, .instanceMethod y_Mod_wait, .selects R_Mod y_Mod_wait y_Mod_wait, .code y_Mod_wait b_Mod_wait 4 none, .fieldLink R_Mod 86 "CekMachineModel" "constants" "[I"]
def wo_Mod_callFunction : List Cond := [.methodLink R_Mod 279 y_Mod_keep, .instanceMethod y_Mod_keep, .selects R_Mod y_Mod_keep y_Mod_keep, .initialized R_Mod, .code y_Mod_keep b_Mod_keep 3 (some .boolean), .fieldLink R_Mod 48 "CekMachineModel" "rowOf" "[I", .fieldLink R_Mod 80 "CekMachineModel" "rowBegins" "[I", .fieldLink R_Mod 286 "CekMachineModel" "rowMany" "I", .fieldLink R_Mod 289 "CekMachineModel" "rowEnd" "I", .fieldLink R_Mod 83 "CekMachineModel" "rowSizes" "[I", .fieldLink R_Mod 77 "CekMachineModel" "rows" "[I", .fieldLink R_Mod 274 "CekMachineModel" "nowRow" "I", .fieldLink R_Mod 45 "CekMachineModel" "nodeOf" "[I", .fieldLink R_Mod 259 "CekMachineModel" "now" "I"]
def wo_Mod_callBuiltin : List Cond := [.fieldLink R_Mod 36 "CekMachineModel" "valueNumbers" "[J", .fieldLink R_Mod 51 "CekMachineModel" "given" "[I", .methodLink R_Mod 292 y_Mod_arity, .static y_Mod_arity, .initialized y_Mod_arity.cls, .code y_Mod_arity b_Mod_arity 1 (some .int), .methodLink R_Mod 279 y_Mod_keep, .instanceMethod y_Mod_keep, .selects R_Mod y_Mod_keep y_Mod_keep, .initialized R_Mod, .code y_Mod_keep b_Mod_keep 3 (some .boolean), .methodLink R_Mod 141 y_Mod_make, .instanceMethod y_Mod_make, .selects R_Mod y_Mod_make y_Mod_make, .code y_Mod_make b_Mod_make 4 (some .int), .fieldLink R_Mod 54 "CekMachineModel" "firstGiven" "[I", .fieldLink R_Mod 57 "CekMachineModel" "secondGiven" "[I", .methodLink R_Mod 277 y_Mod_comes, .instanceMethod y_Mod_comes, .selects R_Mod y_Mod_comes y_Mod_comes, .code y_Mod_comes b_Mod_comes 2 none, .fieldLink R_Mod 102 "CekMachineModel" "of" "[I", .methodLink R_Mod 295 y_Mod_sizeOf, .instanceMethod y_Mod_sizeOf, .selects R_Mod y_Mod_sizeOf y_Mod_sizeOf, .code y_Mod_sizeOf b_Mod_sizeOf 2 (some .int), .methodLink R_Mod 271 y_Mod_step, .instanceMethod y_Mod_step, .selects R_Mod y_Mod_step y_Mod_step, .code y_Mod_step b_Mod_step 3 (some .boolean), .methodLink R_Mod 298 y_Mod_does, .instanceMethod y_Mod_does, .selects R_Mod y_Mod_does y_Mod_does, .code y_Mod_does b_Mod_does 2 (some .int), .fieldLink R_Mod 165 "CekMachineModel" "fault" "I"]
def wo_Mod_answered : List Cond := [.fieldLink R_Mod 265 "CekMachineModel" "waiting" "I", .fieldLink R_Mod 89 "CekMachineModel" "waitKinds" "[I", .fieldLink R_Mod 95 "CekMachineModel" "waitOf" "[I", .fieldLink R_Mod 274 "CekMachineModel" "nowRow" "I", .fieldLink R_Mod 92 "CekMachineModel" "waitNodes" "[I", .fieldLink R_Mod 259 "CekMachineModel" "now" "I", .fieldLink R_Mod 262 "CekMachineModel" "come" "I", .methodLink R_Mod 282 y_Mod_wait, .instanceMethod y_Mod_wait, .selects R_Mod y_Mod_wait y_Mod_wait, .initialized R_Mod, .code y_Mod_wait b_Mod_wait 4 none, .fieldLink R_Mod 33 "CekMachineModel" "valueKinds" "[I", .methodLink R_Mod 301 y_Mod_callFunction, .instanceMethod y_Mod_callFunction, .selects R_Mod y_Mod_callFunction y_Mod_callFunction, .code y_Mod_callFunction b_Mod_callFunction 5 none, .methodLink R_Mod 304 y_Mod_callBuiltin, .instanceMethod y_Mod_callBuiltin, .selects R_Mod y_Mod_callBuiltin y_Mod_callBuiltin, .code y_Mod_callBuiltin b_Mod_callBuiltin 7 none, .methodLink R_Mod 183 y_Mod_fail, .instanceMethod y_Mod_fail, .selects R_Mod y_Mod_fail y_Mod_fail, .code y_Mod_fail b_Mod_fail 2 (some .int), .fieldLink R_Mod 45 "CekMachineModel" "nodeOf" "[I", .fieldLink R_Mod 48 "CekMachineModel" "rowOf" "[I"]
def wo_Mod_run : List Cond := [.fieldLink R_Mod 121 "CekMachineModel" "many" "I", .fieldLink R_Mod 111 "CekMachineModel" "thrown" "I", .methodLink R_Mod 307 y_Mod_lacking, .instanceMethod y_Mod_lacking, .selects R_Mod y_Mod_lacking y_Mod_lacking, .initialized R_Mod, .code y_Mod_lacking b_Mod_lacking 6 (some .int), .fieldLink R_Mod 250 "CekMachineModel" "maxSteps" "I", .fieldLink R_Mod 256 "CekMachineModel" "maxMemory" "I", .fieldLink R_Mod 247 "CekMachineModel" "steps" "I", .fieldLink R_Mod 253 "CekMachineModel" "memory" "I", .fieldLink R_Mod 165 "CekMachineModel" "fault" "I", .fieldLink R_Mod 138 "CekMachineModel" "values" "I", .fieldLink R_Mod 145 "CekMachineModel" "textEnd" "I", .fieldLink R_Mod 151 "CekMachineModel" "dataEnd" "I", .fieldLink R_Mod 289 "CekMachineModel" "rowEnd" "I", .fieldLink R_Mod 286 "CekMachineModel" "rowMany" "I", .fieldLink R_Mod 80 "CekMachineModel" "rowBegins" "[I", .fieldLink R_Mod 83 "CekMachineModel" "rowSizes" "[I", .fieldLink R_Mod 265 "CekMachineModel" "waiting" "I", .fieldLink R_Mod 268 "CekMachineModel" "mostWaiting" "I", .fieldLink R_Mod 30 "CekMachineModel" "terms" "[I", .fieldLink R_Mod 23 "CekMachineModel" "sizes" "[I", .methodLink R_Mod 311 y_Mod_constant, .instanceMethod y_Mod_constant, .selects R_Mod y_Mod_constant y_Mod_constant, .code y_Mod_constant b_Mod_constant 4 none, .fieldLink R_Mod 259 "CekMachineModel" "now" "I", .fieldLink R_Mod 274 "CekMachineModel" "nowRow" "I", .methodLink R_Mod 314 y_Mod_evaluate, .instanceMethod y_Mod_evaluate, .selects R_Mod y_Mod_evaluate y_Mod_evaluate, .code y_Mod_evaluate b_Mod_evaluate 4 none, .methodLink R_Mod 317 y_Mod_answered, .instanceMethod y_Mod_answered, .selects R_Mod y_Mod_answered y_Mod_answered, .code y_Mod_answered b_Mod_answered 4 none, .fieldLink R_Mod 98 "CekMachineModel" "answer" "I", .fieldLink R_Mod 262 "CekMachineModel" "come" "I", .fieldLink R_Mod 320 "CekMachineModel" "result" "I"]
def wo_Mod_kind : List Cond := [.fieldLink R_Mod 111 "CekMachineModel" "thrown" "I", .fieldLink R_Mod 98 "CekMachineModel" "answer" "I", .fieldLink R_Mod 33 "CekMachineModel" "valueKinds" "[I", .fieldLink R_Mod 320 "CekMachineModel" "result" "I"]
def wo_Mod_number : List Cond := [.fieldLink R_Mod 98 "CekMachineModel" "answer" "I", .fieldLink R_Mod 111 "CekMachineModel" "thrown" "I", .fieldLink R_Mod 33 "CekMachineModel" "valueKinds" "[I", .fieldLink R_Mod 320 "CekMachineModel" "result" "I", .fieldLink R_Mod 36 "CekMachineModel" "valueNumbers" "[J", .fieldLink R_Mod 42 "CekMachineModel" "length" "[I"]
def wo_Mod_byteAt : List Cond := [.fieldLink R_Mod 111 "CekMachineModel" "thrown" "I", .fieldLink R_Mod 98 "CekMachineModel" "answer" "I", .fieldLink R_Mod 33 "CekMachineModel" "valueKinds" "[I", .fieldLink R_Mod 320 "CekMachineModel" "result" "I", .fieldLink R_Mod 42 "CekMachineModel" "length" "[I", .methodLink R_Mod 194 y_Mod_byteOf, .instanceMethod y_Mod_byteOf, .selects R_Mod y_Mod_byteOf y_Mod_byteOf, .initialized R_Mod, .code y_Mod_byteOf b_Mod_byteOf 3 (some .int)]
def wo_Mod_dataAt : List Cond := [.fieldLink R_Mod 98 "CekMachineModel" "answer" "I", .fieldLink R_Mod 33 "CekMachineModel" "valueKinds" "[I", .fieldLink R_Mod 320 "CekMachineModel" "result" "I", .fieldLink R_Mod 42 "CekMachineModel" "length" "[I", .fieldLink R_Mod 39 "CekMachineModel" "from" "[I"]
def wo_Mod_data : List Cond := [.fieldLink R_Mod 111 "CekMachineModel" "thrown" "I", .methodLink R_Mod 323 y_Mod_dataAt, .instanceMethod y_Mod_dataAt, .selects R_Mod y_Mod_dataAt y_Mod_dataAt, .initialized R_Mod, .code y_Mod_dataAt b_Mod_dataAt 2 (some .int), .fieldLink R_Mod 64 "CekMachineModel" "forms" "[I", .fieldLink R_Mod 70 "CekMachineModel" "counts" "[I", .fieldLink R_Mod 67 "CekMachineModel" "tags" "[J", .methodLink R_Mod 227 y_Mod_sizeOfData, .instanceMethod y_Mod_sizeOfData, .selects R_Mod y_Mod_sizeOfData y_Mod_sizeOfData, .code y_Mod_sizeOfData b_Mod_sizeOfData 4 (some .int), .methodLink R_Mod 230 y_Mod_depthOfData, .instanceMethod y_Mod_depthOfData, .selects R_Mod y_Mod_depthOfData y_Mod_depthOfData, .code y_Mod_depthOfData b_Mod_depthOfData 6 (some .int)]
def wo_Mod_dataValue : List Cond := [.methodLink R_Mod 323 y_Mod_dataAt, .instanceMethod y_Mod_dataAt, .selects R_Mod y_Mod_dataAt y_Mod_dataAt, .initialized R_Mod, .code y_Mod_dataAt b_Mod_dataAt 2 (some .int), .fieldLink R_Mod 64 "CekMachineModel" "forms" "[I", .fieldLink R_Mod 111 "CekMachineModel" "thrown" "I", .fieldLink R_Mod 67 "CekMachineModel" "tags" "[J"]
def wo_Mod_dataByte : List Cond := [.fieldLink R_Mod 111 "CekMachineModel" "thrown" "I", .methodLink R_Mod 323 y_Mod_dataAt, .instanceMethod y_Mod_dataAt, .selects R_Mod y_Mod_dataAt y_Mod_dataAt, .initialized R_Mod, .code y_Mod_dataAt b_Mod_dataAt 2 (some .int), .fieldLink R_Mod 64 "CekMachineModel" "forms" "[I", .fieldLink R_Mod 70 "CekMachineModel" "counts" "[I", .fieldLink R_Mod 61 "CekMachineModel" "texts" "[B", .fieldLink R_Mod 73 "CekMachineModel" "textsAt" "[I"]
def wo_Mod_look : List Cond := [.fieldLink R_Mod 111 "CekMachineModel" "thrown" "I", .fieldLink R_Mod 121 "CekMachineModel" "many" "I", .fieldLink R_Mod 118 "CekMachineModel" "used" "I", .methodLink R_Mod 307 y_Mod_lacking, .instanceMethod y_Mod_lacking, .selects R_Mod y_Mod_lacking y_Mod_lacking, .initialized R_Mod, .code y_Mod_lacking b_Mod_lacking 6 (some .int), .fieldLink R_Mod 98 "CekMachineModel" "answer" "I", .fieldLink R_Mod 247 "CekMachineModel" "steps" "I", .fieldLink R_Mod 253 "CekMachineModel" "memory" "I", .fieldLink R_Mod 268 "CekMachineModel" "mostWaiting" "I"]
def wo_Math_floorDiv : List Cond := []
def wo_Math_floorMod : List Cond := []
def wA : List Cond := List.flatten [u_ws R_Cek T_Cek 3, u_ws R_Terms T_Terms 7, u_ws R_ByteRow T_ByteRow 2, u_ws R_Evaluator T_Evaluator 9, u_ws R_Values T_Values 7, u_ws R_DataRow T_DataRow 7, u_ws R_Meter T_Meter 5, u_ws R_Waiting T_Waiting 5, u_ws R_Scopes T_Scopes 3, u_ws R_Builtins T_Builtins 4, u_ws R_Mod T_Mod 52, wo_Builtins_init, wo_Builtins_takes, wo_Builtins_forget, wo_Builtins_isReady, wo_Builtins_take, wo_Builtins_perform, wo_Builtins_gather, wo_Builtins_sizeOfGiven, wo_Builtins_allFit, wo_Builtins_fits, wo_Builtins_onIntegers, wo_Builtins_sumFits, wo_Builtins_differenceFits, wo_Builtins_productFits, wo_Builtins_quotientFits, wo_Builtins_onBytes, wo_Builtins_join, wo_Builtins_byteOf, wo_Builtins_slice, wo_Builtins_compareBytes, wo_Builtins_onData, wo_Builtins_toConstructor, wo_Builtins_onLists, wo_Builtins_sameData, wo_Builtins_sameNode, wo_ByteRow_init, wo_ByteRow_at, wo_ByteRow_put, wo_ByteRow_cut, wo_ByteRow_append, wo_ByteRow_end, wo_ByteRow_compare, wo_DataRow_init, wo_DataRow_forget, wo_DataRow_formOf, wo_DataRow_countOf, wo_DataRow_numberOf, wo_DataRow_nodesOf, wo_DataRow_depthOf, wo_DataRow_sizeOf, wo_DataRow_leaf, wo_DataRow_recast, wo_DataRow_prepend, wo_DataRow_rest, wo_DataRow_copy, wo_DataRow_sealed, wo_Evaluator_init, wo_Evaluator_outcome, wo_Evaluator_evaluateLast, wo_Evaluator_goesOn, wo_Evaluator_evaluateIn, wo_Evaluator_evaluateNode, wo_Evaluator_hold, wo_Evaluator_await, wo_Evaluator_goOn, wo_Evaluator_force, wo_Evaluator_call, wo_Meter_init, wo_Meter_start, wo_Meter_steps, wo_Meter_memory, wo_Meter_fault, wo_Meter_fail, wo_Meter_paySteps, wo_Meter_payMemory, wo_Scopes_init, wo_Scopes_forget, wo_Scopes_bind, wo_Scopes_find, wo_Scopes_has, wo_Terms_init, wo_Terms_allows, wo_Terms_partsOf, wo_Terms_count, wo_Terms_nodeCount, wo_Terms_isFull, wo_Terms_last, wo_Terms_lacksOfLast, wo_Terms_kindOf, wo_Terms_argOf, wo_Terms_firstOf, wo_Terms_lastPartOf, wo_Terms_functionOf, wo_Terms_textAt, wo_Terms_forget, wo_Terms_push, wo_Terms_pop, wo_Terms_canLengthen, wo_Terms_lengthen, wo_Terms_has, wo_Terms_lacksOf, wo_Terms_firstOfNew, wo_Terms_lacksOfNew, wo_Values_init, wo_Values_forget, wo_Values_takeConstants, wo_Values_ofInteger, wo_Values_ofTruth, wo_Values_ofBytes, wo_Values_ofData, wo_Values_ofBody, wo_Values_ofBuiltin, wo_Values_kindOf, wo_Values_numberOf, wo_Values_startOf, wo_Values_lengthOf, wo_Values_rootOf, wo_Values_bodyOf, wo_Values_scopeOf, wo_Values_argumentOf, wo_Values_beforeOf, wo_Values_givenTo, wo_Values_sizeOf, wo_Values_asNumber, wo_Values_partOf, wo_Values_linkOf, wo_Values_make, wo_Values_set, wo_Values_takeConstant, wo_Values_takeBytes, wo_Waiting_init, wo_Waiting_forget, wo_Waiting_most, wo_Waiting_isEmpty, wo_Waiting_push, wo_Waiting_pop, wo_Waiting_lastNode, wo_Waiting_lastScope, wo_Waiting_lastFunction, wo_Waiting_setLastFunction, wo_Waiting_has, wo_Cek_init, wo_Cek_clear, wo_Cek_node, wo_Cek_bytes, wo_Cek_more, wo_Cek_drop, wo_Cek_run, wo_Cek_kind, wo_Cek_number, wo_Cek_byteAt, wo_Cek_data, wo_Cek_dataValue, wo_Cek_dataByte, wo_Cek_look, wo_Cek_result, wo_Cek_placeOfData, wo_Mod_init, wo_Mod_thrown, wo_Mod_takes, wo_Mod_isArg, wo_Mod_clear, wo_Mod_node, wo_Mod_append, wo_Mod_bytes, wo_Mod_more, wo_Mod_drop, wo_Mod_lacking, wo_Mod_make, wo_Mod_truth, wo_Mod_makeBytes, wo_Mod_putText, wo_Mod_byteOf, wo_Mod_putData, wo_Mod_makeData, wo_Mod_copyData, wo_Mod_within, wo_Mod_sizeOfData, wo_Mod_depthOfData, wo_Mod_bytesOfData, wo_Mod_sizeOf, wo_Mod_arity, wo_Mod_fail, wo_Mod_isKind, wo_Mod_isForm, wo_Mod_fits, wo_Mod_isProduct, wo_Mod_sums, wo_Mod_order, wo_Mod_ofBytes, wo_Mod_sameData, wo_Mod_outer, wo_Mod_ofData, wo_Mod_ofLists, wo_Mod_does, wo_Mod_step, wo_Mod_keep, wo_Mod_comes, wo_Mod_wait, wo_Mod_constant, wo_Mod_evaluate, wo_Mod_callFunction, wo_Mod_callBuiltin, wo_Mod_answered, wo_Mod_run, wo_Mod_kind, wo_Mod_number, wo_Mod_byteAt, wo_Mod_dataAt, wo_Mod_data, wo_Mod_dataValue, wo_Mod_dataByte, wo_Mod_look, wo_Math_floorDiv, wo_Math_floorMod]
theorem j_in {a : List Cond} {c : Cond} (h : ∀ w ∈ a, w ∈ wA) : ∀ w ∈ a, w ∈ c :: wA := fun w q => List.mem_cons_of_mem _ (h w q)
theorem j_m {wo : List Cond} {c w : Cond} (ho : ∀ w ∈ wo, w ∈ wA) (h : w ∈ wo) : w ∈ c :: wA := List.mem_cons_of_mem _ (ho w h)
theorem j_ch {a : List Cond} (i : Nat) (hi : [u_ws R_Cek T_Cek 3, u_ws R_Terms T_Terms 7, u_ws R_ByteRow T_ByteRow 2, u_ws R_Evaluator T_Evaluator 9, u_ws R_Values T_Values 7, u_ws R_DataRow T_DataRow 7, u_ws R_Meter T_Meter 5, u_ws R_Waiting T_Waiting 5, u_ws R_Scopes T_Scopes 3, u_ws R_Builtins T_Builtins 4, u_ws R_Mod T_Mod 52, wo_Builtins_init, wo_Builtins_takes, wo_Builtins_forget, wo_Builtins_isReady, wo_Builtins_take, wo_Builtins_perform, wo_Builtins_gather, wo_Builtins_sizeOfGiven, wo_Builtins_allFit, wo_Builtins_fits, wo_Builtins_onIntegers, wo_Builtins_sumFits, wo_Builtins_differenceFits, wo_Builtins_productFits, wo_Builtins_quotientFits, wo_Builtins_onBytes, wo_Builtins_join, wo_Builtins_byteOf, wo_Builtins_slice, wo_Builtins_compareBytes, wo_Builtins_onData, wo_Builtins_toConstructor, wo_Builtins_onLists, wo_Builtins_sameData, wo_Builtins_sameNode, wo_ByteRow_init, wo_ByteRow_at, wo_ByteRow_put, wo_ByteRow_cut, wo_ByteRow_append, wo_ByteRow_end, wo_ByteRow_compare, wo_DataRow_init, wo_DataRow_forget, wo_DataRow_formOf, wo_DataRow_countOf, wo_DataRow_numberOf, wo_DataRow_nodesOf, wo_DataRow_depthOf, wo_DataRow_sizeOf, wo_DataRow_leaf, wo_DataRow_recast, wo_DataRow_prepend, wo_DataRow_rest, wo_DataRow_copy, wo_DataRow_sealed, wo_Evaluator_init, wo_Evaluator_outcome, wo_Evaluator_evaluateLast, wo_Evaluator_goesOn, wo_Evaluator_evaluateIn, wo_Evaluator_evaluateNode, wo_Evaluator_hold, wo_Evaluator_await, wo_Evaluator_goOn, wo_Evaluator_force, wo_Evaluator_call, wo_Meter_init, wo_Meter_start, wo_Meter_steps, wo_Meter_memory, wo_Meter_fault, wo_Meter_fail, wo_Meter_paySteps, wo_Meter_payMemory, wo_Scopes_init, wo_Scopes_forget, wo_Scopes_bind, wo_Scopes_find, wo_Scopes_has, wo_Terms_init, wo_Terms_allows, wo_Terms_partsOf, wo_Terms_count, wo_Terms_nodeCount, wo_Terms_isFull, wo_Terms_last, wo_Terms_lacksOfLast, wo_Terms_kindOf, wo_Terms_argOf, wo_Terms_firstOf, wo_Terms_lastPartOf, wo_Terms_functionOf, wo_Terms_textAt, wo_Terms_forget, wo_Terms_push, wo_Terms_pop, wo_Terms_canLengthen, wo_Terms_lengthen, wo_Terms_has, wo_Terms_lacksOf, wo_Terms_firstOfNew, wo_Terms_lacksOfNew, wo_Values_init, wo_Values_forget, wo_Values_takeConstants, wo_Values_ofInteger, wo_Values_ofTruth, wo_Values_ofBytes, wo_Values_ofData, wo_Values_ofBody, wo_Values_ofBuiltin, wo_Values_kindOf, wo_Values_numberOf, wo_Values_startOf, wo_Values_lengthOf, wo_Values_rootOf, wo_Values_bodyOf, wo_Values_scopeOf, wo_Values_argumentOf, wo_Values_beforeOf, wo_Values_givenTo, wo_Values_sizeOf, wo_Values_asNumber, wo_Values_partOf, wo_Values_linkOf, wo_Values_make, wo_Values_set, wo_Values_takeConstant, wo_Values_takeBytes, wo_Waiting_init, wo_Waiting_forget, wo_Waiting_most, wo_Waiting_isEmpty, wo_Waiting_push, wo_Waiting_pop, wo_Waiting_lastNode, wo_Waiting_lastScope, wo_Waiting_lastFunction, wo_Waiting_setLastFunction, wo_Waiting_has, wo_Cek_init, wo_Cek_clear, wo_Cek_node, wo_Cek_bytes, wo_Cek_more, wo_Cek_drop, wo_Cek_run, wo_Cek_kind, wo_Cek_number, wo_Cek_byteAt, wo_Cek_data, wo_Cek_dataValue, wo_Cek_dataByte, wo_Cek_look, wo_Cek_result, wo_Cek_placeOfData, wo_Mod_init, wo_Mod_thrown, wo_Mod_takes, wo_Mod_isArg, wo_Mod_clear, wo_Mod_node, wo_Mod_append, wo_Mod_bytes, wo_Mod_more, wo_Mod_drop, wo_Mod_lacking, wo_Mod_make, wo_Mod_truth, wo_Mod_makeBytes, wo_Mod_putText, wo_Mod_byteOf, wo_Mod_putData, wo_Mod_makeData, wo_Mod_copyData, wo_Mod_within, wo_Mod_sizeOfData, wo_Mod_depthOfData, wo_Mod_bytesOfData, wo_Mod_sizeOf, wo_Mod_arity, wo_Mod_fail, wo_Mod_isKind, wo_Mod_isForm, wo_Mod_fits, wo_Mod_isProduct, wo_Mod_sums, wo_Mod_order, wo_Mod_ofBytes, wo_Mod_sameData, wo_Mod_outer, wo_Mod_ofData, wo_Mod_ofLists, wo_Mod_does, wo_Mod_step, wo_Mod_keep, wo_Mod_comes, wo_Mod_wait, wo_Mod_constant, wo_Mod_evaluate, wo_Mod_callFunction, wo_Mod_callBuiltin, wo_Mod_answered, wo_Mod_run, wo_Mod_kind, wo_Mod_number, wo_Mod_byteAt, wo_Mod_dataAt, wo_Mod_data, wo_Mod_dataValue, wo_Mod_dataByte, wo_Mod_look, wo_Math_floorDiv, wo_Math_floorMod][i]? = some a) : ∀ w ∈ a, w ∈ wA := fun w h => List.mem_flatten.mpr ⟨a, List.mem_of_getElem? hi, h⟩
theorem in_Cek : ∀ w ∈ u_ws R_Cek T_Cek 3, w ∈ wA := j_ch 0 rfl
theorem in_Terms : ∀ w ∈ u_ws R_Terms T_Terms 7, w ∈ wA := j_ch 1 rfl
theorem in_ByteRow : ∀ w ∈ u_ws R_ByteRow T_ByteRow 2, w ∈ wA := j_ch 2 rfl
theorem in_Evaluator : ∀ w ∈ u_ws R_Evaluator T_Evaluator 9, w ∈ wA := j_ch 3 rfl
theorem in_Values : ∀ w ∈ u_ws R_Values T_Values 7, w ∈ wA := j_ch 4 rfl
theorem in_DataRow : ∀ w ∈ u_ws R_DataRow T_DataRow 7, w ∈ wA := j_ch 5 rfl
theorem in_Meter : ∀ w ∈ u_ws R_Meter T_Meter 5, w ∈ wA := j_ch 6 rfl
theorem in_Waiting : ∀ w ∈ u_ws R_Waiting T_Waiting 5, w ∈ wA := j_ch 7 rfl
theorem in_Scopes : ∀ w ∈ u_ws R_Scopes T_Scopes 3, w ∈ wA := j_ch 8 rfl
theorem in_Builtins : ∀ w ∈ u_ws R_Builtins T_Builtins 4, w ∈ wA := j_ch 9 rfl
theorem in_Mod : ∀ w ∈ u_ws R_Mod T_Mod 52, w ∈ wA := j_ch 10 rfl
theorem own_Builtins_init : ∀ w ∈ wo_Builtins_init, w ∈ wA := j_ch 11 rfl
abbrev w_Builtins_init : List Cond := .code y_Builtins_init b_Builtins_init 3 none :: wA
theorem pd_Builtins_init : y_Builtins_init.cls = R_Builtins ∧ y_Builtins_init.cls ≠ "java/lang/invoke/MethodHandle" ∧ y_Builtins_init.cls ≠ "java/lang/invoke/VarHandle" ∧ (parseMethodDescriptor y_Builtins_init.desc).map (fun d => d.parameters.length) = some 2 := by decide +kernel
theorem own_Builtins_takes : ∀ w ∈ wo_Builtins_takes, w ∈ wA := j_ch 12 rfl
abbrev w_Builtins_takes : List Cond := .code y_Builtins_takes b_Builtins_takes 4 (some .int) :: wA
theorem pd_Builtins_takes : y_Builtins_takes.cls ≠ "java/lang/invoke/MethodHandle" ∧ y_Builtins_takes.cls ≠ "java/lang/invoke/VarHandle" ∧ (parseMethodDescriptor y_Builtins_takes.desc).map (fun d => d.parameters.length) = some 2 := by decide +kernel
theorem own_Builtins_forget : ∀ w ∈ wo_Builtins_forget, w ∈ wA := j_ch 13 rfl
abbrev w_Builtins_forget : List Cond := .code y_Builtins_forget b_Builtins_forget 1 none :: wA
theorem pd_Builtins_forget : y_Builtins_forget.cls = R_Builtins ∧ y_Builtins_forget.cls ≠ "java/lang/invoke/MethodHandle" ∧ y_Builtins_forget.cls ≠ "java/lang/invoke/VarHandle" ∧ (parseMethodDescriptor y_Builtins_forget.desc).map (fun d => d.parameters.length) = some 0 := by decide +kernel
theorem own_Builtins_isReady : ∀ w ∈ wo_Builtins_isReady, w ∈ wA := j_ch 14 rfl
abbrev w_Builtins_isReady : List Cond := .code y_Builtins_isReady b_Builtins_isReady 1 (some .boolean) :: wA
theorem pd_Builtins_isReady : y_Builtins_isReady.cls = R_Builtins ∧ y_Builtins_isReady.cls ≠ "java/lang/invoke/MethodHandle" ∧ y_Builtins_isReady.cls ≠ "java/lang/invoke/VarHandle" ∧ (parseMethodDescriptor y_Builtins_isReady.desc).map (fun d => d.parameters.length) = some 0 := by decide +kernel
theorem own_Builtins_take : ∀ w ∈ wo_Builtins_take, w ∈ wA := j_ch 15 rfl
abbrev w_Builtins_take : List Cond := .code y_Builtins_take b_Builtins_take 5 (some .int) :: wA
theorem pd_Builtins_take : y_Builtins_take.cls = R_Builtins ∧ y_Builtins_take.cls ≠ "java/lang/invoke/MethodHandle" ∧ y_Builtins_take.cls ≠ "java/lang/invoke/VarHandle" ∧ (parseMethodDescriptor y_Builtins_take.desc).map (fun d => d.parameters.length) = some 2 := by decide +kernel
theorem own_Builtins_perform : ∀ w ∈ wo_Builtins_perform, w ∈ wA := j_ch 16 rfl
abbrev w_Builtins_perform : List Cond := .code y_Builtins_perform b_Builtins_perform 3 (some .int) :: wA
theorem pd_Builtins_perform : y_Builtins_perform.cls = R_Builtins ∧ y_Builtins_perform.cls ≠ "java/lang/invoke/MethodHandle" ∧ y_Builtins_perform.cls ≠ "java/lang/invoke/VarHandle" ∧ (parseMethodDescriptor y_Builtins_perform.desc).map (fun d => d.parameters.length) = some 0 := by decide +kernel
theorem own_Builtins_gather : ∀ w ∈ wo_Builtins_gather, w ∈ wA := j_ch 17 rfl
abbrev w_Builtins_gather : List Cond := .code y_Builtins_gather b_Builtins_gather 7 none :: wA
theorem pd_Builtins_gather : y_Builtins_gather.cls = R_Builtins ∧ y_Builtins_gather.cls ≠ "java/lang/invoke/MethodHandle" ∧ y_Builtins_gather.cls ≠ "java/lang/invoke/VarHandle" ∧ (parseMethodDescriptor y_Builtins_gather.desc).map (fun d => d.parameters.length) = some 3 := by decide +kernel
theorem own_Builtins_sizeOfGiven : ∀ w ∈ wo_Builtins_sizeOfGiven, w ∈ wA := j_ch 18 rfl
abbrev w_Builtins_sizeOfGiven : List Cond := .code y_Builtins_sizeOfGiven b_Builtins_sizeOfGiven 4 (some .int) :: wA
theorem pd_Builtins_sizeOfGiven : y_Builtins_sizeOfGiven.cls = R_Builtins ∧ y_Builtins_sizeOfGiven.cls ≠ "java/lang/invoke/MethodHandle" ∧ y_Builtins_sizeOfGiven.cls ≠ "java/lang/invoke/VarHandle" ∧ (parseMethodDescriptor y_Builtins_sizeOfGiven.desc).map (fun d => d.parameters.length) = some 1 := by decide +kernel
theorem own_Builtins_allFit : ∀ w ∈ wo_Builtins_allFit, w ∈ wA := j_ch 19 rfl
abbrev w_Builtins_allFit : List Cond := .code y_Builtins_allFit b_Builtins_allFit 3 (some .boolean) :: wA
theorem pd_Builtins_allFit : y_Builtins_allFit.cls = R_Builtins ∧ y_Builtins_allFit.cls ≠ "java/lang/invoke/MethodHandle" ∧ y_Builtins_allFit.cls ≠ "java/lang/invoke/VarHandle" ∧ (parseMethodDescriptor y_Builtins_allFit.desc).map (fun d => d.parameters.length) = some 1 := by decide +kernel
theorem own_Builtins_fits : ∀ w ∈ wo_Builtins_fits, w ∈ wA := j_ch 20 rfl
abbrev w_Builtins_fits : List Cond := .code y_Builtins_fits b_Builtins_fits 5 (some .boolean) :: wA
theorem pd_Builtins_fits : y_Builtins_fits.cls = R_Builtins ∧ y_Builtins_fits.cls ≠ "java/lang/invoke/MethodHandle" ∧ y_Builtins_fits.cls ≠ "java/lang/invoke/VarHandle" ∧ (parseMethodDescriptor y_Builtins_fits.desc).map (fun d => d.parameters.length) = some 2 := by decide +kernel
theorem own_Builtins_onIntegers : ∀ w ∈ wo_Builtins_onIntegers, w ∈ wA := j_ch 21 rfl
abbrev w_Builtins_onIntegers : List Cond := .code y_Builtins_onIntegers b_Builtins_onIntegers 6 (some .int) :: wA
theorem pd_Builtins_onIntegers : y_Builtins_onIntegers.cls = R_Builtins ∧ y_Builtins_onIntegers.cls ≠ "java/lang/invoke/MethodHandle" ∧ y_Builtins_onIntegers.cls ≠ "java/lang/invoke/VarHandle" ∧ (parseMethodDescriptor y_Builtins_onIntegers.desc).map (fun d => d.parameters.length) = some 3 := by decide +kernel
theorem own_Builtins_sumFits : ∀ w ∈ wo_Builtins_sumFits, w ∈ wA := j_ch 22 rfl
abbrev w_Builtins_sumFits : List Cond := .code y_Builtins_sumFits b_Builtins_sumFits 4 (some .boolean) :: wA
theorem pd_Builtins_sumFits : y_Builtins_sumFits.cls ≠ "java/lang/invoke/MethodHandle" ∧ y_Builtins_sumFits.cls ≠ "java/lang/invoke/VarHandle" ∧ (parseMethodDescriptor y_Builtins_sumFits.desc).map (fun d => d.parameters.length) = some 2 := by decide +kernel
theorem own_Builtins_differenceFits : ∀ w ∈ wo_Builtins_differenceFits, w ∈ wA := j_ch 23 rfl
abbrev w_Builtins_differenceFits : List Cond := .code y_Builtins_differenceFits b_Builtins_differenceFits 4 (some .boolean) :: wA
theorem pd_Builtins_differenceFits : y_Builtins_differenceFits.cls ≠ "java/lang/invoke/MethodHandle" ∧ y_Builtins_differenceFits.cls ≠ "java/lang/invoke/VarHandle" ∧ (parseMethodDescriptor y_Builtins_differenceFits.desc).map (fun d => d.parameters.length) = some 2 := by decide +kernel
theorem own_Builtins_productFits : ∀ w ∈ wo_Builtins_productFits, w ∈ wA := j_ch 24 rfl
abbrev w_Builtins_productFits : List Cond := .code y_Builtins_productFits b_Builtins_productFits 4 (some .boolean) :: wA
theorem pd_Builtins_productFits : y_Builtins_productFits.cls ≠ "java/lang/invoke/MethodHandle" ∧ y_Builtins_productFits.cls ≠ "java/lang/invoke/VarHandle" ∧ (parseMethodDescriptor y_Builtins_productFits.desc).map (fun d => d.parameters.length) = some 2 := by decide +kernel
theorem own_Builtins_quotientFits : ∀ w ∈ wo_Builtins_quotientFits, w ∈ wA := j_ch 25 rfl
abbrev w_Builtins_quotientFits : List Cond := .code y_Builtins_quotientFits b_Builtins_quotientFits 4 (some .boolean) :: wA
theorem pd_Builtins_quotientFits : y_Builtins_quotientFits.cls ≠ "java/lang/invoke/MethodHandle" ∧ y_Builtins_quotientFits.cls ≠ "java/lang/invoke/VarHandle" ∧ (parseMethodDescriptor y_Builtins_quotientFits.desc).map (fun d => d.parameters.length) = some 2 := by decide +kernel
theorem own_Builtins_onBytes : ∀ w ∈ wo_Builtins_onBytes, w ∈ wA := j_ch 26 rfl
abbrev w_Builtins_onBytes : List Cond := .code y_Builtins_onBytes b_Builtins_onBytes 2 (some .int) :: wA
theorem pd_Builtins_onBytes : y_Builtins_onBytes.cls = R_Builtins ∧ y_Builtins_onBytes.cls ≠ "java/lang/invoke/MethodHandle" ∧ y_Builtins_onBytes.cls ≠ "java/lang/invoke/VarHandle" ∧ (parseMethodDescriptor y_Builtins_onBytes.desc).map (fun d => d.parameters.length) = some 1 := by decide +kernel
theorem own_Builtins_join : ∀ w ∈ wo_Builtins_join, w ∈ wA := j_ch 27 rfl
abbrev w_Builtins_join : List Cond := .code y_Builtins_join b_Builtins_join 5 (some .int) :: wA
theorem pd_Builtins_join : y_Builtins_join.cls = R_Builtins ∧ y_Builtins_join.cls ≠ "java/lang/invoke/MethodHandle" ∧ y_Builtins_join.cls ≠ "java/lang/invoke/VarHandle" ∧ (parseMethodDescriptor y_Builtins_join.desc).map (fun d => d.parameters.length) = some 2 := by decide +kernel
theorem own_Builtins_byteOf : ∀ w ∈ wo_Builtins_byteOf, w ∈ wA := j_ch 28 rfl
abbrev w_Builtins_byteOf : List Cond := .code y_Builtins_byteOf b_Builtins_byteOf 4 (some .int) :: wA
theorem pd_Builtins_byteOf : y_Builtins_byteOf.cls = R_Builtins ∧ y_Builtins_byteOf.cls ≠ "java/lang/invoke/MethodHandle" ∧ y_Builtins_byteOf.cls ≠ "java/lang/invoke/VarHandle" ∧ (parseMethodDescriptor y_Builtins_byteOf.desc).map (fun d => d.parameters.length) = some 2 := by decide +kernel
theorem own_Builtins_slice : ∀ w ∈ wo_Builtins_slice, w ∈ wA := j_ch 29 rfl
abbrev w_Builtins_slice : List Cond := .code y_Builtins_slice b_Builtins_slice 10 (some .int) :: wA
theorem pd_Builtins_slice : y_Builtins_slice.cls = R_Builtins ∧ y_Builtins_slice.cls ≠ "java/lang/invoke/MethodHandle" ∧ y_Builtins_slice.cls ≠ "java/lang/invoke/VarHandle" ∧ (parseMethodDescriptor y_Builtins_slice.desc).map (fun d => d.parameters.length) = some 3 := by decide +kernel
theorem own_Builtins_compareBytes : ∀ w ∈ wo_Builtins_compareBytes, w ∈ wA := j_ch 30 rfl
abbrev w_Builtins_compareBytes : List Cond := .code y_Builtins_compareBytes b_Builtins_compareBytes 3 (some .int) :: wA
theorem pd_Builtins_compareBytes : y_Builtins_compareBytes.cls = R_Builtins ∧ y_Builtins_compareBytes.cls ≠ "java/lang/invoke/MethodHandle" ∧ y_Builtins_compareBytes.cls ≠ "java/lang/invoke/VarHandle" ∧ (parseMethodDescriptor y_Builtins_compareBytes.desc).map (fun d => d.parameters.length) = some 2 := by decide +kernel
theorem own_Builtins_onData : ∀ w ∈ wo_Builtins_onData, w ∈ wA := j_ch 31 rfl
abbrev w_Builtins_onData : List Cond := .code y_Builtins_onData b_Builtins_onData 4 (some .int) :: wA
theorem pd_Builtins_onData : y_Builtins_onData.cls = R_Builtins ∧ y_Builtins_onData.cls ≠ "java/lang/invoke/MethodHandle" ∧ y_Builtins_onData.cls ≠ "java/lang/invoke/VarHandle" ∧ (parseMethodDescriptor y_Builtins_onData.desc).map (fun d => d.parameters.length) = some 1 := by decide +kernel
theorem own_Builtins_toConstructor : ∀ w ∈ wo_Builtins_toConstructor, w ∈ wA := j_ch 32 rfl
abbrev w_Builtins_toConstructor : List Cond := .code y_Builtins_toConstructor b_Builtins_toConstructor 5 (some .int) :: wA
theorem pd_Builtins_toConstructor : y_Builtins_toConstructor.cls = R_Builtins ∧ y_Builtins_toConstructor.cls ≠ "java/lang/invoke/MethodHandle" ∧ y_Builtins_toConstructor.cls ≠ "java/lang/invoke/VarHandle" ∧ (parseMethodDescriptor y_Builtins_toConstructor.desc).map (fun d => d.parameters.length) = some 2 := by decide +kernel
theorem own_Builtins_onLists : ∀ w ∈ wo_Builtins_onLists, w ∈ wA := j_ch 33 rfl
abbrev w_Builtins_onLists : List Cond := .code y_Builtins_onLists b_Builtins_onLists 5 (some .int) :: wA
theorem pd_Builtins_onLists : y_Builtins_onLists.cls = R_Builtins ∧ y_Builtins_onLists.cls ≠ "java/lang/invoke/MethodHandle" ∧ y_Builtins_onLists.cls ≠ "java/lang/invoke/VarHandle" ∧ (parseMethodDescriptor y_Builtins_onLists.desc).map (fun d => d.parameters.length) = some 1 := by decide +kernel
theorem own_Builtins_sameData : ∀ w ∈ wo_Builtins_sameData, w ∈ wA := j_ch 34 rfl
abbrev w_Builtins_sameData : List Cond := .code y_Builtins_sameData b_Builtins_sameData 5 (some .boolean) :: wA
theorem pd_Builtins_sameData : y_Builtins_sameData.cls = R_Builtins ∧ y_Builtins_sameData.cls ≠ "java/lang/invoke/MethodHandle" ∧ y_Builtins_sameData.cls ≠ "java/lang/invoke/VarHandle" ∧ (parseMethodDescriptor y_Builtins_sameData.desc).map (fun d => d.parameters.length) = some 2 := by decide +kernel
theorem own_Builtins_sameNode : ∀ w ∈ wo_Builtins_sameNode, w ∈ wA := j_ch 35 rfl
abbrev w_Builtins_sameNode : List Cond := .code y_Builtins_sameNode b_Builtins_sameNode 7 (some .boolean) :: wA
theorem pd_Builtins_sameNode : y_Builtins_sameNode.cls = R_Builtins ∧ y_Builtins_sameNode.cls ≠ "java/lang/invoke/MethodHandle" ∧ y_Builtins_sameNode.cls ≠ "java/lang/invoke/VarHandle" ∧ (parseMethodDescriptor y_Builtins_sameNode.desc).map (fun d => d.parameters.length) = some 2 := by decide +kernel
theorem own_ByteRow_init : ∀ w ∈ wo_ByteRow_init, w ∈ wA := j_ch 36 rfl
abbrev w_ByteRow_init : List Cond := .code y_ByteRow_init b_ByteRow_init 2 none :: wA
theorem pd_ByteRow_init : y_ByteRow_init.cls = R_ByteRow ∧ y_ByteRow_init.cls ≠ "java/lang/invoke/MethodHandle" ∧ y_ByteRow_init.cls ≠ "java/lang/invoke/VarHandle" ∧ (parseMethodDescriptor y_ByteRow_init.desc).map (fun d => d.parameters.length) = some 1 := by decide +kernel
theorem own_ByteRow_at : ∀ w ∈ wo_ByteRow_at, w ∈ wA := j_ch 37 rfl
abbrev w_ByteRow_at : List Cond := .code y_ByteRow_at b_ByteRow_at 2 (some .int) :: wA
theorem pd_ByteRow_at : y_ByteRow_at.cls = R_ByteRow ∧ y_ByteRow_at.cls ≠ "java/lang/invoke/MethodHandle" ∧ y_ByteRow_at.cls ≠ "java/lang/invoke/VarHandle" ∧ (parseMethodDescriptor y_ByteRow_at.desc).map (fun d => d.parameters.length) = some 1 := by decide +kernel
theorem own_ByteRow_put : ∀ w ∈ wo_ByteRow_put, w ∈ wA := j_ch 38 rfl
abbrev w_ByteRow_put : List Cond := .code y_ByteRow_put b_ByteRow_put 3 none :: wA
theorem pd_ByteRow_put : y_ByteRow_put.cls = R_ByteRow ∧ y_ByteRow_put.cls ≠ "java/lang/invoke/MethodHandle" ∧ y_ByteRow_put.cls ≠ "java/lang/invoke/VarHandle" ∧ (parseMethodDescriptor y_ByteRow_put.desc).map (fun d => d.parameters.length) = some 2 := by decide +kernel
theorem own_ByteRow_cut : ∀ w ∈ wo_ByteRow_cut, w ∈ wA := j_ch 39 rfl
abbrev w_ByteRow_cut : List Cond := .code y_ByteRow_cut b_ByteRow_cut 2 none :: wA
theorem pd_ByteRow_cut : y_ByteRow_cut.cls = R_ByteRow ∧ y_ByteRow_cut.cls ≠ "java/lang/invoke/MethodHandle" ∧ y_ByteRow_cut.cls ≠ "java/lang/invoke/VarHandle" ∧ (parseMethodDescriptor y_ByteRow_cut.desc).map (fun d => d.parameters.length) = some 1 := by decide +kernel
theorem own_ByteRow_append : ∀ w ∈ wo_ByteRow_append, w ∈ wA := j_ch 40 rfl
abbrev w_ByteRow_append : List Cond := .code y_ByteRow_append b_ByteRow_append 4 none :: wA
theorem pd_ByteRow_append : y_ByteRow_append.cls = R_ByteRow ∧ y_ByteRow_append.cls ≠ "java/lang/invoke/MethodHandle" ∧ y_ByteRow_append.cls ≠ "java/lang/invoke/VarHandle" ∧ (parseMethodDescriptor y_ByteRow_append.desc).map (fun d => d.parameters.length) = some 2 := by decide +kernel
theorem own_ByteRow_end : ∀ w ∈ wo_ByteRow_end, w ∈ wA := j_ch 41 rfl
abbrev w_ByteRow_end : List Cond := .code y_ByteRow_end b_ByteRow_end 1 (some .int) :: wA
theorem pd_ByteRow_end : y_ByteRow_end.cls = R_ByteRow ∧ y_ByteRow_end.cls ≠ "java/lang/invoke/MethodHandle" ∧ y_ByteRow_end.cls ≠ "java/lang/invoke/VarHandle" ∧ (parseMethodDescriptor y_ByteRow_end.desc).map (fun d => d.parameters.length) = some 0 := by decide +kernel
theorem own_ByteRow_compare : ∀ w ∈ wo_ByteRow_compare, w ∈ wA := j_ch 42 rfl
abbrev w_ByteRow_compare : List Cond := .code y_ByteRow_compare b_ByteRow_compare 8 (some .int) :: wA
theorem pd_ByteRow_compare : y_ByteRow_compare.cls = R_ByteRow ∧ y_ByteRow_compare.cls ≠ "java/lang/invoke/MethodHandle" ∧ y_ByteRow_compare.cls ≠ "java/lang/invoke/VarHandle" ∧ (parseMethodDescriptor y_ByteRow_compare.desc).map (fun d => d.parameters.length) = some 4 := by decide +kernel
theorem own_DataRow_init : ∀ w ∈ wo_DataRow_init, w ∈ wA := j_ch 43 rfl
abbrev w_DataRow_init : List Cond := .code y_DataRow_init b_DataRow_init 1 none :: wA
theorem pd_DataRow_init : y_DataRow_init.cls = R_DataRow ∧ y_DataRow_init.cls ≠ "java/lang/invoke/MethodHandle" ∧ y_DataRow_init.cls ≠ "java/lang/invoke/VarHandle" ∧ (parseMethodDescriptor y_DataRow_init.desc).map (fun d => d.parameters.length) = some 0 := by decide +kernel
theorem own_DataRow_forget : ∀ w ∈ wo_DataRow_forget, w ∈ wA := j_ch 44 rfl
abbrev w_DataRow_forget : List Cond := .code y_DataRow_forget b_DataRow_forget 1 none :: wA
theorem pd_DataRow_forget : y_DataRow_forget.cls = R_DataRow ∧ y_DataRow_forget.cls ≠ "java/lang/invoke/MethodHandle" ∧ y_DataRow_forget.cls ≠ "java/lang/invoke/VarHandle" ∧ (parseMethodDescriptor y_DataRow_forget.desc).map (fun d => d.parameters.length) = some 0 := by decide +kernel
theorem own_DataRow_formOf : ∀ w ∈ wo_DataRow_formOf, w ∈ wA := j_ch 45 rfl
abbrev w_DataRow_formOf : List Cond := .code y_DataRow_formOf b_DataRow_formOf 2 (some .int) :: wA
theorem pd_DataRow_formOf : y_DataRow_formOf.cls = R_DataRow ∧ y_DataRow_formOf.cls ≠ "java/lang/invoke/MethodHandle" ∧ y_DataRow_formOf.cls ≠ "java/lang/invoke/VarHandle" ∧ (parseMethodDescriptor y_DataRow_formOf.desc).map (fun d => d.parameters.length) = some 1 := by decide +kernel
theorem own_DataRow_countOf : ∀ w ∈ wo_DataRow_countOf, w ∈ wA := j_ch 46 rfl
abbrev w_DataRow_countOf : List Cond := .code y_DataRow_countOf b_DataRow_countOf 2 (some .int) :: wA
theorem pd_DataRow_countOf : y_DataRow_countOf.cls = R_DataRow ∧ y_DataRow_countOf.cls ≠ "java/lang/invoke/MethodHandle" ∧ y_DataRow_countOf.cls ≠ "java/lang/invoke/VarHandle" ∧ (parseMethodDescriptor y_DataRow_countOf.desc).map (fun d => d.parameters.length) = some 1 := by decide +kernel
theorem own_DataRow_numberOf : ∀ w ∈ wo_DataRow_numberOf, w ∈ wA := j_ch 47 rfl
abbrev w_DataRow_numberOf : List Cond := .code y_DataRow_numberOf b_DataRow_numberOf 2 (some .long) :: wA
theorem pd_DataRow_numberOf : y_DataRow_numberOf.cls = R_DataRow ∧ y_DataRow_numberOf.cls ≠ "java/lang/invoke/MethodHandle" ∧ y_DataRow_numberOf.cls ≠ "java/lang/invoke/VarHandle" ∧ (parseMethodDescriptor y_DataRow_numberOf.desc).map (fun d => d.parameters.length) = some 1 := by decide +kernel
theorem own_DataRow_nodesOf : ∀ w ∈ wo_DataRow_nodesOf, w ∈ wA := j_ch 48 rfl
abbrev w_DataRow_nodesOf : List Cond := .code y_DataRow_nodesOf b_DataRow_nodesOf 2 (some .int) :: wA
theorem pd_DataRow_nodesOf : y_DataRow_nodesOf.cls = R_DataRow ∧ y_DataRow_nodesOf.cls ≠ "java/lang/invoke/MethodHandle" ∧ y_DataRow_nodesOf.cls ≠ "java/lang/invoke/VarHandle" ∧ (parseMethodDescriptor y_DataRow_nodesOf.desc).map (fun d => d.parameters.length) = some 1 := by decide +kernel
theorem own_DataRow_depthOf : ∀ w ∈ wo_DataRow_depthOf, w ∈ wA := j_ch 49 rfl
abbrev w_DataRow_depthOf : List Cond := .code y_DataRow_depthOf b_DataRow_depthOf 2 (some .int) :: wA
theorem pd_DataRow_depthOf : y_DataRow_depthOf.cls = R_DataRow ∧ y_DataRow_depthOf.cls ≠ "java/lang/invoke/MethodHandle" ∧ y_DataRow_depthOf.cls ≠ "java/lang/invoke/VarHandle" ∧ (parseMethodDescriptor y_DataRow_depthOf.desc).map (fun d => d.parameters.length) = some 1 := by decide +kernel
theorem own_DataRow_sizeOf : ∀ w ∈ wo_DataRow_sizeOf, w ∈ wA := j_ch 50 rfl
abbrev w_DataRow_sizeOf : List Cond := .code y_DataRow_sizeOf b_DataRow_sizeOf 2 (some .int) :: wA
theorem pd_DataRow_sizeOf : y_DataRow_sizeOf.cls = R_DataRow ∧ y_DataRow_sizeOf.cls ≠ "java/lang/invoke/MethodHandle" ∧ y_DataRow_sizeOf.cls ≠ "java/lang/invoke/VarHandle" ∧ (parseMethodDescriptor y_DataRow_sizeOf.desc).map (fun d => d.parameters.length) = some 1 := by decide +kernel
theorem own_DataRow_leaf : ∀ w ∈ wo_DataRow_leaf, w ∈ wA := j_ch 51 rfl
abbrev w_DataRow_leaf : List Cond := .code y_DataRow_leaf b_DataRow_leaf 6 (some .int) :: wA
theorem pd_DataRow_leaf : y_DataRow_leaf.cls = R_DataRow ∧ y_DataRow_leaf.cls ≠ "java/lang/invoke/MethodHandle" ∧ y_DataRow_leaf.cls ≠ "java/lang/invoke/VarHandle" ∧ (parseMethodDescriptor y_DataRow_leaf.desc).map (fun d => d.parameters.length) = some 3 := by decide +kernel
theorem own_DataRow_recast : ∀ w ∈ wo_DataRow_recast, w ∈ wA := j_ch 52 rfl
abbrev w_DataRow_recast : List Cond := .code y_DataRow_recast b_DataRow_recast 7 (some .int) :: wA
theorem pd_DataRow_recast : y_DataRow_recast.cls = R_DataRow ∧ y_DataRow_recast.cls ≠ "java/lang/invoke/MethodHandle" ∧ y_DataRow_recast.cls ≠ "java/lang/invoke/VarHandle" ∧ (parseMethodDescriptor y_DataRow_recast.desc).map (fun d => d.parameters.length) = some 4 := by decide +kernel
theorem own_DataRow_prepend : ∀ w ∈ wo_DataRow_prepend, w ∈ wA := j_ch 53 rfl
abbrev w_DataRow_prepend : List Cond := .code y_DataRow_prepend b_DataRow_prepend 5 (some .int) :: wA
theorem pd_DataRow_prepend : y_DataRow_prepend.cls = R_DataRow ∧ y_DataRow_prepend.cls ≠ "java/lang/invoke/MethodHandle" ∧ y_DataRow_prepend.cls ≠ "java/lang/invoke/VarHandle" ∧ (parseMethodDescriptor y_DataRow_prepend.desc).map (fun d => d.parameters.length) = some 2 := by decide +kernel
theorem own_DataRow_rest : ∀ w ∈ wo_DataRow_rest, w ∈ wA := j_ch 54 rfl
abbrev w_DataRow_rest : List Cond := .code y_DataRow_rest b_DataRow_rest 4 (some .int) :: wA
theorem pd_DataRow_rest : y_DataRow_rest.cls = R_DataRow ∧ y_DataRow_rest.cls ≠ "java/lang/invoke/MethodHandle" ∧ y_DataRow_rest.cls ≠ "java/lang/invoke/VarHandle" ∧ (parseMethodDescriptor y_DataRow_rest.desc).map (fun d => d.parameters.length) = some 1 := by decide +kernel
theorem own_DataRow_copy : ∀ w ∈ wo_DataRow_copy, w ∈ wA := j_ch 55 rfl
abbrev w_DataRow_copy : List Cond := .code y_DataRow_copy b_DataRow_copy 3 (some .boolean) :: wA
theorem pd_DataRow_copy : y_DataRow_copy.cls = R_DataRow ∧ y_DataRow_copy.cls ≠ "java/lang/invoke/MethodHandle" ∧ y_DataRow_copy.cls ≠ "java/lang/invoke/VarHandle" ∧ (parseMethodDescriptor y_DataRow_copy.desc).map (fun d => d.parameters.length) = some 2 := by decide +kernel
theorem own_DataRow_sealed : ∀ w ∈ wo_DataRow_sealed, w ∈ wA := j_ch 56 rfl
abbrev w_DataRow_sealed : List Cond := .code y_DataRow_sealed b_DataRow_sealed 6 (some .int) :: wA
theorem pd_DataRow_sealed : y_DataRow_sealed.cls = R_DataRow ∧ y_DataRow_sealed.cls ≠ "java/lang/invoke/MethodHandle" ∧ y_DataRow_sealed.cls ≠ "java/lang/invoke/VarHandle" ∧ (parseMethodDescriptor y_DataRow_sealed.desc).map (fun d => d.parameters.length) = some 1 := by decide +kernel
theorem own_Evaluator_init : ∀ w ∈ wo_Evaluator_init, w ∈ wA := j_ch 57 rfl
abbrev w_Evaluator_init : List Cond := .code y_Evaluator_init b_Evaluator_init 2 none :: wA
theorem pd_Evaluator_init : y_Evaluator_init.cls = R_Evaluator ∧ y_Evaluator_init.cls ≠ "java/lang/invoke/MethodHandle" ∧ y_Evaluator_init.cls ≠ "java/lang/invoke/VarHandle" ∧ (parseMethodDescriptor y_Evaluator_init.desc).map (fun d => d.parameters.length) = some 1 := by decide +kernel
theorem own_Evaluator_outcome : ∀ w ∈ wo_Evaluator_outcome, w ∈ wA := j_ch 58 rfl
abbrev w_Evaluator_outcome : List Cond := .code y_Evaluator_outcome b_Evaluator_outcome 1 (some .int) :: wA
theorem pd_Evaluator_outcome : y_Evaluator_outcome.cls = R_Evaluator ∧ y_Evaluator_outcome.cls ≠ "java/lang/invoke/MethodHandle" ∧ y_Evaluator_outcome.cls ≠ "java/lang/invoke/VarHandle" ∧ (parseMethodDescriptor y_Evaluator_outcome.desc).map (fun d => d.parameters.length) = some 0 := by decide +kernel
theorem own_Evaluator_evaluateLast : ∀ w ∈ wo_Evaluator_evaluateLast, w ∈ wA := j_ch 59 rfl
abbrev w_Evaluator_evaluateLast : List Cond := .code y_Evaluator_evaluateLast b_Evaluator_evaluateLast 4 (some .int) :: wA
theorem pd_Evaluator_evaluateLast : y_Evaluator_evaluateLast.cls = R_Evaluator ∧ y_Evaluator_evaluateLast.cls ≠ "java/lang/invoke/MethodHandle" ∧ y_Evaluator_evaluateLast.cls ≠ "java/lang/invoke/VarHandle" ∧ (parseMethodDescriptor y_Evaluator_evaluateLast.desc).map (fun d => d.parameters.length) = some 2 := by decide +kernel
theorem own_Evaluator_goesOn : ∀ w ∈ wo_Evaluator_goesOn, w ∈ wA := j_ch 60 rfl
abbrev w_Evaluator_goesOn : List Cond := .code y_Evaluator_goesOn b_Evaluator_goesOn 2 (some .boolean) :: wA
theorem pd_Evaluator_goesOn : y_Evaluator_goesOn.cls = R_Evaluator ∧ y_Evaluator_goesOn.cls ≠ "java/lang/invoke/MethodHandle" ∧ y_Evaluator_goesOn.cls ≠ "java/lang/invoke/VarHandle" ∧ (parseMethodDescriptor y_Evaluator_goesOn.desc).map (fun d => d.parameters.length) = some 0 := by decide +kernel
theorem own_Evaluator_evaluateIn : ∀ w ∈ wo_Evaluator_evaluateIn, w ∈ wA := j_ch 61 rfl
abbrev w_Evaluator_evaluateIn : List Cond := .code y_Evaluator_evaluateIn b_Evaluator_evaluateIn 3 none :: wA
theorem pd_Evaluator_evaluateIn : y_Evaluator_evaluateIn.cls = R_Evaluator ∧ y_Evaluator_evaluateIn.cls ≠ "java/lang/invoke/MethodHandle" ∧ y_Evaluator_evaluateIn.cls ≠ "java/lang/invoke/VarHandle" ∧ (parseMethodDescriptor y_Evaluator_evaluateIn.desc).map (fun d => d.parameters.length) = some 2 := by decide +kernel
theorem own_Evaluator_evaluateNode : ∀ w ∈ wo_Evaluator_evaluateNode, w ∈ wA := j_ch 62 rfl
abbrev w_Evaluator_evaluateNode : List Cond := .code y_Evaluator_evaluateNode b_Evaluator_evaluateNode 2 none :: wA
theorem pd_Evaluator_evaluateNode : y_Evaluator_evaluateNode.cls = R_Evaluator ∧ y_Evaluator_evaluateNode.cls ≠ "java/lang/invoke/MethodHandle" ∧ y_Evaluator_evaluateNode.cls ≠ "java/lang/invoke/VarHandle" ∧ (parseMethodDescriptor y_Evaluator_evaluateNode.desc).map (fun d => d.parameters.length) = some 0 := by decide +kernel
theorem own_Evaluator_hold : ∀ w ∈ wo_Evaluator_hold, w ∈ wA := j_ch 63 rfl
abbrev w_Evaluator_hold : List Cond := .code y_Evaluator_hold b_Evaluator_hold 3 none :: wA
theorem pd_Evaluator_hold : y_Evaluator_hold.cls = R_Evaluator ∧ y_Evaluator_hold.cls ≠ "java/lang/invoke/MethodHandle" ∧ y_Evaluator_hold.cls ≠ "java/lang/invoke/VarHandle" ∧ (parseMethodDescriptor y_Evaluator_hold.desc).map (fun d => d.parameters.length) = some 2 := by decide +kernel
theorem own_Evaluator_await : ∀ w ∈ wo_Evaluator_await, w ∈ wA := j_ch 64 rfl
abbrev w_Evaluator_await : List Cond := .code y_Evaluator_await b_Evaluator_await 3 none :: wA
theorem pd_Evaluator_await : y_Evaluator_await.cls = R_Evaluator ∧ y_Evaluator_await.cls ≠ "java/lang/invoke/MethodHandle" ∧ y_Evaluator_await.cls ≠ "java/lang/invoke/VarHandle" ∧ (parseMethodDescriptor y_Evaluator_await.desc).map (fun d => d.parameters.length) = some 2 := by decide +kernel
theorem own_Evaluator_goOn : ∀ w ∈ wo_Evaluator_goOn, w ∈ wA := j_ch 65 rfl
abbrev w_Evaluator_goOn : List Cond := .code y_Evaluator_goOn b_Evaluator_goOn 3 none :: wA
theorem pd_Evaluator_goOn : y_Evaluator_goOn.cls = R_Evaluator ∧ y_Evaluator_goOn.cls ≠ "java/lang/invoke/MethodHandle" ∧ y_Evaluator_goOn.cls ≠ "java/lang/invoke/VarHandle" ∧ (parseMethodDescriptor y_Evaluator_goOn.desc).map (fun d => d.parameters.length) = some 0 := by decide +kernel
theorem own_Evaluator_force : ∀ w ∈ wo_Evaluator_force, w ∈ wA := j_ch 66 rfl
abbrev w_Evaluator_force : List Cond := .code y_Evaluator_force b_Evaluator_force 1 none :: wA
theorem pd_Evaluator_force : y_Evaluator_force.cls = R_Evaluator ∧ y_Evaluator_force.cls ≠ "java/lang/invoke/MethodHandle" ∧ y_Evaluator_force.cls ≠ "java/lang/invoke/VarHandle" ∧ (parseMethodDescriptor y_Evaluator_force.desc).map (fun d => d.parameters.length) = some 0 := by decide +kernel
theorem own_Evaluator_call : ∀ w ∈ wo_Evaluator_call, w ∈ wA := j_ch 67 rfl
abbrev w_Evaluator_call : List Cond := .code y_Evaluator_call b_Evaluator_call 4 none :: wA
theorem pd_Evaluator_call : y_Evaluator_call.cls = R_Evaluator ∧ y_Evaluator_call.cls ≠ "java/lang/invoke/MethodHandle" ∧ y_Evaluator_call.cls ≠ "java/lang/invoke/VarHandle" ∧ (parseMethodDescriptor y_Evaluator_call.desc).map (fun d => d.parameters.length) = some 1 := by decide +kernel
theorem own_Meter_init : ∀ w ∈ wo_Meter_init, w ∈ wA := j_ch 68 rfl
abbrev w_Meter_init : List Cond := .code y_Meter_init b_Meter_init 1 none :: wA
theorem pd_Meter_init : y_Meter_init.cls = R_Meter ∧ y_Meter_init.cls ≠ "java/lang/invoke/MethodHandle" ∧ y_Meter_init.cls ≠ "java/lang/invoke/VarHandle" ∧ (parseMethodDescriptor y_Meter_init.desc).map (fun d => d.parameters.length) = some 0 := by decide +kernel
theorem own_Meter_start : ∀ w ∈ wo_Meter_start, w ∈ wA := j_ch 69 rfl
abbrev w_Meter_start : List Cond := .code y_Meter_start b_Meter_start 3 none :: wA
theorem pd_Meter_start : y_Meter_start.cls = R_Meter ∧ y_Meter_start.cls ≠ "java/lang/invoke/MethodHandle" ∧ y_Meter_start.cls ≠ "java/lang/invoke/VarHandle" ∧ (parseMethodDescriptor y_Meter_start.desc).map (fun d => d.parameters.length) = some 2 := by decide +kernel
theorem own_Meter_steps : ∀ w ∈ wo_Meter_steps, w ∈ wA := j_ch 70 rfl
abbrev w_Meter_steps : List Cond := .code y_Meter_steps b_Meter_steps 1 (some .int) :: wA
theorem pd_Meter_steps : y_Meter_steps.cls = R_Meter ∧ y_Meter_steps.cls ≠ "java/lang/invoke/MethodHandle" ∧ y_Meter_steps.cls ≠ "java/lang/invoke/VarHandle" ∧ (parseMethodDescriptor y_Meter_steps.desc).map (fun d => d.parameters.length) = some 0 := by decide +kernel
theorem own_Meter_memory : ∀ w ∈ wo_Meter_memory, w ∈ wA := j_ch 71 rfl
abbrev w_Meter_memory : List Cond := .code y_Meter_memory b_Meter_memory 1 (some .int) :: wA
theorem pd_Meter_memory : y_Meter_memory.cls = R_Meter ∧ y_Meter_memory.cls ≠ "java/lang/invoke/MethodHandle" ∧ y_Meter_memory.cls ≠ "java/lang/invoke/VarHandle" ∧ (parseMethodDescriptor y_Meter_memory.desc).map (fun d => d.parameters.length) = some 0 := by decide +kernel
theorem own_Meter_fault : ∀ w ∈ wo_Meter_fault, w ∈ wA := j_ch 72 rfl
abbrev w_Meter_fault : List Cond := .code y_Meter_fault b_Meter_fault 1 (some .int) :: wA
theorem pd_Meter_fault : y_Meter_fault.cls = R_Meter ∧ y_Meter_fault.cls ≠ "java/lang/invoke/MethodHandle" ∧ y_Meter_fault.cls ≠ "java/lang/invoke/VarHandle" ∧ (parseMethodDescriptor y_Meter_fault.desc).map (fun d => d.parameters.length) = some 0 := by decide +kernel
theorem own_Meter_fail : ∀ w ∈ wo_Meter_fail, w ∈ wA := j_ch 73 rfl
abbrev w_Meter_fail : List Cond := .code y_Meter_fail b_Meter_fail 2 none :: wA
theorem pd_Meter_fail : y_Meter_fail.cls = R_Meter ∧ y_Meter_fail.cls ≠ "java/lang/invoke/MethodHandle" ∧ y_Meter_fail.cls ≠ "java/lang/invoke/VarHandle" ∧ (parseMethodDescriptor y_Meter_fail.desc).map (fun d => d.parameters.length) = some 1 := by decide +kernel
theorem own_Meter_paySteps : ∀ w ∈ wo_Meter_paySteps, w ∈ wA := j_ch 74 rfl
abbrev w_Meter_paySteps : List Cond := .code y_Meter_paySteps b_Meter_paySteps 2 (some .boolean) :: wA
theorem pd_Meter_paySteps : y_Meter_paySteps.cls = R_Meter ∧ y_Meter_paySteps.cls ≠ "java/lang/invoke/MethodHandle" ∧ y_Meter_paySteps.cls ≠ "java/lang/invoke/VarHandle" ∧ (parseMethodDescriptor y_Meter_paySteps.desc).map (fun d => d.parameters.length) = some 1 := by decide +kernel
theorem own_Meter_payMemory : ∀ w ∈ wo_Meter_payMemory, w ∈ wA := j_ch 75 rfl
abbrev w_Meter_payMemory : List Cond := .code y_Meter_payMemory b_Meter_payMemory 2 (some .boolean) :: wA
theorem pd_Meter_payMemory : y_Meter_payMemory.cls = R_Meter ∧ y_Meter_payMemory.cls ≠ "java/lang/invoke/MethodHandle" ∧ y_Meter_payMemory.cls ≠ "java/lang/invoke/VarHandle" ∧ (parseMethodDescriptor y_Meter_payMemory.desc).map (fun d => d.parameters.length) = some 1 := by decide +kernel
theorem own_Scopes_init : ∀ w ∈ wo_Scopes_init, w ∈ wA := j_ch 76 rfl
abbrev w_Scopes_init : List Cond := .code y_Scopes_init b_Scopes_init 1 none :: wA
theorem pd_Scopes_init : y_Scopes_init.cls = R_Scopes ∧ y_Scopes_init.cls ≠ "java/lang/invoke/MethodHandle" ∧ y_Scopes_init.cls ≠ "java/lang/invoke/VarHandle" ∧ (parseMethodDescriptor y_Scopes_init.desc).map (fun d => d.parameters.length) = some 0 := by decide +kernel
theorem own_Scopes_forget : ∀ w ∈ wo_Scopes_forget, w ∈ wA := j_ch 77 rfl
abbrev w_Scopes_forget : List Cond := .code y_Scopes_forget b_Scopes_forget 1 none :: wA
theorem pd_Scopes_forget : y_Scopes_forget.cls = R_Scopes ∧ y_Scopes_forget.cls ≠ "java/lang/invoke/MethodHandle" ∧ y_Scopes_forget.cls ≠ "java/lang/invoke/VarHandle" ∧ (parseMethodDescriptor y_Scopes_forget.desc).map (fun d => d.parameters.length) = some 0 := by decide +kernel
theorem own_Scopes_bind : ∀ w ∈ wo_Scopes_bind, w ∈ wA := j_ch 78 rfl
abbrev w_Scopes_bind : List Cond := .code y_Scopes_bind b_Scopes_bind 3 (some .int) :: wA
theorem pd_Scopes_bind : y_Scopes_bind.cls = R_Scopes ∧ y_Scopes_bind.cls ≠ "java/lang/invoke/MethodHandle" ∧ y_Scopes_bind.cls ≠ "java/lang/invoke/VarHandle" ∧ (parseMethodDescriptor y_Scopes_bind.desc).map (fun d => d.parameters.length) = some 2 := by decide +kernel
theorem own_Scopes_find : ∀ w ∈ wo_Scopes_find, w ∈ wA := j_ch 79 rfl
abbrev w_Scopes_find : List Cond := .code y_Scopes_find b_Scopes_find 7 (some .int) :: wA
theorem pd_Scopes_find : y_Scopes_find.cls = R_Scopes ∧ y_Scopes_find.cls ≠ "java/lang/invoke/MethodHandle" ∧ y_Scopes_find.cls ≠ "java/lang/invoke/VarHandle" ∧ (parseMethodDescriptor y_Scopes_find.desc).map (fun d => d.parameters.length) = some 2 := by decide +kernel
theorem own_Scopes_has : ∀ w ∈ wo_Scopes_has, w ∈ wA := j_ch 80 rfl
abbrev w_Scopes_has : List Cond := .code y_Scopes_has b_Scopes_has 2 (some .boolean) :: wA
theorem pd_Scopes_has : y_Scopes_has.cls = R_Scopes ∧ y_Scopes_has.cls ≠ "java/lang/invoke/MethodHandle" ∧ y_Scopes_has.cls ≠ "java/lang/invoke/VarHandle" ∧ (parseMethodDescriptor y_Scopes_has.desc).map (fun d => d.parameters.length) = some 1 := by decide +kernel
theorem own_Terms_init : ∀ w ∈ wo_Terms_init, w ∈ wA := j_ch 81 rfl
abbrev w_Terms_init : List Cond := .code y_Terms_init b_Terms_init 1 none :: wA
theorem pd_Terms_init : y_Terms_init.cls = R_Terms ∧ y_Terms_init.cls ≠ "java/lang/invoke/MethodHandle" ∧ y_Terms_init.cls ≠ "java/lang/invoke/VarHandle" ∧ (parseMethodDescriptor y_Terms_init.desc).map (fun d => d.parameters.length) = some 0 := by decide +kernel
theorem own_Terms_allows : ∀ w ∈ wo_Terms_allows, w ∈ wA := j_ch 82 rfl
abbrev w_Terms_allows : List Cond := .code y_Terms_allows b_Terms_allows 3 (some .boolean) :: wA
theorem pd_Terms_allows : y_Terms_allows.cls ≠ "java/lang/invoke/MethodHandle" ∧ y_Terms_allows.cls ≠ "java/lang/invoke/VarHandle" ∧ (parseMethodDescriptor y_Terms_allows.desc).map (fun d => d.parameters.length) = some 2 := by decide +kernel
theorem own_Terms_partsOf : ∀ w ∈ wo_Terms_partsOf, w ∈ wA := j_ch 83 rfl
abbrev w_Terms_partsOf : List Cond := .code y_Terms_partsOf b_Terms_partsOf 1 (some .int) :: wA
theorem pd_Terms_partsOf : y_Terms_partsOf.cls ≠ "java/lang/invoke/MethodHandle" ∧ y_Terms_partsOf.cls ≠ "java/lang/invoke/VarHandle" ∧ (parseMethodDescriptor y_Terms_partsOf.desc).map (fun d => d.parameters.length) = some 1 := by decide +kernel
theorem own_Terms_count : ∀ w ∈ wo_Terms_count, w ∈ wA := j_ch 84 rfl
abbrev w_Terms_count : List Cond := .code y_Terms_count b_Terms_count 1 (some .int) :: wA
theorem pd_Terms_count : y_Terms_count.cls = R_Terms ∧ y_Terms_count.cls ≠ "java/lang/invoke/MethodHandle" ∧ y_Terms_count.cls ≠ "java/lang/invoke/VarHandle" ∧ (parseMethodDescriptor y_Terms_count.desc).map (fun d => d.parameters.length) = some 0 := by decide +kernel
theorem own_Terms_nodeCount : ∀ w ∈ wo_Terms_nodeCount, w ∈ wA := j_ch 85 rfl
abbrev w_Terms_nodeCount : List Cond := .code y_Terms_nodeCount b_Terms_nodeCount 1 (some .int) :: wA
theorem pd_Terms_nodeCount : y_Terms_nodeCount.cls = R_Terms ∧ y_Terms_nodeCount.cls ≠ "java/lang/invoke/MethodHandle" ∧ y_Terms_nodeCount.cls ≠ "java/lang/invoke/VarHandle" ∧ (parseMethodDescriptor y_Terms_nodeCount.desc).map (fun d => d.parameters.length) = some 0 := by decide +kernel
theorem own_Terms_isFull : ∀ w ∈ wo_Terms_isFull, w ∈ wA := j_ch 86 rfl
abbrev w_Terms_isFull : List Cond := .code y_Terms_isFull b_Terms_isFull 1 (some .boolean) :: wA
theorem pd_Terms_isFull : y_Terms_isFull.cls = R_Terms ∧ y_Terms_isFull.cls ≠ "java/lang/invoke/MethodHandle" ∧ y_Terms_isFull.cls ≠ "java/lang/invoke/VarHandle" ∧ (parseMethodDescriptor y_Terms_isFull.desc).map (fun d => d.parameters.length) = some 0 := by decide +kernel
theorem own_Terms_last : ∀ w ∈ wo_Terms_last, w ∈ wA := j_ch 87 rfl
abbrev w_Terms_last : List Cond := .code y_Terms_last b_Terms_last 1 (some .int) :: wA
theorem pd_Terms_last : y_Terms_last.cls = R_Terms ∧ y_Terms_last.cls ≠ "java/lang/invoke/MethodHandle" ∧ y_Terms_last.cls ≠ "java/lang/invoke/VarHandle" ∧ (parseMethodDescriptor y_Terms_last.desc).map (fun d => d.parameters.length) = some 0 := by decide +kernel
theorem own_Terms_lacksOfLast : ∀ w ∈ wo_Terms_lacksOfLast, w ∈ wA := j_ch 88 rfl
abbrev w_Terms_lacksOfLast : List Cond := .code y_Terms_lacksOfLast b_Terms_lacksOfLast 1 (some .int) :: wA
theorem pd_Terms_lacksOfLast : y_Terms_lacksOfLast.cls = R_Terms ∧ y_Terms_lacksOfLast.cls ≠ "java/lang/invoke/MethodHandle" ∧ y_Terms_lacksOfLast.cls ≠ "java/lang/invoke/VarHandle" ∧ (parseMethodDescriptor y_Terms_lacksOfLast.desc).map (fun d => d.parameters.length) = some 0 := by decide +kernel
theorem own_Terms_kindOf : ∀ w ∈ wo_Terms_kindOf, w ∈ wA := j_ch 89 rfl
abbrev w_Terms_kindOf : List Cond := .code y_Terms_kindOf b_Terms_kindOf 2 (some .int) :: wA
theorem pd_Terms_kindOf : y_Terms_kindOf.cls = R_Terms ∧ y_Terms_kindOf.cls ≠ "java/lang/invoke/MethodHandle" ∧ y_Terms_kindOf.cls ≠ "java/lang/invoke/VarHandle" ∧ (parseMethodDescriptor y_Terms_kindOf.desc).map (fun d => d.parameters.length) = some 1 := by decide +kernel
theorem own_Terms_argOf : ∀ w ∈ wo_Terms_argOf, w ∈ wA := j_ch 90 rfl
abbrev w_Terms_argOf : List Cond := .code y_Terms_argOf b_Terms_argOf 2 (some .long) :: wA
theorem pd_Terms_argOf : y_Terms_argOf.cls = R_Terms ∧ y_Terms_argOf.cls ≠ "java/lang/invoke/MethodHandle" ∧ y_Terms_argOf.cls ≠ "java/lang/invoke/VarHandle" ∧ (parseMethodDescriptor y_Terms_argOf.desc).map (fun d => d.parameters.length) = some 1 := by decide +kernel
theorem own_Terms_firstOf : ∀ w ∈ wo_Terms_firstOf, w ∈ wA := j_ch 91 rfl
abbrev w_Terms_firstOf : List Cond := .code y_Terms_firstOf b_Terms_firstOf 2 (some .int) :: wA
theorem pd_Terms_firstOf : y_Terms_firstOf.cls = R_Terms ∧ y_Terms_firstOf.cls ≠ "java/lang/invoke/MethodHandle" ∧ y_Terms_firstOf.cls ≠ "java/lang/invoke/VarHandle" ∧ (parseMethodDescriptor y_Terms_firstOf.desc).map (fun d => d.parameters.length) = some 1 := by decide +kernel
theorem own_Terms_lastPartOf : ∀ w ∈ wo_Terms_lastPartOf, w ∈ wA := j_ch 92 rfl
abbrev w_Terms_lastPartOf : List Cond := .code y_Terms_lastPartOf b_Terms_lastPartOf 2 (some .int) :: wA
theorem pd_Terms_lastPartOf : y_Terms_lastPartOf.cls = R_Terms ∧ y_Terms_lastPartOf.cls ≠ "java/lang/invoke/MethodHandle" ∧ y_Terms_lastPartOf.cls ≠ "java/lang/invoke/VarHandle" ∧ (parseMethodDescriptor y_Terms_lastPartOf.desc).map (fun d => d.parameters.length) = some 1 := by decide +kernel
theorem own_Terms_functionOf : ∀ w ∈ wo_Terms_functionOf, w ∈ wA := j_ch 93 rfl
abbrev w_Terms_functionOf : List Cond := .code y_Terms_functionOf b_Terms_functionOf 2 (some .int) :: wA
theorem pd_Terms_functionOf : y_Terms_functionOf.cls = R_Terms ∧ y_Terms_functionOf.cls ≠ "java/lang/invoke/MethodHandle" ∧ y_Terms_functionOf.cls ≠ "java/lang/invoke/VarHandle" ∧ (parseMethodDescriptor y_Terms_functionOf.desc).map (fun d => d.parameters.length) = some 1 := by decide +kernel
theorem own_Terms_textAt : ∀ w ∈ wo_Terms_textAt, w ∈ wA := j_ch 94 rfl
abbrev w_Terms_textAt : List Cond := .code y_Terms_textAt b_Terms_textAt 3 (some .int) :: wA
theorem pd_Terms_textAt : y_Terms_textAt.cls = R_Terms ∧ y_Terms_textAt.cls ≠ "java/lang/invoke/MethodHandle" ∧ y_Terms_textAt.cls ≠ "java/lang/invoke/VarHandle" ∧ (parseMethodDescriptor y_Terms_textAt.desc).map (fun d => d.parameters.length) = some 2 := by decide +kernel
theorem own_Terms_forget : ∀ w ∈ wo_Terms_forget, w ∈ wA := j_ch 95 rfl
abbrev w_Terms_forget : List Cond := .code y_Terms_forget b_Terms_forget 1 none :: wA
theorem pd_Terms_forget : y_Terms_forget.cls = R_Terms ∧ y_Terms_forget.cls ≠ "java/lang/invoke/MethodHandle" ∧ y_Terms_forget.cls ≠ "java/lang/invoke/VarHandle" ∧ (parseMethodDescriptor y_Terms_forget.desc).map (fun d => d.parameters.length) = some 0 := by decide +kernel
theorem own_Terms_push : ∀ w ∈ wo_Terms_push, w ∈ wA := j_ch 96 rfl
abbrev w_Terms_push : List Cond := .code y_Terms_push b_Terms_push 4 none :: wA
theorem pd_Terms_push : y_Terms_push.cls = R_Terms ∧ y_Terms_push.cls ≠ "java/lang/invoke/MethodHandle" ∧ y_Terms_push.cls ≠ "java/lang/invoke/VarHandle" ∧ (parseMethodDescriptor y_Terms_push.desc).map (fun d => d.parameters.length) = some 2 := by decide +kernel
theorem own_Terms_pop : ∀ w ∈ wo_Terms_pop, w ∈ wA := j_ch 97 rfl
abbrev w_Terms_pop : List Cond := .code y_Terms_pop b_Terms_pop 1 (some .boolean) :: wA
theorem pd_Terms_pop : y_Terms_pop.cls = R_Terms ∧ y_Terms_pop.cls ≠ "java/lang/invoke/MethodHandle" ∧ y_Terms_pop.cls ≠ "java/lang/invoke/VarHandle" ∧ (parseMethodDescriptor y_Terms_pop.desc).map (fun d => d.parameters.length) = some 0 := by decide +kernel
theorem own_Terms_canLengthen : ∀ w ∈ wo_Terms_canLengthen, w ∈ wA := j_ch 98 rfl
abbrev w_Terms_canLengthen : List Cond := .code y_Terms_canLengthen b_Terms_canLengthen 2 (some .boolean) :: wA
theorem pd_Terms_canLengthen : y_Terms_canLengthen.cls = R_Terms ∧ y_Terms_canLengthen.cls ≠ "java/lang/invoke/MethodHandle" ∧ y_Terms_canLengthen.cls ≠ "java/lang/invoke/VarHandle" ∧ (parseMethodDescriptor y_Terms_canLengthen.desc).map (fun d => d.parameters.length) = some 1 := by decide +kernel
theorem own_Terms_lengthen : ∀ w ∈ wo_Terms_lengthen, w ∈ wA := j_ch 99 rfl
abbrev w_Terms_lengthen : List Cond := .code y_Terms_lengthen b_Terms_lengthen 6 none :: wA
theorem pd_Terms_lengthen : y_Terms_lengthen.cls = R_Terms ∧ y_Terms_lengthen.cls ≠ "java/lang/invoke/MethodHandle" ∧ y_Terms_lengthen.cls ≠ "java/lang/invoke/VarHandle" ∧ (parseMethodDescriptor y_Terms_lengthen.desc).map (fun d => d.parameters.length) = some 2 := by decide +kernel
theorem own_Terms_has : ∀ w ∈ wo_Terms_has, w ∈ wA := j_ch 100 rfl
abbrev w_Terms_has : List Cond := .code y_Terms_has b_Terms_has 2 (some .boolean) :: wA
theorem pd_Terms_has : y_Terms_has.cls = R_Terms ∧ y_Terms_has.cls ≠ "java/lang/invoke/MethodHandle" ∧ y_Terms_has.cls ≠ "java/lang/invoke/VarHandle" ∧ (parseMethodDescriptor y_Terms_has.desc).map (fun d => d.parameters.length) = some 1 := by decide +kernel
theorem own_Terms_lacksOf : ∀ w ∈ wo_Terms_lacksOf, w ∈ wA := j_ch 101 rfl
abbrev w_Terms_lacksOf : List Cond := .code y_Terms_lacksOf b_Terms_lacksOf 2 (some .int) :: wA
theorem pd_Terms_lacksOf : y_Terms_lacksOf.cls = R_Terms ∧ y_Terms_lacksOf.cls ≠ "java/lang/invoke/MethodHandle" ∧ y_Terms_lacksOf.cls ≠ "java/lang/invoke/VarHandle" ∧ (parseMethodDescriptor y_Terms_lacksOf.desc).map (fun d => d.parameters.length) = some 1 := by decide +kernel
theorem own_Terms_firstOfNew : ∀ w ∈ wo_Terms_firstOfNew, w ∈ wA := j_ch 102 rfl
abbrev w_Terms_firstOfNew : List Cond := .code y_Terms_firstOfNew b_Terms_firstOfNew 2 (some .int) :: wA
theorem pd_Terms_firstOfNew : y_Terms_firstOfNew.cls = R_Terms ∧ y_Terms_firstOfNew.cls ≠ "java/lang/invoke/MethodHandle" ∧ y_Terms_firstOfNew.cls ≠ "java/lang/invoke/VarHandle" ∧ (parseMethodDescriptor y_Terms_firstOfNew.desc).map (fun d => d.parameters.length) = some 1 := by decide +kernel
theorem own_Terms_lacksOfNew : ∀ w ∈ wo_Terms_lacksOfNew, w ∈ wA := j_ch 103 rfl
abbrev w_Terms_lacksOfNew : List Cond := .code y_Terms_lacksOfNew b_Terms_lacksOfNew 5 (some .int) :: wA
theorem pd_Terms_lacksOfNew : y_Terms_lacksOfNew.cls = R_Terms ∧ y_Terms_lacksOfNew.cls ≠ "java/lang/invoke/MethodHandle" ∧ y_Terms_lacksOfNew.cls ≠ "java/lang/invoke/VarHandle" ∧ (parseMethodDescriptor y_Terms_lacksOfNew.desc).map (fun d => d.parameters.length) = some 2 := by decide +kernel
theorem own_Values_init : ∀ w ∈ wo_Values_init, w ∈ wA := j_ch 104 rfl
abbrev w_Values_init : List Cond := .code y_Values_init b_Values_init 1 none :: wA
theorem pd_Values_init : y_Values_init.cls = R_Values ∧ y_Values_init.cls ≠ "java/lang/invoke/MethodHandle" ∧ y_Values_init.cls ≠ "java/lang/invoke/VarHandle" ∧ (parseMethodDescriptor y_Values_init.desc).map (fun d => d.parameters.length) = some 0 := by decide +kernel
theorem own_Values_forget : ∀ w ∈ wo_Values_forget, w ∈ wA := j_ch 105 rfl
abbrev w_Values_forget : List Cond := .code y_Values_forget b_Values_forget 1 none :: wA
theorem pd_Values_forget : y_Values_forget.cls = R_Values ∧ y_Values_forget.cls ≠ "java/lang/invoke/MethodHandle" ∧ y_Values_forget.cls ≠ "java/lang/invoke/VarHandle" ∧ (parseMethodDescriptor y_Values_forget.desc).map (fun d => d.parameters.length) = some 0 := by decide +kernel
theorem own_Values_takeConstants : ∀ w ∈ wo_Values_takeConstants, w ∈ wA := j_ch 106 rfl
abbrev w_Values_takeConstants : List Cond := .code y_Values_takeConstants b_Values_takeConstants 4 none :: wA
theorem pd_Values_takeConstants : y_Values_takeConstants.cls = R_Values ∧ y_Values_takeConstants.cls ≠ "java/lang/invoke/MethodHandle" ∧ y_Values_takeConstants.cls ≠ "java/lang/invoke/VarHandle" ∧ (parseMethodDescriptor y_Values_takeConstants.desc).map (fun d => d.parameters.length) = some 1 := by decide +kernel
theorem own_Values_ofInteger : ∀ w ∈ wo_Values_ofInteger, w ∈ wA := j_ch 107 rfl
abbrev w_Values_ofInteger : List Cond := .code y_Values_ofInteger b_Values_ofInteger 3 (some .int) :: wA
theorem pd_Values_ofInteger : y_Values_ofInteger.cls = R_Values ∧ y_Values_ofInteger.cls ≠ "java/lang/invoke/MethodHandle" ∧ y_Values_ofInteger.cls ≠ "java/lang/invoke/VarHandle" ∧ (parseMethodDescriptor y_Values_ofInteger.desc).map (fun d => d.parameters.length) = some 1 := by decide +kernel
theorem own_Values_ofTruth : ∀ w ∈ wo_Values_ofTruth, w ∈ wA := j_ch 108 rfl
abbrev w_Values_ofTruth : List Cond := .code y_Values_ofTruth b_Values_ofTruth 2 (some .int) :: wA
theorem pd_Values_ofTruth : y_Values_ofTruth.cls = R_Values ∧ y_Values_ofTruth.cls ≠ "java/lang/invoke/MethodHandle" ∧ y_Values_ofTruth.cls ≠ "java/lang/invoke/VarHandle" ∧ (parseMethodDescriptor y_Values_ofTruth.desc).map (fun d => d.parameters.length) = some 1 := by decide +kernel
theorem own_Values_ofBytes : ∀ w ∈ wo_Values_ofBytes, w ∈ wA := j_ch 109 rfl
abbrev w_Values_ofBytes : List Cond := .code y_Values_ofBytes b_Values_ofBytes 3 (some .int) :: wA
theorem pd_Values_ofBytes : y_Values_ofBytes.cls = R_Values ∧ y_Values_ofBytes.cls ≠ "java/lang/invoke/MethodHandle" ∧ y_Values_ofBytes.cls ≠ "java/lang/invoke/VarHandle" ∧ (parseMethodDescriptor y_Values_ofBytes.desc).map (fun d => d.parameters.length) = some 2 := by decide +kernel
theorem own_Values_ofData : ∀ w ∈ wo_Values_ofData, w ∈ wA := j_ch 110 rfl
abbrev w_Values_ofData : List Cond := .code y_Values_ofData b_Values_ofData 2 (some .int) :: wA
theorem pd_Values_ofData : y_Values_ofData.cls = R_Values ∧ y_Values_ofData.cls ≠ "java/lang/invoke/MethodHandle" ∧ y_Values_ofData.cls ≠ "java/lang/invoke/VarHandle" ∧ (parseMethodDescriptor y_Values_ofData.desc).map (fun d => d.parameters.length) = some 1 := by decide +kernel
theorem own_Values_ofBody : ∀ w ∈ wo_Values_ofBody, w ∈ wA := j_ch 111 rfl
abbrev w_Values_ofBody : List Cond := .code y_Values_ofBody b_Values_ofBody 4 (some .int) :: wA
theorem pd_Values_ofBody : y_Values_ofBody.cls = R_Values ∧ y_Values_ofBody.cls ≠ "java/lang/invoke/MethodHandle" ∧ y_Values_ofBody.cls ≠ "java/lang/invoke/VarHandle" ∧ (parseMethodDescriptor y_Values_ofBody.desc).map (fun d => d.parameters.length) = some 3 := by decide +kernel
theorem own_Values_ofBuiltin : ∀ w ∈ wo_Values_ofBuiltin, w ∈ wA := j_ch 112 rfl
abbrev w_Values_ofBuiltin : List Cond := .code y_Values_ofBuiltin b_Values_ofBuiltin 5 (some .int) :: wA
theorem pd_Values_ofBuiltin : y_Values_ofBuiltin.cls = R_Values ∧ y_Values_ofBuiltin.cls ≠ "java/lang/invoke/MethodHandle" ∧ y_Values_ofBuiltin.cls ≠ "java/lang/invoke/VarHandle" ∧ (parseMethodDescriptor y_Values_ofBuiltin.desc).map (fun d => d.parameters.length) = some 3 := by decide +kernel
theorem own_Values_kindOf : ∀ w ∈ wo_Values_kindOf, w ∈ wA := j_ch 113 rfl
abbrev w_Values_kindOf : List Cond := .code y_Values_kindOf b_Values_kindOf 2 (some .int) :: wA
theorem pd_Values_kindOf : y_Values_kindOf.cls = R_Values ∧ y_Values_kindOf.cls ≠ "java/lang/invoke/MethodHandle" ∧ y_Values_kindOf.cls ≠ "java/lang/invoke/VarHandle" ∧ (parseMethodDescriptor y_Values_kindOf.desc).map (fun d => d.parameters.length) = some 1 := by decide +kernel
theorem own_Values_numberOf : ∀ w ∈ wo_Values_numberOf, w ∈ wA := j_ch 114 rfl
abbrev w_Values_numberOf : List Cond := .code y_Values_numberOf b_Values_numberOf 2 (some .long) :: wA
theorem pd_Values_numberOf : y_Values_numberOf.cls = R_Values ∧ y_Values_numberOf.cls ≠ "java/lang/invoke/MethodHandle" ∧ y_Values_numberOf.cls ≠ "java/lang/invoke/VarHandle" ∧ (parseMethodDescriptor y_Values_numberOf.desc).map (fun d => d.parameters.length) = some 1 := by decide +kernel
theorem own_Values_startOf : ∀ w ∈ wo_Values_startOf, w ∈ wA := j_ch 115 rfl
abbrev w_Values_startOf : List Cond := .code y_Values_startOf b_Values_startOf 2 (some .int) :: wA
theorem pd_Values_startOf : y_Values_startOf.cls = R_Values ∧ y_Values_startOf.cls ≠ "java/lang/invoke/MethodHandle" ∧ y_Values_startOf.cls ≠ "java/lang/invoke/VarHandle" ∧ (parseMethodDescriptor y_Values_startOf.desc).map (fun d => d.parameters.length) = some 1 := by decide +kernel
theorem own_Values_lengthOf : ∀ w ∈ wo_Values_lengthOf, w ∈ wA := j_ch 116 rfl
abbrev w_Values_lengthOf : List Cond := .code y_Values_lengthOf b_Values_lengthOf 2 (some .int) :: wA
theorem pd_Values_lengthOf : y_Values_lengthOf.cls = R_Values ∧ y_Values_lengthOf.cls ≠ "java/lang/invoke/MethodHandle" ∧ y_Values_lengthOf.cls ≠ "java/lang/invoke/VarHandle" ∧ (parseMethodDescriptor y_Values_lengthOf.desc).map (fun d => d.parameters.length) = some 1 := by decide +kernel
theorem own_Values_rootOf : ∀ w ∈ wo_Values_rootOf, w ∈ wA := j_ch 117 rfl
abbrev w_Values_rootOf : List Cond := .code y_Values_rootOf b_Values_rootOf 2 (some .int) :: wA
theorem pd_Values_rootOf : y_Values_rootOf.cls = R_Values ∧ y_Values_rootOf.cls ≠ "java/lang/invoke/MethodHandle" ∧ y_Values_rootOf.cls ≠ "java/lang/invoke/VarHandle" ∧ (parseMethodDescriptor y_Values_rootOf.desc).map (fun d => d.parameters.length) = some 1 := by decide +kernel
theorem own_Values_bodyOf : ∀ w ∈ wo_Values_bodyOf, w ∈ wA := j_ch 118 rfl
abbrev w_Values_bodyOf : List Cond := .code y_Values_bodyOf b_Values_bodyOf 2 (some .int) :: wA
theorem pd_Values_bodyOf : y_Values_bodyOf.cls = R_Values ∧ y_Values_bodyOf.cls ≠ "java/lang/invoke/MethodHandle" ∧ y_Values_bodyOf.cls ≠ "java/lang/invoke/VarHandle" ∧ (parseMethodDescriptor y_Values_bodyOf.desc).map (fun d => d.parameters.length) = some 1 := by decide +kernel
theorem own_Values_scopeOf : ∀ w ∈ wo_Values_scopeOf, w ∈ wA := j_ch 119 rfl
abbrev w_Values_scopeOf : List Cond := .code y_Values_scopeOf b_Values_scopeOf 2 (some .int) :: wA
theorem pd_Values_scopeOf : y_Values_scopeOf.cls = R_Values ∧ y_Values_scopeOf.cls ≠ "java/lang/invoke/MethodHandle" ∧ y_Values_scopeOf.cls ≠ "java/lang/invoke/VarHandle" ∧ (parseMethodDescriptor y_Values_scopeOf.desc).map (fun d => d.parameters.length) = some 1 := by decide +kernel
theorem own_Values_argumentOf : ∀ w ∈ wo_Values_argumentOf, w ∈ wA := j_ch 120 rfl
abbrev w_Values_argumentOf : List Cond := .code y_Values_argumentOf b_Values_argumentOf 2 (some .int) :: wA
theorem pd_Values_argumentOf : y_Values_argumentOf.cls = R_Values ∧ y_Values_argumentOf.cls ≠ "java/lang/invoke/MethodHandle" ∧ y_Values_argumentOf.cls ≠ "java/lang/invoke/VarHandle" ∧ (parseMethodDescriptor y_Values_argumentOf.desc).map (fun d => d.parameters.length) = some 1 := by decide +kernel
theorem own_Values_beforeOf : ∀ w ∈ wo_Values_beforeOf, w ∈ wA := j_ch 121 rfl
abbrev w_Values_beforeOf : List Cond := .code y_Values_beforeOf b_Values_beforeOf 2 (some .int) :: wA
theorem pd_Values_beforeOf : y_Values_beforeOf.cls = R_Values ∧ y_Values_beforeOf.cls ≠ "java/lang/invoke/MethodHandle" ∧ y_Values_beforeOf.cls ≠ "java/lang/invoke/VarHandle" ∧ (parseMethodDescriptor y_Values_beforeOf.desc).map (fun d => d.parameters.length) = some 1 := by decide +kernel
theorem own_Values_givenTo : ∀ w ∈ wo_Values_givenTo, w ∈ wA := j_ch 122 rfl
abbrev w_Values_givenTo : List Cond := .code y_Values_givenTo b_Values_givenTo 4 (some .int) :: wA
theorem pd_Values_givenTo : y_Values_givenTo.cls = R_Values ∧ y_Values_givenTo.cls ≠ "java/lang/invoke/MethodHandle" ∧ y_Values_givenTo.cls ≠ "java/lang/invoke/VarHandle" ∧ (parseMethodDescriptor y_Values_givenTo.desc).map (fun d => d.parameters.length) = some 1 := by decide +kernel
theorem own_Values_sizeOf : ∀ w ∈ wo_Values_sizeOf, w ∈ wA := j_ch 123 rfl
abbrev w_Values_sizeOf : List Cond := .code y_Values_sizeOf b_Values_sizeOf 2 (some .int) :: wA
theorem pd_Values_sizeOf : y_Values_sizeOf.cls = R_Values ∧ y_Values_sizeOf.cls ≠ "java/lang/invoke/MethodHandle" ∧ y_Values_sizeOf.cls ≠ "java/lang/invoke/VarHandle" ∧ (parseMethodDescriptor y_Values_sizeOf.desc).map (fun d => d.parameters.length) = some 1 := by decide +kernel
theorem own_Values_asNumber : ∀ w ∈ wo_Values_asNumber, w ∈ wA := j_ch 124 rfl
abbrev w_Values_asNumber : List Cond := .code y_Values_asNumber b_Values_asNumber 2 (some .long) :: wA
theorem pd_Values_asNumber : y_Values_asNumber.cls = R_Values ∧ y_Values_asNumber.cls ≠ "java/lang/invoke/MethodHandle" ∧ y_Values_asNumber.cls ≠ "java/lang/invoke/VarHandle" ∧ (parseMethodDescriptor y_Values_asNumber.desc).map (fun d => d.parameters.length) = some 1 := by decide +kernel
theorem own_Values_partOf : ∀ w ∈ wo_Values_partOf, w ∈ wA := j_ch 125 rfl
abbrev w_Values_partOf : List Cond := .code y_Values_partOf b_Values_partOf 2 (some .int) :: wA
theorem pd_Values_partOf : y_Values_partOf.cls = R_Values ∧ y_Values_partOf.cls ≠ "java/lang/invoke/MethodHandle" ∧ y_Values_partOf.cls ≠ "java/lang/invoke/VarHandle" ∧ (parseMethodDescriptor y_Values_partOf.desc).map (fun d => d.parameters.length) = some 1 := by decide +kernel
theorem own_Values_linkOf : ∀ w ∈ wo_Values_linkOf, w ∈ wA := j_ch 126 rfl
abbrev w_Values_linkOf : List Cond := .code y_Values_linkOf b_Values_linkOf 2 (some .int) :: wA
theorem pd_Values_linkOf : y_Values_linkOf.cls = R_Values ∧ y_Values_linkOf.cls ≠ "java/lang/invoke/MethodHandle" ∧ y_Values_linkOf.cls ≠ "java/lang/invoke/VarHandle" ∧ (parseMethodDescriptor y_Values_linkOf.desc).map (fun d => d.parameters.length) = some 1 := by decide +kernel
theorem own_Values_make : ∀ w ∈ wo_Values_make, w ∈ wA := j_ch 127 rfl
abbrev w_Values_make : List Cond := .code y_Values_make b_Values_make 7 (some .int) :: wA
theorem pd_Values_make : y_Values_make.cls = R_Values ∧ y_Values_make.cls ≠ "java/lang/invoke/MethodHandle" ∧ y_Values_make.cls ≠ "java/lang/invoke/VarHandle" ∧ (parseMethodDescriptor y_Values_make.desc).map (fun d => d.parameters.length) = some 4 := by decide +kernel
theorem own_Values_set : ∀ w ∈ wo_Values_set, w ∈ wA := j_ch 128 rfl
abbrev w_Values_set : List Cond := .code y_Values_set b_Values_set 7 none :: wA
theorem pd_Values_set : y_Values_set.cls = R_Values ∧ y_Values_set.cls ≠ "java/lang/invoke/MethodHandle" ∧ y_Values_set.cls ≠ "java/lang/invoke/VarHandle" ∧ (parseMethodDescriptor y_Values_set.desc).map (fun d => d.parameters.length) = some 5 := by decide +kernel
theorem own_Values_takeConstant : ∀ w ∈ wo_Values_takeConstant, w ∈ wA := j_ch 129 rfl
abbrev w_Values_takeConstant : List Cond := .code y_Values_takeConstant b_Values_takeConstant 3 none :: wA
theorem pd_Values_takeConstant : y_Values_takeConstant.cls = R_Values ∧ y_Values_takeConstant.cls ≠ "java/lang/invoke/MethodHandle" ∧ y_Values_takeConstant.cls ≠ "java/lang/invoke/VarHandle" ∧ (parseMethodDescriptor y_Values_takeConstant.desc).map (fun d => d.parameters.length) = some 2 := by decide +kernel
theorem own_Values_takeBytes : ∀ w ∈ wo_Values_takeBytes, w ∈ wA := j_ch 130 rfl
abbrev w_Values_takeBytes : List Cond := .code y_Values_takeBytes b_Values_takeBytes 6 none :: wA
theorem pd_Values_takeBytes : y_Values_takeBytes.cls = R_Values ∧ y_Values_takeBytes.cls ≠ "java/lang/invoke/MethodHandle" ∧ y_Values_takeBytes.cls ≠ "java/lang/invoke/VarHandle" ∧ (parseMethodDescriptor y_Values_takeBytes.desc).map (fun d => d.parameters.length) = some 2 := by decide +kernel
theorem own_Waiting_init : ∀ w ∈ wo_Waiting_init, w ∈ wA := j_ch 131 rfl
abbrev w_Waiting_init : List Cond := .code y_Waiting_init b_Waiting_init 1 none :: wA
theorem pd_Waiting_init : y_Waiting_init.cls = R_Waiting ∧ y_Waiting_init.cls ≠ "java/lang/invoke/MethodHandle" ∧ y_Waiting_init.cls ≠ "java/lang/invoke/VarHandle" ∧ (parseMethodDescriptor y_Waiting_init.desc).map (fun d => d.parameters.length) = some 0 := by decide +kernel
theorem own_Waiting_forget : ∀ w ∈ wo_Waiting_forget, w ∈ wA := j_ch 132 rfl
abbrev w_Waiting_forget : List Cond := .code y_Waiting_forget b_Waiting_forget 1 none :: wA
theorem pd_Waiting_forget : y_Waiting_forget.cls = R_Waiting ∧ y_Waiting_forget.cls ≠ "java/lang/invoke/MethodHandle" ∧ y_Waiting_forget.cls ≠ "java/lang/invoke/VarHandle" ∧ (parseMethodDescriptor y_Waiting_forget.desc).map (fun d => d.parameters.length) = some 0 := by decide +kernel
theorem own_Waiting_most : ∀ w ∈ wo_Waiting_most, w ∈ wA := j_ch 133 rfl
abbrev w_Waiting_most : List Cond := .code y_Waiting_most b_Waiting_most 1 (some .int) :: wA
theorem pd_Waiting_most : y_Waiting_most.cls = R_Waiting ∧ y_Waiting_most.cls ≠ "java/lang/invoke/MethodHandle" ∧ y_Waiting_most.cls ≠ "java/lang/invoke/VarHandle" ∧ (parseMethodDescriptor y_Waiting_most.desc).map (fun d => d.parameters.length) = some 0 := by decide +kernel
theorem own_Waiting_isEmpty : ∀ w ∈ wo_Waiting_isEmpty, w ∈ wA := j_ch 134 rfl
abbrev w_Waiting_isEmpty : List Cond := .code y_Waiting_isEmpty b_Waiting_isEmpty 1 (some .boolean) :: wA
theorem pd_Waiting_isEmpty : y_Waiting_isEmpty.cls = R_Waiting ∧ y_Waiting_isEmpty.cls ≠ "java/lang/invoke/MethodHandle" ∧ y_Waiting_isEmpty.cls ≠ "java/lang/invoke/VarHandle" ∧ (parseMethodDescriptor y_Waiting_isEmpty.desc).map (fun d => d.parameters.length) = some 0 := by decide +kernel
theorem own_Waiting_push : ∀ w ∈ wo_Waiting_push, w ∈ wA := j_ch 135 rfl
abbrev w_Waiting_push : List Cond := .code y_Waiting_push b_Waiting_push 3 (some .boolean) :: wA
theorem pd_Waiting_push : y_Waiting_push.cls = R_Waiting ∧ y_Waiting_push.cls ≠ "java/lang/invoke/MethodHandle" ∧ y_Waiting_push.cls ≠ "java/lang/invoke/VarHandle" ∧ (parseMethodDescriptor y_Waiting_push.desc).map (fun d => d.parameters.length) = some 2 := by decide +kernel
theorem own_Waiting_pop : ∀ w ∈ wo_Waiting_pop, w ∈ wA := j_ch 136 rfl
abbrev w_Waiting_pop : List Cond := .code y_Waiting_pop b_Waiting_pop 1 none :: wA
theorem pd_Waiting_pop : y_Waiting_pop.cls = R_Waiting ∧ y_Waiting_pop.cls ≠ "java/lang/invoke/MethodHandle" ∧ y_Waiting_pop.cls ≠ "java/lang/invoke/VarHandle" ∧ (parseMethodDescriptor y_Waiting_pop.desc).map (fun d => d.parameters.length) = some 0 := by decide +kernel
theorem own_Waiting_lastNode : ∀ w ∈ wo_Waiting_lastNode, w ∈ wA := j_ch 137 rfl
abbrev w_Waiting_lastNode : List Cond := .code y_Waiting_lastNode b_Waiting_lastNode 1 (some .int) :: wA
theorem pd_Waiting_lastNode : y_Waiting_lastNode.cls = R_Waiting ∧ y_Waiting_lastNode.cls ≠ "java/lang/invoke/MethodHandle" ∧ y_Waiting_lastNode.cls ≠ "java/lang/invoke/VarHandle" ∧ (parseMethodDescriptor y_Waiting_lastNode.desc).map (fun d => d.parameters.length) = some 0 := by decide +kernel
theorem own_Waiting_lastScope : ∀ w ∈ wo_Waiting_lastScope, w ∈ wA := j_ch 138 rfl
abbrev w_Waiting_lastScope : List Cond := .code y_Waiting_lastScope b_Waiting_lastScope 1 (some .int) :: wA
theorem pd_Waiting_lastScope : y_Waiting_lastScope.cls = R_Waiting ∧ y_Waiting_lastScope.cls ≠ "java/lang/invoke/MethodHandle" ∧ y_Waiting_lastScope.cls ≠ "java/lang/invoke/VarHandle" ∧ (parseMethodDescriptor y_Waiting_lastScope.desc).map (fun d => d.parameters.length) = some 0 := by decide +kernel
theorem own_Waiting_lastFunction : ∀ w ∈ wo_Waiting_lastFunction, w ∈ wA := j_ch 139 rfl
abbrev w_Waiting_lastFunction : List Cond := .code y_Waiting_lastFunction b_Waiting_lastFunction 1 (some .int) :: wA
theorem pd_Waiting_lastFunction : y_Waiting_lastFunction.cls = R_Waiting ∧ y_Waiting_lastFunction.cls ≠ "java/lang/invoke/MethodHandle" ∧ y_Waiting_lastFunction.cls ≠ "java/lang/invoke/VarHandle" ∧ (parseMethodDescriptor y_Waiting_lastFunction.desc).map (fun d => d.parameters.length) = some 0 := by decide +kernel
theorem own_Waiting_setLastFunction : ∀ w ∈ wo_Waiting_setLastFunction, w ∈ wA := j_ch 140 rfl
abbrev w_Waiting_setLastFunction : List Cond := .code y_Waiting_setLastFunction b_Waiting_setLastFunction 2 none :: wA
theorem pd_Waiting_setLastFunction : y_Waiting_setLastFunction.cls = R_Waiting ∧ y_Waiting_setLastFunction.cls ≠ "java/lang/invoke/MethodHandle" ∧ y_Waiting_setLastFunction.cls ≠ "java/lang/invoke/VarHandle" ∧ (parseMethodDescriptor y_Waiting_setLastFunction.desc).map (fun d => d.parameters.length) = some 1 := by decide +kernel
theorem own_Waiting_has : ∀ w ∈ wo_Waiting_has, w ∈ wA := j_ch 141 rfl
abbrev w_Waiting_has : List Cond := .code y_Waiting_has b_Waiting_has 2 (some .boolean) :: wA
theorem pd_Waiting_has : y_Waiting_has.cls = R_Waiting ∧ y_Waiting_has.cls ≠ "java/lang/invoke/MethodHandle" ∧ y_Waiting_has.cls ≠ "java/lang/invoke/VarHandle" ∧ (parseMethodDescriptor y_Waiting_has.desc).map (fun d => d.parameters.length) = some 1 := by decide +kernel
theorem own_Cek_init : ∀ w ∈ wo_Cek_init, w ∈ wA := j_ch 142 rfl
abbrev w_Cek_init : List Cond := .code y_Cek_init b_Cek_init 1 none :: wA
theorem pd_Cek_init : y_Cek_init.cls = R_Cek ∧ y_Cek_init.cls ≠ "java/lang/invoke/MethodHandle" ∧ y_Cek_init.cls ≠ "java/lang/invoke/VarHandle" ∧ (parseMethodDescriptor y_Cek_init.desc).map (fun d => d.parameters.length) = some 0 := by decide +kernel
theorem own_Cek_clear : ∀ w ∈ wo_Cek_clear, w ∈ wA := j_ch 143 rfl
abbrev w_Cek_clear : List Cond := .code y_Cek_clear b_Cek_clear 1 none :: wA
theorem pd_Cek_clear : y_Cek_clear.cls = R_Cek ∧ y_Cek_clear.cls ≠ "java/lang/invoke/MethodHandle" ∧ y_Cek_clear.cls ≠ "java/lang/invoke/VarHandle" ∧ (parseMethodDescriptor y_Cek_clear.desc).map (fun d => d.parameters.length) = some 0 := by decide +kernel
theorem own_Cek_node : ∀ w ∈ wo_Cek_node, w ∈ wA := j_ch 144 rfl
abbrev w_Cek_node : List Cond := .code y_Cek_node b_Cek_node 4 (some .int) :: wA
theorem pd_Cek_node : y_Cek_node.cls = R_Cek ∧ y_Cek_node.cls ≠ "java/lang/invoke/MethodHandle" ∧ y_Cek_node.cls ≠ "java/lang/invoke/VarHandle" ∧ (parseMethodDescriptor y_Cek_node.desc).map (fun d => d.parameters.length) = some 2 := by decide +kernel
theorem own_Cek_bytes : ∀ w ∈ wo_Cek_bytes, w ∈ wA := j_ch 145 rfl
abbrev w_Cek_bytes : List Cond := .code y_Cek_bytes b_Cek_bytes 4 (some .int) :: wA
theorem pd_Cek_bytes : y_Cek_bytes.cls = R_Cek ∧ y_Cek_bytes.cls ≠ "java/lang/invoke/MethodHandle" ∧ y_Cek_bytes.cls ≠ "java/lang/invoke/VarHandle" ∧ (parseMethodDescriptor y_Cek_bytes.desc).map (fun d => d.parameters.length) = some 2 := by decide +kernel
theorem own_Cek_more : ∀ w ∈ wo_Cek_more, w ∈ wA := j_ch 146 rfl
abbrev w_Cek_more : List Cond := .code y_Cek_more b_Cek_more 4 (some .boolean) :: wA
theorem pd_Cek_more : y_Cek_more.cls = R_Cek ∧ y_Cek_more.cls ≠ "java/lang/invoke/MethodHandle" ∧ y_Cek_more.cls ≠ "java/lang/invoke/VarHandle" ∧ (parseMethodDescriptor y_Cek_more.desc).map (fun d => d.parameters.length) = some 2 := by decide +kernel
theorem own_Cek_drop : ∀ w ∈ wo_Cek_drop, w ∈ wA := j_ch 147 rfl
abbrev w_Cek_drop : List Cond := .code y_Cek_drop b_Cek_drop 1 (some .boolean) :: wA
theorem pd_Cek_drop : y_Cek_drop.cls = R_Cek ∧ y_Cek_drop.cls ≠ "java/lang/invoke/MethodHandle" ∧ y_Cek_drop.cls ≠ "java/lang/invoke/VarHandle" ∧ (parseMethodDescriptor y_Cek_drop.desc).map (fun d => d.parameters.length) = some 0 := by decide +kernel
theorem own_Cek_run : ∀ w ∈ wo_Cek_run, w ∈ wA := j_ch 148 rfl
abbrev w_Cek_run : List Cond := .code y_Cek_run b_Cek_run 3 (some .int) :: wA
theorem pd_Cek_run : y_Cek_run.cls = R_Cek ∧ y_Cek_run.cls ≠ "java/lang/invoke/MethodHandle" ∧ y_Cek_run.cls ≠ "java/lang/invoke/VarHandle" ∧ (parseMethodDescriptor y_Cek_run.desc).map (fun d => d.parameters.length) = some 2 := by decide +kernel
theorem own_Cek_kind : ∀ w ∈ wo_Cek_kind, w ∈ wA := j_ch 149 rfl
abbrev w_Cek_kind : List Cond := .code y_Cek_kind b_Cek_kind 1 (some .int) :: wA
theorem pd_Cek_kind : y_Cek_kind.cls = R_Cek ∧ y_Cek_kind.cls ≠ "java/lang/invoke/MethodHandle" ∧ y_Cek_kind.cls ≠ "java/lang/invoke/VarHandle" ∧ (parseMethodDescriptor y_Cek_kind.desc).map (fun d => d.parameters.length) = some 0 := by decide +kernel
theorem own_Cek_number : ∀ w ∈ wo_Cek_number, w ∈ wA := j_ch 150 rfl
abbrev w_Cek_number : List Cond := .code y_Cek_number b_Cek_number 2 (some .long) :: wA
theorem pd_Cek_number : y_Cek_number.cls = R_Cek ∧ y_Cek_number.cls ≠ "java/lang/invoke/MethodHandle" ∧ y_Cek_number.cls ≠ "java/lang/invoke/VarHandle" ∧ (parseMethodDescriptor y_Cek_number.desc).map (fun d => d.parameters.length) = some 0 := by decide +kernel
theorem own_Cek_byteAt : ∀ w ∈ wo_Cek_byteAt, w ∈ wA := j_ch 151 rfl
abbrev w_Cek_byteAt : List Cond := .code y_Cek_byteAt b_Cek_byteAt 4 (some .int) :: wA
theorem pd_Cek_byteAt : y_Cek_byteAt.cls = R_Cek ∧ y_Cek_byteAt.cls ≠ "java/lang/invoke/MethodHandle" ∧ y_Cek_byteAt.cls ≠ "java/lang/invoke/VarHandle" ∧ (parseMethodDescriptor y_Cek_byteAt.desc).map (fun d => d.parameters.length) = some 1 := by decide +kernel
theorem own_Cek_data : ∀ w ∈ wo_Cek_data, w ∈ wA := j_ch 152 rfl
abbrev w_Cek_data : List Cond := .code y_Cek_data b_Cek_data 6 (some .int) :: wA
theorem pd_Cek_data : y_Cek_data.cls = R_Cek ∧ y_Cek_data.cls ≠ "java/lang/invoke/MethodHandle" ∧ y_Cek_data.cls ≠ "java/lang/invoke/VarHandle" ∧ (parseMethodDescriptor y_Cek_data.desc).map (fun d => d.parameters.length) = some 2 := by decide +kernel
theorem own_Cek_dataValue : ∀ w ∈ wo_Cek_dataValue, w ∈ wA := j_ch 153 rfl
abbrev w_Cek_dataValue : List Cond := .code y_Cek_dataValue b_Cek_dataValue 4 (some .long) :: wA
theorem pd_Cek_dataValue : y_Cek_dataValue.cls = R_Cek ∧ y_Cek_dataValue.cls ≠ "java/lang/invoke/MethodHandle" ∧ y_Cek_dataValue.cls ≠ "java/lang/invoke/VarHandle" ∧ (parseMethodDescriptor y_Cek_dataValue.desc).map (fun d => d.parameters.length) = some 1 := by decide +kernel
theorem own_Cek_dataByte : ∀ w ∈ wo_Cek_dataByte, w ∈ wA := j_ch 154 rfl
abbrev w_Cek_dataByte : List Cond := .code y_Cek_dataByte b_Cek_dataByte 5 (some .int) :: wA
theorem pd_Cek_dataByte : y_Cek_dataByte.cls = R_Cek ∧ y_Cek_dataByte.cls ≠ "java/lang/invoke/MethodHandle" ∧ y_Cek_dataByte.cls ≠ "java/lang/invoke/VarHandle" ∧ (parseMethodDescriptor y_Cek_dataByte.desc).map (fun d => d.parameters.length) = some 2 := by decide +kernel
theorem own_Cek_look : ∀ w ∈ wo_Cek_look, w ∈ wA := j_ch 155 rfl
abbrev w_Cek_look : List Cond := .code y_Cek_look b_Cek_look 2 (some .int) :: wA
theorem pd_Cek_look : y_Cek_look.cls = R_Cek ∧ y_Cek_look.cls ≠ "java/lang/invoke/MethodHandle" ∧ y_Cek_look.cls ≠ "java/lang/invoke/VarHandle" ∧ (parseMethodDescriptor y_Cek_look.desc).map (fun d => d.parameters.length) = some 1 := by decide +kernel
theorem own_Cek_result : ∀ w ∈ wo_Cek_result, w ∈ wA := j_ch 156 rfl
abbrev w_Cek_result : List Cond := .code y_Cek_result b_Cek_result 1 (some .int) :: wA
theorem pd_Cek_result : y_Cek_result.cls = R_Cek ∧ y_Cek_result.cls ≠ "java/lang/invoke/MethodHandle" ∧ y_Cek_result.cls ≠ "java/lang/invoke/VarHandle" ∧ (parseMethodDescriptor y_Cek_result.desc).map (fun d => d.parameters.length) = some 0 := by decide +kernel
theorem own_Cek_placeOfData : ∀ w ∈ wo_Cek_placeOfData, w ∈ wA := j_ch 157 rfl
abbrev w_Cek_placeOfData : List Cond := .code y_Cek_placeOfData b_Cek_placeOfData 5 (some .int) :: wA
theorem pd_Cek_placeOfData : y_Cek_placeOfData.cls = R_Cek ∧ y_Cek_placeOfData.cls ≠ "java/lang/invoke/MethodHandle" ∧ y_Cek_placeOfData.cls ≠ "java/lang/invoke/VarHandle" ∧ (parseMethodDescriptor y_Cek_placeOfData.desc).map (fun d => d.parameters.length) = some 1 := by decide +kernel
theorem own_Mod_init : ∀ w ∈ wo_Mod_init, w ∈ wA := j_ch 158 rfl
abbrev w_Mod_init : List Cond := .code y_Mod_init b_Mod_init 1 none :: wA
theorem pd_Mod_init : y_Mod_init.cls = R_Mod ∧ y_Mod_init.cls ≠ "java/lang/invoke/MethodHandle" ∧ y_Mod_init.cls ≠ "java/lang/invoke/VarHandle" ∧ (parseMethodDescriptor y_Mod_init.desc).map (fun d => d.parameters.length) = some 0 := by decide +kernel
theorem own_Mod_thrown : ∀ w ∈ wo_Mod_thrown, w ∈ wA := j_ch 159 rfl
abbrev w_Mod_thrown : List Cond := .code y_Mod_thrown b_Mod_thrown 1 (some .int) :: wA
theorem pd_Mod_thrown : y_Mod_thrown.cls = R_Mod ∧ y_Mod_thrown.cls ≠ "java/lang/invoke/MethodHandle" ∧ y_Mod_thrown.cls ≠ "java/lang/invoke/VarHandle" ∧ (parseMethodDescriptor y_Mod_thrown.desc).map (fun d => d.parameters.length) = some 0 := by decide +kernel
theorem own_Mod_takes : ∀ w ∈ wo_Mod_takes, w ∈ wA := j_ch 160 rfl
abbrev w_Mod_takes : List Cond := .code y_Mod_takes b_Mod_takes 1 (some .int) :: wA
theorem pd_Mod_takes : y_Mod_takes.cls ≠ "java/lang/invoke/MethodHandle" ∧ y_Mod_takes.cls ≠ "java/lang/invoke/VarHandle" ∧ (parseMethodDescriptor y_Mod_takes.desc).map (fun d => d.parameters.length) = some 1 := by decide +kernel
theorem own_Mod_isArg : ∀ w ∈ wo_Mod_isArg, w ∈ wA := j_ch 161 rfl
abbrev w_Mod_isArg : List Cond := .code y_Mod_isArg b_Mod_isArg 3 (some .boolean) :: wA
theorem pd_Mod_isArg : y_Mod_isArg.cls ≠ "java/lang/invoke/MethodHandle" ∧ y_Mod_isArg.cls ≠ "java/lang/invoke/VarHandle" ∧ (parseMethodDescriptor y_Mod_isArg.desc).map (fun d => d.parameters.length) = some 2 := by decide +kernel
theorem own_Mod_clear : ∀ w ∈ wo_Mod_clear, w ∈ wA := j_ch 162 rfl
abbrev w_Mod_clear : List Cond := .code y_Mod_clear b_Mod_clear 1 none :: wA
theorem pd_Mod_clear : y_Mod_clear.cls = R_Mod ∧ y_Mod_clear.cls ≠ "java/lang/invoke/MethodHandle" ∧ y_Mod_clear.cls ≠ "java/lang/invoke/VarHandle" ∧ (parseMethodDescriptor y_Mod_clear.desc).map (fun d => d.parameters.length) = some 0 := by decide +kernel
theorem own_Mod_node : ∀ w ∈ wo_Mod_node, w ∈ wA := j_ch 163 rfl
abbrev w_Mod_node : List Cond := .code y_Mod_node b_Mod_node 5 (some .int) :: wA
theorem pd_Mod_node : y_Mod_node.cls = R_Mod ∧ y_Mod_node.cls ≠ "java/lang/invoke/MethodHandle" ∧ y_Mod_node.cls ≠ "java/lang/invoke/VarHandle" ∧ (parseMethodDescriptor y_Mod_node.desc).map (fun d => d.parameters.length) = some 2 := by decide +kernel
theorem own_Mod_append : ∀ w ∈ wo_Mod_append, w ∈ wA := j_ch 164 rfl
abbrev w_Mod_append : List Cond := .code y_Mod_append b_Mod_append 6 none :: wA
theorem pd_Mod_append : y_Mod_append.cls = R_Mod ∧ y_Mod_append.cls ≠ "java/lang/invoke/MethodHandle" ∧ y_Mod_append.cls ≠ "java/lang/invoke/VarHandle" ∧ (parseMethodDescriptor y_Mod_append.desc).map (fun d => d.parameters.length) = some 3 := by decide +kernel
theorem own_Mod_bytes : ∀ w ∈ wo_Mod_bytes, w ∈ wA := j_ch 165 rfl
abbrev w_Mod_bytes : List Cond := .code y_Mod_bytes b_Mod_bytes 5 (some .int) :: wA
theorem pd_Mod_bytes : y_Mod_bytes.cls = R_Mod ∧ y_Mod_bytes.cls ≠ "java/lang/invoke/MethodHandle" ∧ y_Mod_bytes.cls ≠ "java/lang/invoke/VarHandle" ∧ (parseMethodDescriptor y_Mod_bytes.desc).map (fun d => d.parameters.length) = some 2 := by decide +kernel
theorem own_Mod_more : ∀ w ∈ wo_Mod_more, w ∈ wA := j_ch 166 rfl
abbrev w_Mod_more : List Cond := .code y_Mod_more b_Mod_more 5 (some .boolean) :: wA
theorem pd_Mod_more : y_Mod_more.cls = R_Mod ∧ y_Mod_more.cls ≠ "java/lang/invoke/MethodHandle" ∧ y_Mod_more.cls ≠ "java/lang/invoke/VarHandle" ∧ (parseMethodDescriptor y_Mod_more.desc).map (fun d => d.parameters.length) = some 2 := by decide +kernel
theorem own_Mod_drop : ∀ w ∈ wo_Mod_drop, w ∈ wA := j_ch 167 rfl
abbrev w_Mod_drop : List Cond := .code y_Mod_drop b_Mod_drop 1 (some .boolean) :: wA
theorem pd_Mod_drop : y_Mod_drop.cls = R_Mod ∧ y_Mod_drop.cls ≠ "java/lang/invoke/MethodHandle" ∧ y_Mod_drop.cls ≠ "java/lang/invoke/VarHandle" ∧ (parseMethodDescriptor y_Mod_drop.desc).map (fun d => d.parameters.length) = some 0 := by decide +kernel
theorem own_Mod_lacking : ∀ w ∈ wo_Mod_lacking, w ∈ wA := j_ch 168 rfl
abbrev w_Mod_lacking : List Cond := .code y_Mod_lacking b_Mod_lacking 6 (some .int) :: wA
theorem pd_Mod_lacking : y_Mod_lacking.cls = R_Mod ∧ y_Mod_lacking.cls ≠ "java/lang/invoke/MethodHandle" ∧ y_Mod_lacking.cls ≠ "java/lang/invoke/VarHandle" ∧ (parseMethodDescriptor y_Mod_lacking.desc).map (fun d => d.parameters.length) = some 0 := by decide +kernel
theorem own_Mod_make : ∀ w ∈ wo_Mod_make, w ∈ wA := j_ch 169 rfl
abbrev w_Mod_make : List Cond := .code y_Mod_make b_Mod_make 4 (some .int) :: wA
theorem pd_Mod_make : y_Mod_make.cls = R_Mod ∧ y_Mod_make.cls ≠ "java/lang/invoke/MethodHandle" ∧ y_Mod_make.cls ≠ "java/lang/invoke/VarHandle" ∧ (parseMethodDescriptor y_Mod_make.desc).map (fun d => d.parameters.length) = some 2 := by decide +kernel
theorem own_Mod_truth : ∀ w ∈ wo_Mod_truth, w ∈ wA := j_ch 170 rfl
abbrev w_Mod_truth : List Cond := .code y_Mod_truth b_Mod_truth 2 (some .int) :: wA
theorem pd_Mod_truth : y_Mod_truth.cls = R_Mod ∧ y_Mod_truth.cls ≠ "java/lang/invoke/MethodHandle" ∧ y_Mod_truth.cls ≠ "java/lang/invoke/VarHandle" ∧ (parseMethodDescriptor y_Mod_truth.desc).map (fun d => d.parameters.length) = some 1 := by decide +kernel
theorem own_Mod_makeBytes : ∀ w ∈ wo_Mod_makeBytes, w ∈ wA := j_ch 171 rfl
abbrev w_Mod_makeBytes : List Cond := .code y_Mod_makeBytes b_Mod_makeBytes 3 (some .int) :: wA
theorem pd_Mod_makeBytes : y_Mod_makeBytes.cls = R_Mod ∧ y_Mod_makeBytes.cls ≠ "java/lang/invoke/MethodHandle" ∧ y_Mod_makeBytes.cls ≠ "java/lang/invoke/VarHandle" ∧ (parseMethodDescriptor y_Mod_makeBytes.desc).map (fun d => d.parameters.length) = some 1 := by decide +kernel
theorem own_Mod_putText : ∀ w ∈ wo_Mod_putText, w ∈ wA := j_ch 172 rfl
abbrev w_Mod_putText : List Cond := .code y_Mod_putText b_Mod_putText 2 none :: wA
theorem pd_Mod_putText : y_Mod_putText.cls = R_Mod ∧ y_Mod_putText.cls ≠ "java/lang/invoke/MethodHandle" ∧ y_Mod_putText.cls ≠ "java/lang/invoke/VarHandle" ∧ (parseMethodDescriptor y_Mod_putText.desc).map (fun d => d.parameters.length) = some 1 := by decide +kernel
theorem own_Mod_byteOf : ∀ w ∈ wo_Mod_byteOf, w ∈ wA := j_ch 173 rfl
abbrev w_Mod_byteOf : List Cond := .code y_Mod_byteOf b_Mod_byteOf 3 (some .int) :: wA
theorem pd_Mod_byteOf : y_Mod_byteOf.cls = R_Mod ∧ y_Mod_byteOf.cls ≠ "java/lang/invoke/MethodHandle" ∧ y_Mod_byteOf.cls ≠ "java/lang/invoke/VarHandle" ∧ (parseMethodDescriptor y_Mod_byteOf.desc).map (fun d => d.parameters.length) = some 2 := by decide +kernel
theorem own_Mod_putData : ∀ w ∈ wo_Mod_putData, w ∈ wA := j_ch 174 rfl
abbrev w_Mod_putData : List Cond := .code y_Mod_putData b_Mod_putData 6 none :: wA
theorem pd_Mod_putData : y_Mod_putData.cls = R_Mod ∧ y_Mod_putData.cls ≠ "java/lang/invoke/MethodHandle" ∧ y_Mod_putData.cls ≠ "java/lang/invoke/VarHandle" ∧ (parseMethodDescriptor y_Mod_putData.desc).map (fun d => d.parameters.length) = some 4 := by decide +kernel
theorem own_Mod_makeData : ∀ w ∈ wo_Mod_makeData, w ∈ wA := j_ch 175 rfl
abbrev w_Mod_makeData : List Cond := .code y_Mod_makeData b_Mod_makeData 3 (some .int) :: wA
theorem pd_Mod_makeData : y_Mod_makeData.cls = R_Mod ∧ y_Mod_makeData.cls ≠ "java/lang/invoke/MethodHandle" ∧ y_Mod_makeData.cls ≠ "java/lang/invoke/VarHandle" ∧ (parseMethodDescriptor y_Mod_makeData.desc).map (fun d => d.parameters.length) = some 1 := by decide +kernel
theorem own_Mod_copyData : ∀ w ∈ wo_Mod_copyData, w ∈ wA := j_ch 176 rfl
abbrev w_Mod_copyData : List Cond := .code y_Mod_copyData b_Mod_copyData 4 none :: wA
theorem pd_Mod_copyData : y_Mod_copyData.cls = R_Mod ∧ y_Mod_copyData.cls ≠ "java/lang/invoke/MethodHandle" ∧ y_Mod_copyData.cls ≠ "java/lang/invoke/VarHandle" ∧ (parseMethodDescriptor y_Mod_copyData.desc).map (fun d => d.parameters.length) = some 2 := by decide +kernel
theorem own_Mod_within : ∀ w ∈ wo_Mod_within, w ∈ wA := j_ch 177 rfl
abbrev w_Mod_within : List Cond := .code y_Mod_within b_Mod_within 2 (some .int) :: wA
theorem pd_Mod_within : y_Mod_within.cls = R_Mod ∧ y_Mod_within.cls ≠ "java/lang/invoke/MethodHandle" ∧ y_Mod_within.cls ≠ "java/lang/invoke/VarHandle" ∧ (parseMethodDescriptor y_Mod_within.desc).map (fun d => d.parameters.length) = some 1 := by decide +kernel
theorem own_Mod_sizeOfData : ∀ w ∈ wo_Mod_sizeOfData, w ∈ wA := j_ch 178 rfl
abbrev w_Mod_sizeOfData : List Cond := .code y_Mod_sizeOfData b_Mod_sizeOfData 4 (some .int) :: wA
theorem pd_Mod_sizeOfData : y_Mod_sizeOfData.cls = R_Mod ∧ y_Mod_sizeOfData.cls ≠ "java/lang/invoke/MethodHandle" ∧ y_Mod_sizeOfData.cls ≠ "java/lang/invoke/VarHandle" ∧ (parseMethodDescriptor y_Mod_sizeOfData.desc).map (fun d => d.parameters.length) = some 1 := by decide +kernel
theorem own_Mod_depthOfData : ∀ w ∈ wo_Mod_depthOfData, w ∈ wA := j_ch 179 rfl
abbrev w_Mod_depthOfData : List Cond := .code y_Mod_depthOfData b_Mod_depthOfData 6 (some .int) :: wA
theorem pd_Mod_depthOfData : y_Mod_depthOfData.cls = R_Mod ∧ y_Mod_depthOfData.cls ≠ "java/lang/invoke/MethodHandle" ∧ y_Mod_depthOfData.cls ≠ "java/lang/invoke/VarHandle" ∧ (parseMethodDescriptor y_Mod_depthOfData.desc).map (fun d => d.parameters.length) = some 2 := by decide +kernel
theorem own_Mod_bytesOfData : ∀ w ∈ wo_Mod_bytesOfData, w ∈ wA := j_ch 180 rfl
abbrev w_Mod_bytesOfData : List Cond := .code y_Mod_bytesOfData b_Mod_bytesOfData 5 (some .int) :: wA
theorem pd_Mod_bytesOfData : y_Mod_bytesOfData.cls = R_Mod ∧ y_Mod_bytesOfData.cls ≠ "java/lang/invoke/MethodHandle" ∧ y_Mod_bytesOfData.cls ≠ "java/lang/invoke/VarHandle" ∧ (parseMethodDescriptor y_Mod_bytesOfData.desc).map (fun d => d.parameters.length) = some 2 := by decide +kernel
theorem own_Mod_sizeOf : ∀ w ∈ wo_Mod_sizeOf, w ∈ wA := j_ch 181 rfl
abbrev w_Mod_sizeOf : List Cond := .code y_Mod_sizeOf b_Mod_sizeOf 2 (some .int) :: wA
theorem pd_Mod_sizeOf : y_Mod_sizeOf.cls = R_Mod ∧ y_Mod_sizeOf.cls ≠ "java/lang/invoke/MethodHandle" ∧ y_Mod_sizeOf.cls ≠ "java/lang/invoke/VarHandle" ∧ (parseMethodDescriptor y_Mod_sizeOf.desc).map (fun d => d.parameters.length) = some 1 := by decide +kernel
theorem own_Mod_arity : ∀ w ∈ wo_Mod_arity, w ∈ wA := j_ch 182 rfl
abbrev w_Mod_arity : List Cond := .code y_Mod_arity b_Mod_arity 1 (some .int) :: wA
theorem pd_Mod_arity : y_Mod_arity.cls ≠ "java/lang/invoke/MethodHandle" ∧ y_Mod_arity.cls ≠ "java/lang/invoke/VarHandle" ∧ (parseMethodDescriptor y_Mod_arity.desc).map (fun d => d.parameters.length) = some 1 := by decide +kernel
theorem own_Mod_fail : ∀ w ∈ wo_Mod_fail, w ∈ wA := j_ch 183 rfl
abbrev w_Mod_fail : List Cond := .code y_Mod_fail b_Mod_fail 2 (some .int) :: wA
theorem pd_Mod_fail : y_Mod_fail.cls = R_Mod ∧ y_Mod_fail.cls ≠ "java/lang/invoke/MethodHandle" ∧ y_Mod_fail.cls ≠ "java/lang/invoke/VarHandle" ∧ (parseMethodDescriptor y_Mod_fail.desc).map (fun d => d.parameters.length) = some 1 := by decide +kernel
theorem own_Mod_isKind : ∀ w ∈ wo_Mod_isKind, w ∈ wA := j_ch 184 rfl
abbrev w_Mod_isKind : List Cond := .code y_Mod_isKind b_Mod_isKind 3 (some .boolean) :: wA
theorem pd_Mod_isKind : y_Mod_isKind.cls = R_Mod ∧ y_Mod_isKind.cls ≠ "java/lang/invoke/MethodHandle" ∧ y_Mod_isKind.cls ≠ "java/lang/invoke/VarHandle" ∧ (parseMethodDescriptor y_Mod_isKind.desc).map (fun d => d.parameters.length) = some 2 := by decide +kernel
theorem own_Mod_isForm : ∀ w ∈ wo_Mod_isForm, w ∈ wA := j_ch 185 rfl
abbrev w_Mod_isForm : List Cond := .code y_Mod_isForm b_Mod_isForm 3 (some .boolean) :: wA
theorem pd_Mod_isForm : y_Mod_isForm.cls = R_Mod ∧ y_Mod_isForm.cls ≠ "java/lang/invoke/MethodHandle" ∧ y_Mod_isForm.cls ≠ "java/lang/invoke/VarHandle" ∧ (parseMethodDescriptor y_Mod_isForm.desc).map (fun d => d.parameters.length) = some 2 := by decide +kernel
theorem own_Mod_fits : ∀ w ∈ wo_Mod_fits, w ∈ wA := j_ch 186 rfl
abbrev w_Mod_fits : List Cond := .code y_Mod_fits b_Mod_fits 2 (some .boolean) :: wA
theorem pd_Mod_fits : y_Mod_fits.cls = R_Mod ∧ y_Mod_fits.cls ≠ "java/lang/invoke/MethodHandle" ∧ y_Mod_fits.cls ≠ "java/lang/invoke/VarHandle" ∧ (parseMethodDescriptor y_Mod_fits.desc).map (fun d => d.parameters.length) = some 1 := by decide +kernel
theorem own_Mod_isProduct : ∀ w ∈ wo_Mod_isProduct, w ∈ wA := j_ch 187 rfl
abbrev w_Mod_isProduct : List Cond := .code y_Mod_isProduct b_Mod_isProduct 6 (some .boolean) :: wA
theorem pd_Mod_isProduct : y_Mod_isProduct.cls ≠ "java/lang/invoke/MethodHandle" ∧ y_Mod_isProduct.cls ≠ "java/lang/invoke/VarHandle" ∧ (parseMethodDescriptor y_Mod_isProduct.desc).map (fun d => d.parameters.length) = some 2 := by decide +kernel
theorem own_Mod_sums : ∀ w ∈ wo_Mod_sums, w ∈ wA := j_ch 188 rfl
abbrev w_Mod_sums : List Cond := .code y_Mod_sums b_Mod_sums 7 (some .int) :: wA
theorem pd_Mod_sums : y_Mod_sums.cls = R_Mod ∧ y_Mod_sums.cls ≠ "java/lang/invoke/MethodHandle" ∧ y_Mod_sums.cls ≠ "java/lang/invoke/VarHandle" ∧ (parseMethodDescriptor y_Mod_sums.desc).map (fun d => d.parameters.length) = some 3 := by decide +kernel
theorem own_Mod_order : ∀ w ∈ wo_Mod_order, w ∈ wA := j_ch 189 rfl
abbrev w_Mod_order : List Cond := .code y_Mod_order b_Mod_order 4 (some .int) :: wA
theorem pd_Mod_order : y_Mod_order.cls = R_Mod ∧ y_Mod_order.cls ≠ "java/lang/invoke/MethodHandle" ∧ y_Mod_order.cls ≠ "java/lang/invoke/VarHandle" ∧ (parseMethodDescriptor y_Mod_order.desc).map (fun d => d.parameters.length) = some 2 := by decide +kernel
theorem own_Mod_ofBytes : ∀ w ∈ wo_Mod_ofBytes, w ∈ wA := j_ch 190 rfl
abbrev w_Mod_ofBytes : List Cond := .code y_Mod_ofBytes b_Mod_ofBytes 6 (some .int) :: wA
theorem pd_Mod_ofBytes : y_Mod_ofBytes.cls = R_Mod ∧ y_Mod_ofBytes.cls ≠ "java/lang/invoke/MethodHandle" ∧ y_Mod_ofBytes.cls ≠ "java/lang/invoke/VarHandle" ∧ (parseMethodDescriptor y_Mod_ofBytes.desc).map (fun d => d.parameters.length) = some 1 := by decide +kernel
theorem own_Mod_sameData : ∀ w ∈ wo_Mod_sameData, w ∈ wA := j_ch 191 rfl
abbrev w_Mod_sameData : List Cond := .code y_Mod_sameData b_Mod_sameData 8 (some .boolean) :: wA
theorem pd_Mod_sameData : y_Mod_sameData.cls = R_Mod ∧ y_Mod_sameData.cls ≠ "java/lang/invoke/MethodHandle" ∧ y_Mod_sameData.cls ≠ "java/lang/invoke/VarHandle" ∧ (parseMethodDescriptor y_Mod_sameData.desc).map (fun d => d.parameters.length) = some 2 := by decide +kernel
theorem own_Mod_outer : ∀ w ∈ wo_Mod_outer, w ∈ wA := j_ch 192 rfl
abbrev w_Mod_outer : List Cond := .code y_Mod_outer b_Mod_outer 7 (some .int) :: wA
theorem pd_Mod_outer : y_Mod_outer.cls = R_Mod ∧ y_Mod_outer.cls ≠ "java/lang/invoke/MethodHandle" ∧ y_Mod_outer.cls ≠ "java/lang/invoke/VarHandle" ∧ (parseMethodDescriptor y_Mod_outer.desc).map (fun d => d.parameters.length) = some 4 := by decide +kernel
theorem own_Mod_ofData : ∀ w ∈ wo_Mod_ofData, w ∈ wA := j_ch 193 rfl
abbrev w_Mod_ofData : List Cond := .code y_Mod_ofData b_Mod_ofData 6 (some .int) :: wA
theorem pd_Mod_ofData : y_Mod_ofData.cls = R_Mod ∧ y_Mod_ofData.cls ≠ "java/lang/invoke/MethodHandle" ∧ y_Mod_ofData.cls ≠ "java/lang/invoke/VarHandle" ∧ (parseMethodDescriptor y_Mod_ofData.desc).map (fun d => d.parameters.length) = some 1 := by decide +kernel
theorem own_Mod_ofLists : ∀ w ∈ wo_Mod_ofLists, w ∈ wA := j_ch 194 rfl
abbrev w_Mod_ofLists : List Cond := .code y_Mod_ofLists b_Mod_ofLists 8 (some .int) :: wA
theorem pd_Mod_ofLists : y_Mod_ofLists.cls = R_Mod ∧ y_Mod_ofLists.cls ≠ "java/lang/invoke/MethodHandle" ∧ y_Mod_ofLists.cls ≠ "java/lang/invoke/VarHandle" ∧ (parseMethodDescriptor y_Mod_ofLists.desc).map (fun d => d.parameters.length) = some 4 := by decide +kernel
theorem own_Mod_does : ∀ w ∈ wo_Mod_does, w ∈ wA := j_ch 195 rfl
abbrev w_Mod_does : List Cond := .code y_Mod_does b_Mod_does 2 (some .int) :: wA
theorem pd_Mod_does : y_Mod_does.cls = R_Mod ∧ y_Mod_does.cls ≠ "java/lang/invoke/MethodHandle" ∧ y_Mod_does.cls ≠ "java/lang/invoke/VarHandle" ∧ (parseMethodDescriptor y_Mod_does.desc).map (fun d => d.parameters.length) = some 1 := by decide +kernel
theorem own_Mod_step : ∀ w ∈ wo_Mod_step, w ∈ wA := j_ch 196 rfl
abbrev w_Mod_step : List Cond := .code y_Mod_step b_Mod_step 3 (some .boolean) :: wA
theorem pd_Mod_step : y_Mod_step.cls = R_Mod ∧ y_Mod_step.cls ≠ "java/lang/invoke/MethodHandle" ∧ y_Mod_step.cls ≠ "java/lang/invoke/VarHandle" ∧ (parseMethodDescriptor y_Mod_step.desc).map (fun d => d.parameters.length) = some 1 := by decide +kernel
theorem own_Mod_keep : ∀ w ∈ wo_Mod_keep, w ∈ wA := j_ch 197 rfl
abbrev w_Mod_keep : List Cond := .code y_Mod_keep b_Mod_keep 3 (some .boolean) :: wA
theorem pd_Mod_keep : y_Mod_keep.cls = R_Mod ∧ y_Mod_keep.cls ≠ "java/lang/invoke/MethodHandle" ∧ y_Mod_keep.cls ≠ "java/lang/invoke/VarHandle" ∧ (parseMethodDescriptor y_Mod_keep.desc).map (fun d => d.parameters.length) = some 1 := by decide +kernel
theorem own_Mod_comes : ∀ w ∈ wo_Mod_comes, w ∈ wA := j_ch 198 rfl
abbrev w_Mod_comes : List Cond := .code y_Mod_comes b_Mod_comes 2 none :: wA
theorem pd_Mod_comes : y_Mod_comes.cls = R_Mod ∧ y_Mod_comes.cls ≠ "java/lang/invoke/MethodHandle" ∧ y_Mod_comes.cls ≠ "java/lang/invoke/VarHandle" ∧ (parseMethodDescriptor y_Mod_comes.desc).map (fun d => d.parameters.length) = some 1 := by decide +kernel
theorem own_Mod_wait : ∀ w ∈ wo_Mod_wait, w ∈ wA := j_ch 199 rfl
abbrev w_Mod_wait : List Cond := .code y_Mod_wait b_Mod_wait 4 none :: wA
theorem pd_Mod_wait : y_Mod_wait.cls = R_Mod ∧ y_Mod_wait.cls ≠ "java/lang/invoke/MethodHandle" ∧ y_Mod_wait.cls ≠ "java/lang/invoke/VarHandle" ∧ (parseMethodDescriptor y_Mod_wait.desc).map (fun d => d.parameters.length) = some 3 := by decide +kernel
theorem own_Mod_constant : ∀ w ∈ wo_Mod_constant, w ∈ wA := j_ch 200 rfl
abbrev w_Mod_constant : List Cond := .code y_Mod_constant b_Mod_constant 4 none :: wA
theorem pd_Mod_constant : y_Mod_constant.cls = R_Mod ∧ y_Mod_constant.cls ≠ "java/lang/invoke/MethodHandle" ∧ y_Mod_constant.cls ≠ "java/lang/invoke/VarHandle" ∧ (parseMethodDescriptor y_Mod_constant.desc).map (fun d => d.parameters.length) = some 1 := by decide +kernel
theorem own_Mod_evaluate : ∀ w ∈ wo_Mod_evaluate, w ∈ wA := j_ch 201 rfl
abbrev w_Mod_evaluate : List Cond := .code y_Mod_evaluate b_Mod_evaluate 4 none :: wA
theorem pd_Mod_evaluate : y_Mod_evaluate.cls = R_Mod ∧ y_Mod_evaluate.cls ≠ "java/lang/invoke/MethodHandle" ∧ y_Mod_evaluate.cls ≠ "java/lang/invoke/VarHandle" ∧ (parseMethodDescriptor y_Mod_evaluate.desc).map (fun d => d.parameters.length) = some 0 := by decide +kernel
theorem own_Mod_callFunction : ∀ w ∈ wo_Mod_callFunction, w ∈ wA := j_ch 202 rfl
abbrev w_Mod_callFunction : List Cond := .code y_Mod_callFunction b_Mod_callFunction 5 none :: wA
theorem pd_Mod_callFunction : y_Mod_callFunction.cls = R_Mod ∧ y_Mod_callFunction.cls ≠ "java/lang/invoke/MethodHandle" ∧ y_Mod_callFunction.cls ≠ "java/lang/invoke/VarHandle" ∧ (parseMethodDescriptor y_Mod_callFunction.desc).map (fun d => d.parameters.length) = some 2 := by decide +kernel
theorem own_Mod_callBuiltin : ∀ w ∈ wo_Mod_callBuiltin, w ∈ wA := j_ch 203 rfl
abbrev w_Mod_callBuiltin : List Cond := .code y_Mod_callBuiltin b_Mod_callBuiltin 7 none :: wA
theorem pd_Mod_callBuiltin : y_Mod_callBuiltin.cls = R_Mod ∧ y_Mod_callBuiltin.cls ≠ "java/lang/invoke/MethodHandle" ∧ y_Mod_callBuiltin.cls ≠ "java/lang/invoke/VarHandle" ∧ (parseMethodDescriptor y_Mod_callBuiltin.desc).map (fun d => d.parameters.length) = some 2 := by decide +kernel
theorem own_Mod_answered : ∀ w ∈ wo_Mod_answered, w ∈ wA := j_ch 204 rfl
abbrev w_Mod_answered : List Cond := .code y_Mod_answered b_Mod_answered 4 none :: wA
theorem pd_Mod_answered : y_Mod_answered.cls = R_Mod ∧ y_Mod_answered.cls ≠ "java/lang/invoke/MethodHandle" ∧ y_Mod_answered.cls ≠ "java/lang/invoke/VarHandle" ∧ (parseMethodDescriptor y_Mod_answered.desc).map (fun d => d.parameters.length) = some 0 := by decide +kernel
theorem own_Mod_run : ∀ w ∈ wo_Mod_run, w ∈ wA := j_ch 205 rfl
abbrev w_Mod_run : List Cond := .code y_Mod_run b_Mod_run 5 (some .int) :: wA
theorem pd_Mod_run : y_Mod_run.cls = R_Mod ∧ y_Mod_run.cls ≠ "java/lang/invoke/MethodHandle" ∧ y_Mod_run.cls ≠ "java/lang/invoke/VarHandle" ∧ (parseMethodDescriptor y_Mod_run.desc).map (fun d => d.parameters.length) = some 2 := by decide +kernel
theorem own_Mod_kind : ∀ w ∈ wo_Mod_kind, w ∈ wA := j_ch 206 rfl
abbrev w_Mod_kind : List Cond := .code y_Mod_kind b_Mod_kind 1 (some .int) :: wA
theorem pd_Mod_kind : y_Mod_kind.cls = R_Mod ∧ y_Mod_kind.cls ≠ "java/lang/invoke/MethodHandle" ∧ y_Mod_kind.cls ≠ "java/lang/invoke/VarHandle" ∧ (parseMethodDescriptor y_Mod_kind.desc).map (fun d => d.parameters.length) = some 0 := by decide +kernel
theorem own_Mod_number : ∀ w ∈ wo_Mod_number, w ∈ wA := j_ch 207 rfl
abbrev w_Mod_number : List Cond := .code y_Mod_number b_Mod_number 2 (some .long) :: wA
theorem pd_Mod_number : y_Mod_number.cls = R_Mod ∧ y_Mod_number.cls ≠ "java/lang/invoke/MethodHandle" ∧ y_Mod_number.cls ≠ "java/lang/invoke/VarHandle" ∧ (parseMethodDescriptor y_Mod_number.desc).map (fun d => d.parameters.length) = some 0 := by decide +kernel
theorem own_Mod_byteAt : ∀ w ∈ wo_Mod_byteAt, w ∈ wA := j_ch 208 rfl
abbrev w_Mod_byteAt : List Cond := .code y_Mod_byteAt b_Mod_byteAt 2 (some .int) :: wA
theorem pd_Mod_byteAt : y_Mod_byteAt.cls = R_Mod ∧ y_Mod_byteAt.cls ≠ "java/lang/invoke/MethodHandle" ∧ y_Mod_byteAt.cls ≠ "java/lang/invoke/VarHandle" ∧ (parseMethodDescriptor y_Mod_byteAt.desc).map (fun d => d.parameters.length) = some 1 := by decide +kernel
theorem own_Mod_dataAt : ∀ w ∈ wo_Mod_dataAt, w ∈ wA := j_ch 209 rfl
abbrev w_Mod_dataAt : List Cond := .code y_Mod_dataAt b_Mod_dataAt 2 (some .int) :: wA
theorem pd_Mod_dataAt : y_Mod_dataAt.cls = R_Mod ∧ y_Mod_dataAt.cls ≠ "java/lang/invoke/MethodHandle" ∧ y_Mod_dataAt.cls ≠ "java/lang/invoke/VarHandle" ∧ (parseMethodDescriptor y_Mod_dataAt.desc).map (fun d => d.parameters.length) = some 1 := by decide +kernel
theorem own_Mod_data : ∀ w ∈ wo_Mod_data, w ∈ wA := j_ch 210 rfl
abbrev w_Mod_data : List Cond := .code y_Mod_data b_Mod_data 4 (some .int) :: wA
theorem pd_Mod_data : y_Mod_data.cls = R_Mod ∧ y_Mod_data.cls ≠ "java/lang/invoke/MethodHandle" ∧ y_Mod_data.cls ≠ "java/lang/invoke/VarHandle" ∧ (parseMethodDescriptor y_Mod_data.desc).map (fun d => d.parameters.length) = some 2 := by decide +kernel
theorem own_Mod_dataValue : ∀ w ∈ wo_Mod_dataValue, w ∈ wA := j_ch 211 rfl
abbrev w_Mod_dataValue : List Cond := .code y_Mod_dataValue b_Mod_dataValue 3 (some .long) :: wA
theorem pd_Mod_dataValue : y_Mod_dataValue.cls = R_Mod ∧ y_Mod_dataValue.cls ≠ "java/lang/invoke/MethodHandle" ∧ y_Mod_dataValue.cls ≠ "java/lang/invoke/VarHandle" ∧ (parseMethodDescriptor y_Mod_dataValue.desc).map (fun d => d.parameters.length) = some 1 := by decide +kernel
theorem own_Mod_dataByte : ∀ w ∈ wo_Mod_dataByte, w ∈ wA := j_ch 212 rfl
abbrev w_Mod_dataByte : List Cond := .code y_Mod_dataByte b_Mod_dataByte 4 (some .int) :: wA
theorem pd_Mod_dataByte : y_Mod_dataByte.cls = R_Mod ∧ y_Mod_dataByte.cls ≠ "java/lang/invoke/MethodHandle" ∧ y_Mod_dataByte.cls ≠ "java/lang/invoke/VarHandle" ∧ (parseMethodDescriptor y_Mod_dataByte.desc).map (fun d => d.parameters.length) = some 2 := by decide +kernel
theorem own_Mod_look : ∀ w ∈ wo_Mod_look, w ∈ wA := j_ch 213 rfl
abbrev w_Mod_look : List Cond := .code y_Mod_look b_Mod_look 2 (some .int) :: wA
theorem pd_Mod_look : y_Mod_look.cls = R_Mod ∧ y_Mod_look.cls ≠ "java/lang/invoke/MethodHandle" ∧ y_Mod_look.cls ≠ "java/lang/invoke/VarHandle" ∧ (parseMethodDescriptor y_Mod_look.desc).map (fun d => d.parameters.length) = some 1 := by decide +kernel
theorem own_Math_floorDiv : ∀ w ∈ wo_Math_floorDiv, w ∈ wA := j_ch 214 rfl
abbrev w_Math_floorDiv : List Cond := .code y_Math_floorDiv b_Math_floorDiv 6 (some .long) :: wA
theorem pd_Math_floorDiv : y_Math_floorDiv.cls ≠ "java/lang/invoke/MethodHandle" ∧ y_Math_floorDiv.cls ≠ "java/lang/invoke/VarHandle" ∧ (parseMethodDescriptor y_Math_floorDiv.desc).map (fun d => d.parameters.length) = some 2 := by decide +kernel
theorem own_Math_floorMod : ∀ w ∈ wo_Math_floorMod, w ∈ wA := j_ch 215 rfl
abbrev w_Math_floorMod : List Cond := .code y_Math_floorMod b_Math_floorMod 6 (some .long) :: wA
theorem pd_Math_floorMod : y_Math_floorMod.cls ≠ "java/lang/invoke/MethodHandle" ∧ y_Math_floorMod.cls ≠ "java/lang/invoke/VarHandle" ∧ (parseMethodDescriptor y_Math_floorMod.desc).map (fun d => d.parameters.length) = some 2 := by decide +kernel
theorem wA_good : wA.all goodWord = true := by decide +kernel
theorem j_gd {w : Cond} (h : w ∈ wA) : (w.onTables && w.keeps) = true ∨ ∃ ty, w = .arrayClass ty := good_of_word (List.all_eq_true.mp wA_good w h)
theorem jgV {own : String} {idx : Nat} {C : String} {y : MethodName} {b : ByteArray} {mL : Nat} {r : Option FieldType} {c0 : Cond} {wo : List Cond} (ho : ∀ w ∈ wo, w ∈ wA) (h : ∀ w ∈ ([.methodLink own idx y, .instanceMethod y, .selects C y y, .initialized C, .code y b mL r] : List Cond), w ∈ wo) : GoodIn (c0 :: wA) (wsV own idx C y (.code y b mL r :: wA)) := by
  have k : ∀ w ∈ wsV own idx C y (.code y b mL r :: wA), w ∈ wA := by
    intro w hw
    rcases List.mem_append.mp hw with q | q
    · exact ho w (h w (by simp only [List.mem_cons, List.not_mem_nil, or_false] at q ⊢; rcases q with q | q | q | q <;> simp [q]))
    · rcases List.mem_cons.mp q with q | q
      · exact ho w (h w (by simp [q]))
      · exact q
  exact fun w hw => ⟨List.mem_cons_of_mem _ (k w hw), j_gd (k w hw)⟩
theorem jgS {own : String} {idx : Nat} {y : MethodName} {b : ByteArray} {mL : Nat} {r : Option FieldType} {c0 : Cond} {wo : List Cond} (ho : ∀ w ∈ wo, w ∈ wA) (h : ∀ w ∈ ([.methodLink own idx y, .static y, .initialized y.cls, .code y b mL r] : List Cond), w ∈ wo) : GoodIn (c0 :: wA) (va_wsS own idx y (.code y b mL r :: wA)) := by
  have k : ∀ w ∈ va_wsS own idx y (.code y b mL r :: wA), w ∈ wA := by
    intro w hw
    rcases List.mem_append.mp hw with q | q
    · exact ho w (h w (by simp only [List.mem_cons, List.not_mem_nil, or_false] at q ⊢; rcases q with q | q | q <;> simp [q]))
    · rcases List.mem_cons.mp q with q | q
      · exact ho w (h w (by simp [q]))
      · exact q
  exact fun w hw => ⟨List.mem_cons_of_mem _ (k w hw), j_gd (k w hw)⟩
