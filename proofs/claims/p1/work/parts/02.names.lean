/-! Names: the classes, the words, the methods -/
def cT0 : u_T := fun k => match k with
  | 0 => ("CueBench", "buffer", "LCueBench$Buffer;", true)
  | 1 => ("CueBench", "frameRate", "LCueBench$FrameRate;", true)
  | 2 => ("CueBench", "ruleSet", "LCueBench$RuleSet;", true)
  | 3 => ("CueBench", "row", "LCueBench$CueRow;", true)
  | 4 => ("CueBench", "past", "LCueBench$Past;", true)
  | 5 => ("CueBench", "reader", "LCueBench$FormReader;", true)
  | 6 => ("CueBench", "writer", "LCueBench$FormWriter;", true)
  | 7 => ("CueBench", "breaker", "LCueBench$LineBreaker;", true)
  | _ => ("CueBench", "repairer", "LCueBench$Repairer;", true)
def cY0 : Nat → FieldType := fun k => match k with
  | 0 => .object "CueBench$Buffer"
  | 1 => .object "CueBench$FrameRate"
  | 2 => .object "CueBench$RuleSet"
  | 3 => .object "CueBench$CueRow"
  | 4 => .object "CueBench$Past"
  | 5 => .object "CueBench$FormReader"
  | 6 => .object "CueBench$FormWriter"
  | 7 => .object "CueBench$LineBreaker"
  | _ => .object "CueBench$Repairer"
theorem cN0 : ∀ a, a < 9 → ∀ b, b < 9 → a ≠ b → (cT0 a).2.1 ≠ (cT0 b).2.1 := by decide +kernel
theorem cO0 : ∀ k, k < 9 → parseFieldDescriptor (cT0 k).2.2.1 = some (cY0 k) := by decide +kernel
def cT1 : u_T := fun k => match k with
  | 0 => ("CueBench$Buffer", "bytes", "[I", true)
  | _ => ("CueBench$Buffer", "size", "I", false)
def cY1 : Nat → FieldType := fun k => match k with
  | 0 => .array .int
  | _ => .int
theorem cN1 : ∀ a, a < 2 → ∀ b, b < 2 → a ≠ b → (cT1 a).2.1 ≠ (cT1 b).2.1 := by decide +kernel
theorem cO1 : ∀ k, k < 2 → parseFieldDescriptor (cT1 k).2.2.1 = some (cY1 k) := by decide +kernel
def cT2 : u_T := fun k => match k with
  | 0 => ("CueBench$CueRow", "starts", "[J", true)
  | 1 => ("CueBench$CueRow", "ends", "[J", true)
  | 2 => ("CueBench$CueRow", "sizes", "[I", true)
  | 3 => ("CueBench$CueRow", "bytes", "[I", true)
  | _ => ("CueBench$CueRow", "count", "I", false)
def cY2 : Nat → FieldType := fun k => match k with
  | 0 => .array .long
  | 1 => .array .long
  | 2 => .array .int
  | 3 => .array .int
  | _ => .int
theorem cN2 : ∀ a, a < 5 → ∀ b, b < 5 → a ≠ b → (cT2 a).2.1 ≠ (cT2 b).2.1 := by decide +kernel
theorem cO2 : ∀ k, k < 5 → parseFieldDescriptor (cT2 k).2.2.1 = some (cY2 k) := by decide +kernel
def cT3 : u_T := fun k => match k with
  | 0 => ("CueBench$FormReader", "buffer", "LCueBench$Buffer;", true)
  | 1 => ("CueBench$FormReader", "frameRate", "LCueBench$FrameRate;", true)
  | 2 => ("CueBench$FormReader", "found", "LCueBench$CueRow;", true)
  | 3 => ("CueBench$FormReader", "letters", "[I", true)
  | 4 => ("CueBench$FormReader", "size", "I", false)
  | 5 => ("CueBench$FormReader", "broken", "Z", false)
  | 6 => ("CueBench$FormReader", "place", "I", false)
  | 7 => ("CueBench$FormReader", "time", "J", false)
  | 8 => ("CueBench$FormReader", "start", "J", false)
  | _ => ("CueBench$FormReader", "end", "J", false)
def cY3 : Nat → FieldType := fun k => match k with
  | 0 => .object "CueBench$Buffer"
  | 1 => .object "CueBench$FrameRate"
  | 2 => .object "CueBench$CueRow"
  | 3 => .array .int
  | 4 => .int
  | 5 => .boolean
  | 6 => .int
  | 7 => .long
  | 8 => .long
  | _ => .long
theorem cN3 : ∀ a, a < 10 → ∀ b, b < 10 → a ≠ b → (cT3 a).2.1 ≠ (cT3 b).2.1 := by decide +kernel
theorem cO3 : ∀ k, k < 10 → parseFieldDescriptor (cT3 k).2.2.1 = some (cY3 k) := by decide +kernel
def cT4 : u_T := fun k => match k with
  | 0 => ("CueBench$FormWriter", "buffer", "LCueBench$Buffer;", true)
  | 1 => ("CueBench$FormWriter", "frameRate", "LCueBench$FrameRate;", true)
  | _ => ("CueBench$FormWriter", "row", "LCueBench$CueRow;", true)
def cY4 : Nat → FieldType := fun k => match k with
  | 0 => .object "CueBench$Buffer"
  | 1 => .object "CueBench$FrameRate"
  | _ => .object "CueBench$CueRow"
theorem cN4 : ∀ a, a < 3 → ∀ b, b < 3 → a ≠ b → (cT4 a).2.1 ≠ (cT4 b).2.1 := by decide +kernel
theorem cO4 : ∀ k, k < 3 → parseFieldDescriptor (cT4 k).2.2.1 = some (cY4 k) := by decide +kernel
def cT5 : u_T := fun k => match k with
  | 0 => ("CueBench$FrameRate", "num", "I", false)
  | 1 => ("CueBench$FrameRate", "den", "I", false)
  | _ => ("CueBench$FrameRate", "ticks", "J", false)
def cY5 : Nat → FieldType := fun k => match k with
  | 0 => .int
  | 1 => .int
  | _ => .long
theorem cN5 : ∀ a, a < 3 → ∀ b, b < 3 → a ≠ b → (cT5 a).2.1 ≠ (cT5 b).2.1 := by decide +kernel
theorem cO5 : ∀ k, k < 3 → parseFieldDescriptor (cT5 k).2.2.1 = some (cY5 k) := by decide +kernel
def cT6 : u_T := fun k => match k with
  | 0 => ("CueBench$LineBreaker", "row", "LCueBench$CueRow;", true)
  | 1 => ("CueBench$LineBreaker", "best", "I", false)
  | _ => ("CueBench$LineBreaker", "bestDifference", "I", false)
def cY6 : Nat → FieldType := fun k => match k with
  | 0 => .object "CueBench$CueRow"
  | 1 => .int
  | _ => .int
theorem cN6 : ∀ a, a < 3 → ∀ b, b < 3 → a ≠ b → (cT6 a).2.1 ≠ (cT6 b).2.1 := by decide +kernel
theorem cO6 : ∀ k, k < 3 → parseFieldDescriptor (cT6 k).2.2.1 = some (cY6 k) := by decide +kernel
def cT7 : u_T := fun k => match k with
  | 0 => ("CueBench$Past", "kept", "[LCueBench$CueRow;", true)
  | 1 => ("CueBench$Past", "next", "I", false)
  | _ => ("CueBench$Past", "count", "I", false)
def cY7 : Nat → FieldType := fun k => match k with
  | 0 => .array (.object "CueBench$CueRow")
  | 1 => .int
  | _ => .int
theorem cN7 : ∀ a, a < 3 → ∀ b, b < 3 → a ≠ b → (cT7 a).2.1 ≠ (cT7 b).2.1 := by decide +kernel
theorem cO7 : ∀ k, k < 3 → parseFieldDescriptor (cT7 k).2.2.1 = some (cY7 k) := by decide +kernel
def cT8 : u_T := fun k => match k with
  | 0 => ("CueBench$PointMap", "ticks", "J", true)
  | 1 => ("CueBench$PointMap", "from", "J", true)
  | 2 => ("CueBench$PointMap", "to", "J", true)
  | 3 => ("CueBench$PointMap", "run", "J", true)
  | _ => ("CueBench$PointMap", "rise", "J", true)
def cY8 : Nat → FieldType := fun k => match k with
  | 0 => .long
  | 1 => .long
  | 2 => .long
  | 3 => .long
  | _ => .long
theorem cN8 : ∀ a, a < 5 → ∀ b, b < 5 → a ≠ b → (cT8 a).2.1 ≠ (cT8 b).2.1 := by decide +kernel
theorem cO8 : ∀ k, k < 5 → parseFieldDescriptor (cT8 k).2.2.1 = some (cY8 k) := by decide +kernel
def cT9 : u_T := fun k => match k with
  | 0 => ("CueBench$Repairer", "row", "LCueBench$CueRow;", true)
  | 1 => ("CueBench$Repairer", "frameRate", "LCueBench$FrameRate;", true)
  | 2 => ("CueBench$Repairer", "ruleSet", "LCueBench$RuleSet;", true)
  | 3 => ("CueBench$Repairer", "firstStarts", "[I", true)
  | 4 => ("CueBench$Repairer", "firstEnds", "[I", true)
  | 5 => ("CueBench$Repairer", "shortest", "[I", true)
  | 6 => ("CueBench$Repairer", "endSums", "[I", true)
  | 7 => ("CueBench$Repairer", "bestEnds", "[I", true)
  | 8 => ("CueBench$Repairer", "startSums", "[I", true)
  | _ => ("CueBench$Repairer", "leastSums", "[I", true)
def cY9 : Nat → FieldType := fun k => match k with
  | 0 => .object "CueBench$CueRow"
  | 1 => .object "CueBench$FrameRate"
  | 2 => .object "CueBench$RuleSet"
  | 3 => .array .int
  | 4 => .array .int
  | 5 => .array .int
  | 6 => .array .int
  | 7 => .array .int
  | 8 => .array .int
  | _ => .array .int
theorem cN9 : ∀ a, a < 10 → ∀ b, b < 10 → a ≠ b → (cT9 a).2.1 ≠ (cT9 b).2.1 := by decide +kernel
theorem cO9 : ∀ k, k < 10 → parseFieldDescriptor (cT9 k).2.2.1 = some (cY9 k) := by decide +kernel
def cT10 : u_T := fun k => match k with
  | 0 => ("CueBench$RuleSet", "gap", "I", false)
  | 1 => ("CueBench$RuleSet", "least", "I", false)
  | 2 => ("CueBench$RuleSet", "most", "I", false)
  | 3 => ("CueBench$RuleSet", "speed", "I", false)
  | 4 => ("CueBench$RuleSet", "shots", "[I", true)
  | _ => ("CueBench$RuleSet", "shotCount", "I", false)
def cY10 : Nat → FieldType := fun k => match k with
  | 0 => .int
  | 1 => .int
  | 2 => .int
  | 3 => .int
  | 4 => .array .int
  | _ => .int
theorem cN10 : ∀ a, a < 6 → ∀ b, b < 6 → a ≠ b → (cT10 a).2.1 ≠ (cT10 b).2.1 := by decide +kernel
theorem cO10 : ∀ k, k < 6 → parseFieldDescriptor (cT10 k).2.2.1 = some (cY10 k) := by decide +kernel
def cT11 : u_T := fun k => match k with
  | 0 => ("CueBenchModel", "size", "I", false)
  | 1 => ("CueBenchModel", "buffer", "[I", true)
  | 2 => ("CueBenchModel", "num", "I", false)
  | 3 => ("CueBenchModel", "den", "I", false)
  | 4 => ("CueBenchModel", "cues", "I", false)
  | 5 => ("CueBenchModel", "starts", "[J", true)
  | 6 => ("CueBenchModel", "ends", "[J", true)
  | 7 => ("CueBenchModel", "lengths", "[I", true)
  | 8 => ("CueBenchModel", "texts", "[I", true)
  | 9 => ("CueBenchModel", "changes", "I", false)
  | 10 => ("CueBenchModel", "back", "I", false)
  | 11 => ("CueBenchModel", "oldCues", "[I", true)
  | 12 => ("CueBenchModel", "oldStarts", "[J", true)
  | 13 => ("CueBenchModel", "oldEnds", "[J", true)
  | 14 => ("CueBenchModel", "oldLengths", "[I", true)
  | 15 => ("CueBenchModel", "oldTexts", "[I", true)
  | 16 => ("CueBenchModel", "place", "I", false)
  | 17 => ("CueBenchModel", "fault", "I", false)
  | 18 => ("CueBenchModel", "newCues", "I", false)
  | 19 => ("CueBenchModel", "newStarts", "[J", true)
  | 20 => ("CueBenchModel", "newEnds", "[J", true)
  | 21 => ("CueBenchModel", "newLengths", "[I", true)
  | 22 => ("CueBenchModel", "newTexts", "[I", true)
  | 23 => ("CueBenchModel", "written", "I", false)
  | 24 => ("CueBenchModel", "counting", "Z", false)
  | 25 => ("CueBenchModel", "shots", "I", false)
  | 26 => ("CueBenchModel", "shotAt", "[I", true)
  | 27 => ("CueBenchModel", "gap", "I", false)
  | 28 => ("CueBenchModel", "least", "I", false)
  | 29 => ("CueBenchModel", "most", "I", false)
  | 30 => ("CueBenchModel", "speed", "I", false)
  | 31 => ("CueBenchModel", "sums", "[I", true)
  | 32 => ("CueBenchModel", "ways", "[I", true)
  | _ => ("CueBenchModel", "draft", "[I", true)
def cY11 : Nat → FieldType := fun k => match k with
  | 0 => .int
  | 1 => .array .int
  | 2 => .int
  | 3 => .int
  | 4 => .int
  | 5 => .array .long
  | 6 => .array .long
  | 7 => .array .int
  | 8 => .array .int
  | 9 => .int
  | 10 => .int
  | 11 => .array .int
  | 12 => .array .long
  | 13 => .array .long
  | 14 => .array .int
  | 15 => .array .int
  | 16 => .int
  | 17 => .int
  | 18 => .int
  | 19 => .array .long
  | 20 => .array .long
  | 21 => .array .int
  | 22 => .array .int
  | 23 => .int
  | 24 => .boolean
  | 25 => .int
  | 26 => .array .int
  | 27 => .int
  | 28 => .int
  | 29 => .int
  | 30 => .int
  | 31 => .array .int
  | 32 => .array .int
  | _ => .array .int
theorem cN11 : ∀ a, a < 34 → ∀ b, b < 34 → a ≠ b → (cT11 a).2.1 ≠ (cT11 b).2.1 := by decide +kernel
theorem cO11 : ∀ k, k < 34 → parseFieldDescriptor (cT11 k).2.2.1 = some (cY11 k) := by decide +kernel
abbrev classes : List vw_C := [("CueBench", cT0, 9), ("CueBench$Buffer", cT1, 2), ("CueBench$CueRow", cT2, 5), ("CueBench$FormReader", cT3, 10), ("CueBench$FormWriter", cT4, 3), ("CueBench$FrameRate", cT5, 3), ("CueBench$LineBreaker", cT6, 3), ("CueBench$Past", cT7, 3), ("CueBench$PointMap", cT8, 5), ("CueBench$Repairer", cT9, 10), ("CueBench$RuleSet", cT10, 6), ("CueBenchModel", cT11, 34)]
def Wall : List Cond := lw_tbl.filter goodWord
theorem good_all : ∀ w ∈ Wall, (w.onTables && w.keeps) = true ∨ ∃ ty, w = .arrayClass ty := fun w hw => good_of_word (List.mem_filter.mp hw).2
theorem wm {w : Cond} (i : Nat) (h : tables_1[i]? = some w) (hg : goodWord w = true) : w ∈ Wall := List.mem_filter.mpr ⟨List.mem_append_right _ (List.mem_of_getElem? h), hg⟩
theorem wp {w : Cond} (i : Nat) (h : (k2_sels lw_privs)[i]? = some w) (hg : goodWord w = true) : w ∈ Wall := List.mem_filter.mpr ⟨List.mem_append_left _ (List.mem_of_getElem? h), hg⟩
def NF : List (String × Nat × String × String × String × String) := [("CueBench", 80, "CueBench$Buffer", "size", "I", "CueBench"), ("CueBench$FormReader", 37, "CueBench$Buffer", "size", "I", "CueBench"), ("CueBench$FormWriter", 57, "CueBench$Buffer", "size", "I", "CueBench"), ("CueBench$RuleSet", 38, "CueBench$FrameRate", "num", "I", "CueBench"), ("CueBench$RuleSet", 43, "CueBench$FrameRate", "den", "I", "CueBench"), ("CueBench$FormReader", 110, "CueBench$FrameRate", "ticks", "J", "CueBench"), ("CueBench$Repairer", 128, "CueBench$FrameRate", "ticks", "J", "CueBench"), ("CueBench", 183, "CueBench$FrameRate", "ticks", "J", "CueBench"), ("CueBench$Repairer", 97, "CueBench$RuleSet", "gap", "I", "CueBench"), ("CueBench$Repairer", 116, "CueBench$RuleSet", "most", "I", "CueBench"), ("CueBench$Repairer", 51, "CueBench$CueRow", "starts", "[J", "CueBench"), ("CueBench$FormWriter", 37, "CueBench$CueRow", "starts", "[J", "CueBench"), ("CueBench", 126, "CueBench$CueRow", "starts", "[J", "CueBench"), ("CueBench$Repairer", 61, "CueBench$CueRow", "ends", "[J", "CueBench"), ("CueBench$FormWriter", 51, "CueBench$CueRow", "ends", "[J", "CueBench"), ("CueBench", 130, "CueBench$CueRow", "ends", "[J", "CueBench"), ("CueBench$LineBreaker", 19, "CueBench$CueRow", "sizes", "[I", "CueBench"), ("CueBench$FormWriter", 33, "CueBench$CueRow", "sizes", "[I", "CueBench"), ("CueBench$Repairer", 64, "CueBench$CueRow", "sizes", "[I", "CueBench"), ("CueBench", 133, "CueBench$CueRow", "sizes", "[I", "CueBench"), ("CueBench$Repairer", 45, "CueBench$CueRow", "count", "I", "CueBench"), ("CueBench$FormReader", 30, "CueBench$CueRow", "count", "I", "CueBench"), ("CueBench$FormWriter", 23, "CueBench$CueRow", "count", "I", "CueBench"), ("CueBench", 112, "CueBench$CueRow", "count", "I", "CueBench"), ("CueBench", 106, "CueBench$FormReader", "found", "LCueBench$CueRow;", "CueBench")]
def NM : List (String × Nat × MethodName × String) := [("CueBench", 9, ⟨"CueBench$Buffer", "<init>", "()V"⟩, "CueBench"), ("CueBench", 18, ⟨"CueBench$FrameRate", "<init>", "()V"⟩, "CueBench"), ("CueBench", 25, ⟨"CueBench$RuleSet", "<init>", "()V"⟩, "CueBench"), ("CueBench", 32, ⟨"CueBench$CueRow", "<init>", "()V"⟩, "CueBench"), ("CueBench", 39, ⟨"CueBench$Past", "<init>", "()V"⟩, "CueBench"), ("CueBench$FormReader", 11, ⟨"CueBench$CueRow", "<init>", "()V"⟩, "CueBench"), ("CueBench$Past", 19, ⟨"CueBench$CueRow", "<init>", "()V"⟩, "CueBench"), ("CueBench$FrameRate", 29, ⟨"CueBench", "nearest", "(JJ)J"⟩, "CueBench"), ("CueBench$FormWriter", 85, ⟨"CueBench", "nearest", "(JJ)J"⟩, "CueBench"), ("CueBench$CueRow", 33, ⟨"CueBench", "cellsOf", "(I)I"⟩, "CueBench"), ("CueBench$LineBreaker", 37, ⟨"CueBench", "cellsOf", "(I)I"⟩, "CueBench"), ("CueBench$PointMap", 25, ⟨"CueBench", "nearest", "(JJ)J"⟩, "CueBench"), ("CueBench$CueRow", 64, ⟨"CueBench", "nearest", "(JJ)J"⟩, "CueBench")]
def tensV : Nat → Value := fun j => .int (match j with | 0 => 1 | 1 => 10 | 2 => 100 | 3 => 1000 | 4 => 10000 | _ => 100000)
abbrev M_CB_init : MethodName × ByteArray × Nat × Option FieldType := (⟨"CueBench", "<init>", "()V"⟩, prog_1_method_1_code, 1, none)
abbrev M_Bu_init : MethodName × ByteArray × Nat × Option FieldType := (⟨"CueBench$Buffer", "<init>", "()V"⟩, prog_2_method_1_code, 1, none)
abbrev M_Fr_init : MethodName × ByteArray × Nat × Option FieldType := (⟨"CueBench$FrameRate", "<init>", "()V"⟩, prog_6_method_1_code, 1, none)
abbrev M_Ru_init : MethodName × ByteArray × Nat × Option FieldType := (⟨"CueBench$RuleSet", "<init>", "()V"⟩, prog_11_method_1_code, 1, none)
abbrev M_Ro_init : MethodName × ByteArray × Nat × Option FieldType := (⟨"CueBench$CueRow", "<init>", "()V"⟩, prog_3_method_1_code, 1, none)
abbrev M_Pa_init : MethodName × ByteArray × Nat × Option FieldType := (⟨"CueBench$Past", "<init>", "()V"⟩, prog_8_method_1_code, 1, none)
abbrev M_Re_init : MethodName × ByteArray × Nat × Option FieldType := (⟨"CueBench$FormReader", "<init>", "(LCueBench$Buffer;LCueBench$FrameRate;)V"⟩, prog_4_method_1_code, 3, none)
abbrev M_Wr_init : MethodName × ByteArray × Nat × Option FieldType := (⟨"CueBench$FormWriter", "<init>", "(LCueBench$Buffer;LCueBench$FrameRate;LCueBench$CueRow;)V"⟩, prog_5_method_1_code, 4, none)
abbrev M_Li_init : MethodName × ByteArray × Nat × Option FieldType := (⟨"CueBench$LineBreaker", "<init>", "(LCueBench$CueRow;)V"⟩, prog_7_method_1_code, 2, none)
abbrev M_Rp_init : MethodName × ByteArray × Nat × Option FieldType := (⟨"CueBench$Repairer", "<init>", "(LCueBench$CueRow;LCueBench$FrameRate;LCueBench$RuleSet;)V"⟩, prog_10_method_1_code, 4, none)
abbrev M_CB_put : MethodName × ByteArray × Nat × Option FieldType := (⟨"CueBench", "put", "(JI)I"⟩, prog_1_method_2_code, 5, some .int)
abbrev M_Bu_add : MethodName × ByteArray × Nat × Option FieldType := (⟨"CueBench$Buffer", "add", "(I)V"⟩, prog_2_method_2_code, 2, none)
abbrev M_CB_wipe : MethodName × ByteArray × Nat × Option FieldType := (⟨"CueBench", "wipe", "()I"⟩, prog_1_method_3_code, 2, some .int)
abbrev M_CB_at : MethodName × ByteArray × Nat × Option FieldType := (⟨"CueBench", "at", "(I)I"⟩, prog_1_method_4_code, 2, some .int)
abbrev M_Bu_look : MethodName × ByteArray × Nat × Option FieldType := (⟨"CueBench$Buffer", "look", "(I)I"⟩, prog_2_method_3_code, 2, some .int)
abbrev M_CB_rate : MethodName × ByteArray × Nat × Option FieldType := (⟨"CueBench", "rate", "(II)Z"⟩, prog_1_method_5_code, 3, some .boolean)
abbrev M_Fr_change : MethodName × ByteArray × Nat × Option FieldType := (⟨"CueBench$FrameRate", "change", "(II)Z"⟩, prog_6_method_2_code, 3, some .boolean)
abbrev M_CB_read : MethodName × ByteArray × Nat × Option FieldType := (⟨"CueBench", "read", "(I)I"⟩, prog_1_method_6_code, 3, some .int)
abbrev M_CB_isForm : MethodName × ByteArray × Nat × Option FieldType := (⟨"CueBench", "isForm", "(I)Z"⟩, prog_1_method_21_code, 1, some .boolean)
abbrev M_Re_findFault : MethodName × ByteArray × Nat × Option FieldType := (⟨"CueBench$FormReader", "findFault", "(I)I"⟩, prog_4_method_2_code, 4, some .int)
abbrev M_Re_takeCue : MethodName × ByteArray × Nat × Option FieldType := (⟨"CueBench$FormReader", "takeCue", "(I)Z"⟩, prog_4_method_3_code, 2, some .boolean)
abbrev M_Re_takeBlockTimes : MethodName × ByteArray × Nat × Option FieldType := (⟨"CueBench$FormReader", "takeBlockTimes", "()Z"⟩, prog_4_method_4_code, 1, some .boolean)
abbrev M_Re_takeBlockTime : MethodName × ByteArray × Nat × Option FieldType := (⟨"CueBench$FormReader", "takeBlockTime", "()Z"⟩, prog_4_method_5_code, 1, some .boolean)
abbrev M_Re_takeSixty : MethodName × ByteArray × Nat × Option FieldType := (⟨"CueBench$FormReader", "takeSixty", "()Z"⟩, prog_4_method_6_code, 3, some .boolean)
abbrev M_Re_takeDigit : MethodName × ByteArray × Nat × Option FieldType := (⟨"CueBench$FormReader", "takeDigit", "(I)Z"⟩, prog_4_method_18_code, 3, some .boolean)
abbrev M_Re_takeSign : MethodName × ByteArray × Nat × Option FieldType := (⟨"CueBench$FormReader", "takeSign", "(I)Z"⟩, prog_4_method_17_code, 2, some .boolean)
abbrev M_Re_takeBlockText : MethodName × ByteArray × Nat × Option FieldType := (⟨"CueBench$FormReader", "takeBlockText", "()Z"⟩, prog_4_method_7_code, 2, some .boolean)
abbrev M_Re_takeLetter : MethodName × ByteArray × Nat × Option FieldType := (⟨"CueBench$FormReader", "takeLetter", "()Z"⟩, prog_4_method_15_code, 3, some .boolean)
abbrev M_Re_isLetter : MethodName × ByteArray × Nat × Option FieldType := (⟨"CueBench$FormReader", "isLetter", "(I)Z"⟩, prog_4_method_16_code, 1, some .boolean)
abbrev M_Re_takeFrameTimes : MethodName × ByteArray × Nat × Option FieldType := (⟨"CueBench$FormReader", "takeFrameTimes", "()Z"⟩, prog_4_method_8_code, 1, some .boolean)
abbrev M_Re_takeFrames : MethodName × ByteArray × Nat × Option FieldType := (⟨"CueBench$FormReader", "takeFrames", "()Z"⟩, prog_4_method_9_code, 2, some .boolean)
abbrev M_Re_takeFrameText : MethodName × ByteArray × Nat × Option FieldType := (⟨"CueBench$FormReader", "takeFrameText", "()Z"⟩, prog_4_method_10_code, 3, some .boolean)
abbrev M_Re_takeInnerBreak : MethodName × ByteArray × Nat × Option FieldType := (⟨"CueBench$FormReader", "takeInnerBreak", "()Z"⟩, prog_4_method_14_code, 1, some .boolean)
abbrev M_Re_takePackedTimes : MethodName × ByteArray × Nat × Option FieldType := (⟨"CueBench$FormReader", "takePackedTimes", "()Z"⟩, prog_4_method_11_code, 1, some .boolean)
abbrev M_Re_takeSixBytes : MethodName × ByteArray × Nat × Option FieldType := (⟨"CueBench$FormReader", "takeSixBytes", "()Z"⟩, prog_4_method_12_code, 3, some .boolean)
abbrev M_Re_takePackedText : MethodName × ByteArray × Nat × Option FieldType := (⟨"CueBench$FormReader", "takePackedText", "()Z"⟩, prog_4_method_13_code, 3, some .boolean)
abbrev M_Ro_add : MethodName × ByteArray × Nat × Option FieldType := (⟨"CueBench$CueRow", "add", "(JJ[II)Z"⟩, prog_3_method_8_code, 7, some .boolean)
abbrev M_Pa_keep : MethodName × ByteArray × Nat × Option FieldType := (⟨"CueBench$Past", "keep", "(LCueBench$CueRow;)V"⟩, prog_8_method_2_code, 2, none)
abbrev M_Ro_copyFrom : MethodName × ByteArray × Nat × Option FieldType := (⟨"CueBench$CueRow", "copyFrom", "(LCueBench$CueRow;)V"⟩, prog_3_method_7_code, 2, none)
abbrev M_CB_write : MethodName × ByteArray × Nat × Option FieldType := (⟨"CueBench", "write", "(I)I"⟩, prog_1_method_7_code, 2, some .int)
abbrev M_Wr_length : MethodName × ByteArray × Nat × Option FieldType := (⟨"CueBench$FormWriter", "length", "(I)I"⟩, prog_5_method_2_code, 4, some .int)
abbrev M_Wr_lengthOfTimes : MethodName × ByteArray × Nat × Option FieldType := (⟨"CueBench$FormWriter", "lengthOfTimes", "(II)I"⟩, prog_5_method_3_code, 3, some .int)
abbrev M_Fr_nearestFrame : MethodName × ByteArray × Nat × Option FieldType := (⟨"CueBench$FrameRate", "nearestFrame", "(J)I"⟩, prog_6_method_4_code, 3, some .int)
abbrev M_CB_nearest : MethodName × ByteArray × Nat × Option FieldType := (⟨"CueBench", "nearest", "(JJ)J"⟩, prog_1_method_22_code, 9, some .long)
abbrev M_Math_floorDiv : MethodName × ByteArray × Nat × Option FieldType := (⟨"java/lang/Math", "floorDiv", "(JJ)J"⟩, prog_14_method_49_code, 6, some .long)
abbrev M_Wr_digits : MethodName × ByteArray × Nat × Option FieldType := (⟨"CueBench$FormWriter", "digits", "(I)I"⟩, prog_5_method_4_code, 2, some .int)
abbrev M_Wr_fill : MethodName × ByteArray × Nat × Option FieldType := (⟨"CueBench$FormWriter", "fill", "(I)V"⟩, prog_5_method_5_code, 3, none)
abbrev M_Wr_addBlock : MethodName × ByteArray × Nat × Option FieldType := (⟨"CueBench$FormWriter", "addBlock", "(I)V"⟩, prog_5_method_6_code, 2, none)
abbrev M_Wr_addBlockTime : MethodName × ByteArray × Nat × Option FieldType := (⟨"CueBench$FormWriter", "addBlockTime", "(J)V"⟩, prog_5_method_7_code, 4, none)
abbrev M_Wr_addNumber : MethodName × ByteArray × Nat × Option FieldType := (⟨"CueBench$FormWriter", "addNumber", "(II)V"⟩, prog_5_method_12_code, 4, none)
abbrev M_Wr_addText : MethodName × ByteArray × Nat × Option FieldType := (⟨"CueBench$FormWriter", "addText", "(II)V"⟩, prog_5_method_13_code, 5, none)
abbrev M_Ro_byteAt : MethodName × ByteArray × Nat × Option FieldType := (⟨"CueBench$CueRow", "byteAt", "(II)I"⟩, prog_3_method_3_code, 3, some .int)
abbrev M_Wr_addFrames : MethodName × ByteArray × Nat × Option FieldType := (⟨"CueBench$FormWriter", "addFrames", "(I)V"⟩, prog_5_method_8_code, 2, none)
abbrev M_Wr_addFrame : MethodName × ByteArray × Nat × Option FieldType := (⟨"CueBench$FormWriter", "addFrame", "(J)V"⟩, prog_5_method_9_code, 4, none)
abbrev M_Wr_addPacked : MethodName × ByteArray × Nat × Option FieldType := (⟨"CueBench$FormWriter", "addPacked", "(I)V"⟩, prog_5_method_10_code, 2, none)
abbrev M_Wr_addSixBytes : MethodName × ByteArray × Nat × Option FieldType := (⟨"CueBench$FormWriter", "addSixBytes", "(J)V"⟩, prog_5_method_11_code, 4, none)
abbrev M_CB_cues : MethodName × ByteArray × Nat × Option FieldType := (⟨"CueBench", "cues", "()I"⟩, prog_1_method_8_code, 1, some .int)
abbrev M_CB_cue : MethodName × ByteArray × Nat × Option FieldType := (⟨"CueBench", "cue", "(II)J"⟩, prog_1_method_9_code, 3, some .long)
abbrev M_Ro_has : MethodName × ByteArray × Nat × Option FieldType := (⟨"CueBench$CueRow", "has", "(I)Z"⟩, prog_3_method_2_code, 2, some .boolean)
abbrev M_Ro_lines : MethodName × ByteArray × Nat × Option FieldType := (⟨"CueBench$CueRow", "lines", "(I)I"⟩, prog_3_method_4_code, 4, some .int)
abbrev M_Ro_cells : MethodName × ByteArray × Nat × Option FieldType := (⟨"CueBench$CueRow", "cells", "(III)I"⟩, prog_3_method_5_code, 6, some .int)
abbrev M_CB_cellsOf : MethodName × ByteArray × Nat × Option FieldType := (⟨"CueBench", "cellsOf", "(I)I"⟩, prog_1_method_23_code, 1, some .int)
abbrev M_CB_text : MethodName × ByteArray × Nat × Option FieldType := (⟨"CueBench", "text", "(II)I"⟩, prog_1_method_10_code, 3, some .int)
abbrev M_CB_shot : MethodName × ByteArray × Nat × Option FieldType := (⟨"CueBench", "shot", "(I)I"⟩, prog_1_method_11_code, 2, some .int)
abbrev M_Ru_addShot : MethodName × ByteArray × Nat × Option FieldType := (⟨"CueBench$RuleSet", "addShot", "(I)I"⟩, prog_11_method_3_code, 3, some .int)
abbrev M_CB_rules : MethodName × ByteArray × Nat × Option FieldType := (⟨"CueBench", "rules", "(IIII)Z"⟩, prog_1_method_12_code, 5, some .boolean)
abbrev M_Ru_change : MethodName × ByteArray × Nat × Option FieldType := (⟨"CueBench$RuleSet", "change", "(IIII)Z"⟩, prog_11_method_2_code, 5, some .boolean)
abbrev M_CB_repair : MethodName × ByteArray × Nat × Option FieldType := (⟨"CueBench", "repair", "()I"⟩, prog_1_method_13_code, 2, some .int)
abbrev M_Rp_leastSum : MethodName × ByteArray × Nat × Option FieldType := (⟨"CueBench$Repairer", "leastSum", "()I"⟩, prog_10_method_2_code, 2, some .int)
abbrev M_Ru_shortest : MethodName × ByteArray × Nat × Option FieldType := (⟨"CueBench$RuleSet", "shortest", "(ILCueBench$FrameRate;)I"⟩, prog_11_method_5_code, 5, some .int)
abbrev M_Math_max : MethodName × ByteArray × Nat × Option FieldType := (⟨"java/lang/Math", "max", "(II)I"⟩, prog_14_method_65_code, 2, some .int)
abbrev M_Rp_weighEnds : MethodName × ByteArray × Nat × Option FieldType := (⟨"CueBench$Repairer", "weighEnds", "(I)V"⟩, prog_10_method_3_code, 4, none)
abbrev M_Rp_endAllowed : MethodName × ByteArray × Nat × Option FieldType := (⟨"CueBench$Repairer", "endAllowed", "(I)Z"⟩, prog_10_method_4_code, 2, some .boolean)
abbrev M_Fr_holds : MethodName × ByteArray × Nat × Option FieldType := (⟨"CueBench$FrameRate", "holds", "(I)Z"⟩, prog_6_method_3_code, 2, some .boolean)
abbrev M_Ru_shotsAllow : MethodName × ByteArray × Nat × Option FieldType := (⟨"CueBench$RuleSet", "shotsAllow", "(I)Z"⟩, prog_11_method_4_code, 4, some .boolean)
abbrev M_Math_abs : MethodName × ByteArray × Nat × Option FieldType := (⟨"java/lang/Math", "abs", "(I)I"⟩, prog_14_method_59_code, 1, some .int)
abbrev M_Rp_leastFrom : MethodName × ByteArray × Nat × Option FieldType := (⟨"CueBench$Repairer", "leastFrom", "(II)I"⟩, prog_10_method_8_code, 4, some .int)
abbrev M_Rp_placeOfStart : MethodName × ByteArray × Nat × Option FieldType := (⟨"CueBench$Repairer", "placeOfStart", "(II)I"⟩, prog_10_method_7_code, 3, some .int)
abbrev M_Rp_weighStarts : MethodName × ByteArray × Nat × Option FieldType := (⟨"CueBench$Repairer", "weighStarts", "(I)V"⟩, prog_10_method_5_code, 6, none)
abbrev M_Rp_bestEnd : MethodName × ByteArray × Nat × Option FieldType := (⟨"CueBench$Repairer", "bestEnd", "(II)I"⟩, prog_10_method_6_code, 8, some .int)
abbrev M_Math_min : MethodName × ByteArray × Nat × Option FieldType := (⟨"java/lang/Math", "min", "(II)I"⟩, prog_14_method_69_code, 2, some .int)
abbrev M_Rp_firstStuck : MethodName × ByteArray × Nat × Option FieldType := (⟨"CueBench$Repairer", "firstStuck", "()I"⟩, prog_10_method_9_code, 4, some .int)
abbrev M_Rp_earliestEnd : MethodName × ByteArray × Nat × Option FieldType := (⟨"CueBench$Repairer", "earliestEnd", "(II)I"⟩, prog_10_method_10_code, 9, some .int)
abbrev M_Rp_take : MethodName × ByteArray × Nat × Option FieldType := (⟨"CueBench$Repairer", "take", "()V"⟩, prog_10_method_11_code, 5, none)
abbrev M_Rp_firstBestStart : MethodName × ByteArray × Nat × Option FieldType := (⟨"CueBench$Repairer", "firstBestStart", "(II)I"⟩, prog_10_method_12_code, 5, some .int)
abbrev M_CB_breakLines : MethodName × ByteArray × Nat × Option FieldType := (⟨"CueBench", "breakLines", "(I)I"⟩, prog_1_method_14_code, 3, some .int)
abbrev M_Ro_cellsAsOneLine : MethodName × ByteArray × Nat × Option FieldType := (⟨"CueBench$CueRow", "cellsAsOneLine", "(I)I"⟩, prog_3_method_6_code, 2, some .int)
abbrev M_Ro_joinLines : MethodName × ByteArray × Nat × Option FieldType := (⟨"CueBench$CueRow", "joinLines", "(I)V"⟩, prog_3_method_9_code, 3, none)
abbrev M_Li_bestPlace : MethodName × ByteArray × Nat × Option FieldType := (⟨"CueBench$LineBreaker", "bestPlace", "(I)I"⟩, prog_7_method_2_code, 8, some .int)
abbrev M_Li_offer : MethodName × ByteArray × Nat × Option FieldType := (⟨"CueBench$LineBreaker", "offer", "(III)V"⟩, prog_7_method_3_code, 5, none)
abbrev M_Ro_breakAt : MethodName × ByteArray × Nat × Option FieldType := (⟨"CueBench$CueRow", "breakAt", "(II)V"⟩, prog_3_method_10_code, 4, none)
abbrev M_CB_twoPoint : MethodName × ByteArray × Nat × Option FieldType := (⟨"CueBench", "twoPoint", "(IIII)Z"⟩, prog_1_method_15_code, 11, some .boolean)
abbrev M_Po_init : MethodName × ByteArray × Nat × Option FieldType := (⟨"CueBench$PointMap", "<init>", "(JIIII)V"⟩, prog_9_method_1_code, 7, none)
abbrev M_Po_of : MethodName × ByteArray × Nat × Option FieldType := (⟨"CueBench$PointMap", "of", "(J)J"⟩, prog_9_method_2_code, 5, some .long)
abbrev M_CB_shift : MethodName × ByteArray × Nat × Option FieldType := (⟨"CueBench", "shift", "(J)Z"⟩, prog_1_method_16_code, 4, some .boolean)
abbrev M_CB_merge : MethodName × ByteArray × Nat × Option FieldType := (⟨"CueBench", "merge", "(I)I"⟩, prog_1_method_17_code, 2, some .int)
abbrev M_Ro_joinWithNext : MethodName × ByteArray × Nat × Option FieldType := (⟨"CueBench$CueRow", "joinWithNext", "(I)V"⟩, prog_3_method_11_code, 3, none)
abbrev M_Math_maxl : MethodName × ByteArray × Nat × Option FieldType := (⟨"java/lang/Math", "max", "(JJ)J"⟩, prog_14_method_66_code, 4, some .long)
abbrev M_Ro_move : MethodName × ByteArray × Nat × Option FieldType := (⟨"CueBench$CueRow", "move", "(II)V"⟩, prog_3_method_14_code, 4, none)
abbrev M_CB_split : MethodName × ByteArray × Nat × Option FieldType := (⟨"CueBench", "split", "(II)I"⟩, prog_1_method_18_code, 5, some .int)
abbrev M_Ro_timeBefore : MethodName × ByteArray × Nat × Option FieldType := (⟨"CueBench$CueRow", "timeBefore", "(II)J"⟩, prog_3_method_12_code, 7, some .long)
abbrev M_Ro_part : MethodName × ByteArray × Nat × Option FieldType := (⟨"CueBench$CueRow", "part", "(IIJ)V"⟩, prog_3_method_13_code, 7, none)
abbrev M_CB_clash : MethodName × ByteArray × Nat × Option FieldType := (⟨"CueBench", "clash", "()I"⟩, prog_1_method_19_code, 2, some .int)
abbrev M_CB_undo : MethodName × ByteArray × Nat × Option FieldType := (⟨"CueBench", "undo", "()Z"⟩, prog_1_method_20_code, 1, some .boolean)
abbrev M_Pa_takeBack : MethodName × ByteArray × Nat × Option FieldType := (⟨"CueBench$Past", "takeBack", "(LCueBench$CueRow;)Z"⟩, prog_8_method_3_code, 3, some .boolean)
abbrev M_Mo_init : MethodName × ByteArray × Nat × Option FieldType := (⟨"CueBenchModel", "<init>", "()V"⟩, prog_13_method_1_code, 1, none)
abbrev M_Mo_put : MethodName × ByteArray × Nat × Option FieldType := (⟨"CueBenchModel", "put", "(JI)I"⟩, prog_13_method_8_code, 5, some .int)
abbrev M_Mo_wipe : MethodName × ByteArray × Nat × Option FieldType := (⟨"CueBenchModel", "wipe", "()I"⟩, prog_13_method_9_code, 2, some .int)
abbrev M_Mo_at : MethodName × ByteArray × Nat × Option FieldType := (⟨"CueBenchModel", "at", "(I)I"⟩, prog_13_method_10_code, 2, some .int)
abbrev M_Mo_rate : MethodName × ByteArray × Nat × Option FieldType := (⟨"CueBenchModel", "rate", "(II)Z"⟩, prog_13_method_11_code, 3, some .boolean)
abbrev M_Mo_undo : MethodName × ByteArray × Nat × Option FieldType := (⟨"CueBenchModel", "undo", "()Z"⟩, prog_13_method_13_code, 3, some .boolean)
abbrev M_Mo_read : MethodName × ByteArray × Nat × Option FieldType := (⟨"CueBenchModel", "read", "(I)I"⟩, prog_13_method_27_code, 4, some .int)
abbrev M_Mo_takeCue : MethodName × ByteArray × Nat × Option FieldType := (⟨"CueBenchModel", "takeCue", "(I)V"⟩, prog_13_method_26_code, 10, none)
abbrev M_Mo_takeClock : MethodName × ByteArray × Nat × Option FieldType := (⟨"CueBenchModel", "takeClock", "()J"⟩, prog_13_method_18_code, 6, some .long)
abbrev M_Mo_takeDigit : MethodName × ByteArray × Nat × Option FieldType := (⟨"CueBenchModel", "takeDigit", "(I)I"⟩, prog_13_method_17_code, 3, some .int)
abbrev M_Mo_here : MethodName × ByteArray × Nat × Option FieldType := (⟨"CueBenchModel", "here", "()I"⟩, prog_13_method_14_code, 1, some .int)
abbrev M_Mo_take : MethodName × ByteArray × Nat × Option FieldType := (⟨"CueBenchModel", "take", "(Z)V"⟩, prog_13_method_15_code, 2, none)
abbrev M_Mo_takeByte : MethodName × ByteArray × Nat × Option FieldType := (⟨"CueBenchModel", "takeByte", "(I)V"⟩, prog_13_method_16_code, 3, none)
abbrev M_Mo_takeLines : MethodName × ByteArray × Nat × Option FieldType := (⟨"CueBenchModel", "takeLines", "()V"⟩, prog_13_method_23_code, 6, none)
abbrev M_Mo_isText : MethodName × ByteArray × Nat × Option FieldType := (⟨"CueBenchModel", "isText", "(I)Z"⟩, prog_13_method_6_code, 1, some .boolean)
abbrev M_Mo_addByte : MethodName × ByteArray × Nat × Option FieldType := (⟨"CueBenchModel", "addByte", "(I)V"⟩, prog_13_method_21_code, 2, none)
abbrev M_Mo_takeFrames : MethodName × ByteArray × Nat × Option FieldType := (⟨"CueBenchModel", "takeFrames", "()J"⟩, prog_13_method_19_code, 5, some .long)
abbrev M_Mo_frame : MethodName × ByteArray × Nat × Option FieldType := (⟨"CueBenchModel", "frame", "()J"⟩, prog_13_method_3_code, 1, some .long)
abbrev M_Mo_takeBars : MethodName × ByteArray × Nat × Option FieldType := (⟨"CueBenchModel", "takeBars", "()V"⟩, prog_13_method_24_code, 5, none)
abbrev M_Mo_latest : MethodName × ByteArray × Nat × Option FieldType := (⟨"CueBenchModel", "latest", "()I"⟩, prog_13_method_22_code, 1, some .int)
abbrev M_Mo_takeSix : MethodName × ByteArray × Nat × Option FieldType := (⟨"CueBenchModel", "takeSix", "()J"⟩, prog_13_method_20_code, 5, some .long)
abbrev M_Mo_takeCounted : MethodName × ByteArray × Nat × Option FieldType := (⟨"CueBenchModel", "takeCounted", "()V"⟩, prog_13_method_25_code, 4, none)
abbrev M_Mo_keep : MethodName × ByteArray × Nat × Option FieldType := (⟨"CueBenchModel", "keep", "()V"⟩, prog_13_method_12_code, 3, none)
abbrev M_Mo_write : MethodName × ByteArray × Nat × Option FieldType := (⟨"CueBenchModel", "write", "(I)I"⟩, prog_13_method_34_code, 4, some .int)
abbrev M_Mo_writeCue : MethodName × ByteArray × Nat × Option FieldType := (⟨"CueBenchModel", "writeCue", "(II)V"⟩, prog_13_method_33_code, 5, none)
abbrev M_Mo_writeClock : MethodName × ByteArray × Nat × Option FieldType := (⟨"CueBenchModel", "writeClock", "(J)V"⟩, prog_13_method_30_code, 5, none)
abbrev M_Mo_nearest : MethodName × ByteArray × Nat × Option FieldType := (⟨"CueBenchModel", "nearest", "(JJ)J"⟩, prog_13_method_2_code, 8, some .long)
abbrev M_Mo_writeDigits : MethodName × ByteArray × Nat × Option FieldType := (⟨"CueBenchModel", "writeDigits", "(JI)V"⟩, prog_13_method_29_code, 7, none)
abbrev M_Mo_write1 : MethodName × ByteArray × Nat × Option FieldType := (⟨"CueBenchModel", "write1", "(I)V"⟩, prog_13_method_28_code, 2, none)
abbrev M_Mo_writeFrames : MethodName × ByteArray × Nat × Option FieldType := (⟨"CueBenchModel", "writeFrames", "(J)V"⟩, prog_13_method_31_code, 8, none)
abbrev M_Mo_writeSix : MethodName × ByteArray × Nat × Option FieldType := (⟨"CueBenchModel", "writeSix", "(J)V"⟩, prog_13_method_32_code, 4, none)
abbrev M_Mo_cues : MethodName × ByteArray × Nat × Option FieldType := (⟨"CueBenchModel", "cues", "()I"⟩, prog_13_method_35_code, 1, some .int)
abbrev M_Mo_cue : MethodName × ByteArray × Nat × Option FieldType := (⟨"CueBenchModel", "cue", "(II)J"⟩, prog_13_method_36_code, 5, some .long)
abbrev M_Mo_isCue : MethodName × ByteArray × Nat × Option FieldType := (⟨"CueBenchModel", "isCue", "(I)Z"⟩, prog_13_method_7_code, 2, some .boolean)
abbrev M_Mo_cells : MethodName × ByteArray × Nat × Option FieldType := (⟨"CueBenchModel", "cells", "(III)I"⟩, prog_13_method_5_code, 6, some .int)
abbrev M_Mo_cellsOf : MethodName × ByteArray × Nat × Option FieldType := (⟨"CueBenchModel", "cellsOf", "(I)I"⟩, prog_13_method_4_code, 1, some .int)
abbrev M_Mo_text : MethodName × ByteArray × Nat × Option FieldType := (⟨"CueBenchModel", "text", "(II)I"⟩, prog_13_method_37_code, 3, some .int)
abbrev M_Mo_shot : MethodName × ByteArray × Nat × Option FieldType := (⟨"CueBenchModel", "shot", "(I)I"⟩, prog_13_method_38_code, 4, some .int)
abbrev M_Mo_rules : MethodName × ByteArray × Nat × Option FieldType := (⟨"CueBenchModel", "rules", "(IIII)Z"⟩, prog_13_method_39_code, 5, some .boolean)
abbrev M_Mo_repair : MethodName × ByteArray × Nat × Option FieldType := (⟨"CueBenchModel", "repair", "()I"⟩, prog_13_method_47_code, 7, some .int)
abbrev M_Mo_findWays : MethodName × ByteArray × Nat × Option FieldType := (⟨"CueBenchModel", "findWays", "(I)Z"⟩, prog_13_method_46_code, 16, some .boolean)
abbrev M_Mo_bestBefore : MethodName × ByteArray × Nat × Option FieldType := (⟨"CueBenchModel", "bestBefore", "(IJ)I"⟩, prog_13_method_44_code, 9, some .int)
abbrev M_Mo_isBetter : MethodName × ByteArray × Nat × Option FieldType := (⟨"CueBenchModel", "isBetter", "(III)Z"⟩, prog_13_method_43_code, 8, some .boolean)
abbrev M_Mo_lasts : MethodName × ByteArray × Nat × Option FieldType := (⟨"CueBenchModel", "lasts", "(IJJ)Z"⟩, prog_13_method_41_code, 6, some .boolean)
abbrev M_Mo_isClear : MethodName × ByteArray × Nat × Option FieldType := (⟨"CueBenchModel", "isClear", "(J)Z"⟩, prog_13_method_40_code, 6, some .boolean)
abbrev M_Mo_away : MethodName × ByteArray × Nat × Option FieldType := (⟨"CueBenchModel", "away", "(JJ)J"⟩, prog_13_method_42_code, 4, some .long)
abbrev M_Mo_offer : MethodName × ByteArray × Nat × Option FieldType := (⟨"CueBenchModel", "offer", "(IIIII)V"⟩, prog_13_method_45_code, 13, none)
abbrev M_Mo_breakLines : MethodName × ByteArray × Nat × Option FieldType := (⟨"CueBenchModel", "breakLines", "(I)I"⟩, prog_13_method_49_code, 8, some .int)
abbrev M_Mo_breakAt : MethodName × ByteArray × Nat × Option FieldType := (⟨"CueBenchModel", "breakAt", "(II)I"⟩, prog_13_method_48_code, 10, some .int)
abbrev M_Mo_twoPoint : MethodName × ByteArray × Nat × Option FieldType := (⟨"CueBenchModel", "twoPoint", "(IIII)Z"⟩, prog_13_method_52_code, 13, some .boolean)
abbrev M_Mo_isTime : MethodName × ByteArray × Nat × Option FieldType := (⟨"CueBenchModel", "isTime", "(J)Z"⟩, prog_13_method_50_code, 3, some .boolean)
abbrev M_Mo_mapped : MethodName × ByteArray × Nat × Option FieldType := (⟨"CueBenchModel", "mapped", "(JJJJJ)J"⟩, prog_13_method_51_code, 15, some .long)
abbrev M_Mo_shift : MethodName × ByteArray × Nat × Option FieldType := (⟨"CueBenchModel", "shift", "(J)Z"⟩, prog_13_method_53_code, 5, some .boolean)
abbrev M_Mo_merge : MethodName × ByteArray × Nat × Option FieldType := (⟨"CueBenchModel", "merge", "(I)I"⟩, prog_13_method_55_code, 4, some .int)
abbrev M_Mo_copy : MethodName × ByteArray × Nat × Option FieldType := (⟨"CueBenchModel", "copy", "(II)V"⟩, prog_13_method_54_code, 4, none)
abbrev M_Mo_split : MethodName × ByteArray × Nat × Option FieldType := (⟨"CueBenchModel", "split", "(II)I"⟩, prog_13_method_56_code, 14, some .int)
abbrev M_Mo_clash : MethodName × ByteArray × Nat × Option FieldType := (⟨"CueBenchModel", "clash", "()I"⟩, prog_13_method_57_code, 2, some .int)
abbrev M_Law_law : MethodName × ByteArray × Nat × Option FieldType := (⟨"CueBenchLaw", "law", "([I)Z"⟩, code, 4, some .boolean)
