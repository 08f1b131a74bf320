-- names: classes in the order of their kinds; fields in the order of the slots (declaring class, name, descriptor, final)
def nR0 : String := "MatchPipe"
def nFl0 : List (String × String × String × Bool) := [("MatchPipe", "line", "LMatchPipe$Line;", true), ("MatchPipe", "program", "LMatchPipe$Program;", true), ("MatchPipe", "layout", "LMatchPipe$Layout;", true), ("MatchPipe", "latestKey", "LMatchPipe$Entry;", true), ("MatchPipe", "ready", "LMatchPipe$Bits;", true), ("MatchPipe", "tape", "LMatchPipe$Bits;", true), ("MatchPipe", "tapeBytes", "I", false)]
def nF0 : u_T := fun k => nFl0.getD k ("", "", "", false)
def nTl0 : List FieldType := [.object "MatchPipe$Line", .object "MatchPipe$Program", .object "MatchPipe$Layout", .object "MatchPipe$Entry", .object "MatchPipe$Bits", .object "MatchPipe$Bits", .int]
def nT0 : Nat → FieldType := fun k => nTl0.getD k .int
def nR1 : String := "MatchPipe$Program"
def nFl1 : List (String × String × String × Bool) := [("MatchPipe$Program", "width", "[I", true), ("MatchPipe$Program", "states", "[LMatchPipe$State;", true), ("MatchPipe$Program", "actions", "[LMatchPipe$Action;", true), ("MatchPipe$Program", "tables", "[LMatchPipe$Table;", true), ("MatchPipe$Program", "steps", "[LMatchPipe$Step;", true), ("MatchPipe$Program", "fieldCount", "I", false), ("MatchPipe$Program", "stateCount", "I", false), ("MatchPipe$Program", "actionCount", "I", false), ("MatchPipe$Program", "tableCount", "I", false), ("MatchPipe$Program", "stepCount", "I", false)]
def nF1 : u_T := fun k => nFl1.getD k ("", "", "", false)
def nTl1 : List FieldType := [.array .int, .array (.object "MatchPipe$State"), .array (.object "MatchPipe$Action"), .array (.object "MatchPipe$Table"), .array (.object "MatchPipe$Step"), .int, .int, .int, .int, .int]
def nT1 : Nat → FieldType := fun k => nTl1.getD k .int
def nR2 : String := "MatchPipe$State"
def nFl2 : List (String × String × String × Bool) := [("MatchPipe$State", "taken", "[I", true), ("MatchPipe$State", "value", "[I", true), ("MatchPipe$State", "mask", "[I", true), ("MatchPipe$State", "to", "[I", true), ("MatchPipe$State", "takenCount", "I", false), ("MatchPipe$State", "chooser", "I", false), ("MatchPipe$State", "caseCount", "I", false), ("MatchPipe$State", "elsewhere", "I", false)]
def nF2 : u_T := fun k => nFl2.getD k ("", "", "", false)
def nTl2 : List FieldType := [.array .int, .array .int, .array .int, .array .int, .int, .int, .int, .int]
def nT2 : Nat → FieldType := fun k => nTl2.getD k .int
def nR3 : String := "MatchPipe$Action"
def nFl3 : List (String × String × String × Bool) := [("MatchPipe$Action", "kind", "[I", true), ("MatchPipe$Action", "x", "[I", true), ("MatchPipe$Action", "y", "[I", true), ("MatchPipe$Action", "z", "[I", true), ("MatchPipe$Action", "doingCount", "I", false)]
def nF3 : u_T := fun k => nFl3.getD k ("", "", "", false)
def nTl3 : List FieldType := [.array .int, .array .int, .array .int, .array .int, .int]
def nT3 : Nat → FieldType := fun k => nTl3.getD k .int
def nR4 : String := "MatchPipe$Table"
def nFl4 : List (String × String × String × Bool) := [("MatchPipe$Table", "rows", "[LMatchPipe$Entry;", true), ("MatchPipe$Table", "entryCount", "I", false), ("MatchPipe$Table", "keyF", "I", false), ("MatchPipe$Table", "onesF", "I", false), ("MatchPipe$Table", "howF", "I", false), ("MatchPipe$Table", "keyG", "I", false), ("MatchPipe$Table", "onesG", "I", false), ("MatchPipe$Table", "howG", "I", false), ("MatchPipe$Table", "actions", "I", false), ("MatchPipe$Table", "miss", "I", false)]
def nF4 : u_T := fun k => nFl4.getD k ("", "", "", false)
def nTl4 : List FieldType := [.array (.object "MatchPipe$Entry"), .int, .int, .int, .int, .int, .int, .int, .int, .int]
def nT4 : Nat → FieldType := fun k => nTl4.getD k .int
def nR5 : String := "MatchPipe$Entry"
def nFl5 : List (String × String × String × Bool) := [("MatchPipe$Entry", "valueF", "I", false), ("MatchPipe$Entry", "maskF", "I", false), ("MatchPipe$Entry", "valueG", "I", false), ("MatchPipe$Entry", "maskG", "I", false), ("MatchPipe$Entry", "priority", "I", false), ("MatchPipe$Entry", "action", "I", false), ("MatchPipe$Entry", "first", "I", false), ("MatchPipe$Entry", "second", "I", false)]
def nF5 : u_T := fun k => nFl5.getD k ("", "", "", false)
def nTl5 : List FieldType := [.int, .int, .int, .int, .int, .int, .int, .int]
def nT5 : Nat → FieldType := fun k => nTl5.getD k .int
def nR6 : String := "MatchPipe$Step"
def nFl6 : List (String × String × String × Bool) := [("MatchPipe$Step", "table", "I", false), ("MatchPipe$Step", "tested", "I", false), ("MatchPipe$Step", "relation", "I", false), ("MatchPipe$Step", "compared", "I", false), ("MatchPipe$Step", "to", "I", false)]
def nF6 : u_T := fun k => nFl6.getD k ("", "", "", false)
def nTl6 : List FieldType := [.int, .int, .int, .int, .int]
def nT6 : Nat → FieldType := fun k => nTl6.getD k .int
def nR7 : String := "MatchPipe$Layout"
def nFl7 : List (String × String × String × Bool) := [("MatchPipe$Layout", "stageOf", "[I", true), ("MatchPipe$Layout", "firstStep", "[I", true), ("MatchPipe$Layout", "tableStage", "[I", true), ("MatchPipe$Layout", "laid", "Z", false), ("MatchPipe$Layout", "stageCount", "I", false), ("MatchPipe$Layout", "fault", "I", false), ("MatchPipe$Layout", "place", "I", false)]
def nF7 : u_T := fun k => nFl7.getD k ("", "", "", false)
def nTl7 : List FieldType := [.array .int, .array .int, .array .int, .boolean, .int, .int, .int]
def nT7 : Nat → FieldType := fun k => nTl7.getD k .int
def nR8 : String := "MatchPipe$Line"
def nFl8 : List (String × String × String × Bool) := [("MatchPipe$Line", "program", "LMatchPipe$Program;", true), ("MatchPipe$Line", "layout", "LMatchPipe$Layout;", true), ("MatchPipe$Line", "places", "[LMatchPipe$Operation;", true), ("MatchPipe$Line", "headers", "[LMatchPipe$Header;", true), ("MatchPipe$Line", "inStage", "[I", true), ("MatchPipe$Line", "arrays", "[I", true), ("MatchPipe$Line", "came", "I", false), ("MatchPipe$Line", "entered", "I", false), ("MatchPipe$Line", "gone", "I", false), ("MatchPipe$Line", "cycles", "I", false)]
def nF8 : u_T := fun k => nFl8.getD k ("", "", "", false)
def nTl8 : List FieldType := [.object "MatchPipe$Program", .object "MatchPipe$Layout", .array (.object "MatchPipe$Operation"), .array (.object "MatchPipe$Header"), .array .int, .array .int, .int, .int, .int, .int]
def nT8 : Nat → FieldType := fun k => nTl8.getD k .int
def nR9 : String := "MatchPipe$Operation"
def nFl9 : List (String × String × String × Bool) := [("MatchPipe$Operation", "entry", "LMatchPipe$Entry;", true), ("MatchPipe$Operation", "bits", "LMatchPipe$Bits;", true), ("MatchPipe$Operation", "bytes", "I", false), ("MatchPipe$Operation", "kind", "I", false), ("MatchPipe$Operation", "table", "I", false), ("MatchPipe$Operation", "outcome", "I", false), ("MatchPipe$Operation", "port", "I", false), ("MatchPipe$Operation", "cycle", "I", false)]
def nF9 : u_T := fun k => nFl9.getD k ("", "", "", false)
def nTl9 : List FieldType := [.object "MatchPipe$Entry", .object "MatchPipe$Bits", .int, .int, .int, .int, .int, .int]
def nT9 : Nat → FieldType := fun k => nTl9.getD k .int
def nR10 : String := "MatchPipe$Bits"
def nFl10 : List (String × String × String × Bool) := [("MatchPipe$Bits", "words", "[I", true)]
def nF10 : u_T := fun k => nFl10.getD k ("", "", "", false)
def nTl10 : List FieldType := [.array .int]
def nT10 : Nat → FieldType := fun k => nTl10.getD k .int
def nR11 : String := "MatchPipe$Header"
def nFl11 : List (String × String × String × Bool) := [("MatchPipe$Header", "words", "[I", true), ("MatchPipe$Header", "order", "[I", true), ("MatchPipe$Header", "taken", "I", false), ("MatchPipe$Header", "takenBits", "I", false), ("MatchPipe$Header", "readFields", "I", false), ("MatchPipe$Header", "nextStep", "I", false), ("MatchPipe$Header", "port", "I", false), ("MatchPipe$Header", "dropped", "Z", false)]
def nF11 : u_T := fun k => nFl11.getD k ("", "", "", false)
def nTl11 : List FieldType := [.array .int, .array .int, .int, .int, .int, .int, .int, .boolean]
def nT11 : Nat → FieldType := fun k => nTl11.getD k .int
def nR12 : String := "MatchPipeModel"
def nFl12 : List (String × String × String × Bool) := [("MatchPipeModel", "thrown", "I", false), ("MatchPipeModel", "fields", "I", false), ("MatchPipeModel", "states", "I", false), ("MatchPipeModel", "actions", "I", false), ("MatchPipeModel", "tables", "I", false), ("MatchPipeModel", "steps", "I", false), ("MatchPipeModel", "stages", "I", false), ("MatchPipeModel", "isLaid", "Z", false), ("MatchPipeModel", "widths", "[I", true), ("MatchPipeModel", "stateField", "[I", true), ("MatchPipeModel", "stateOn", "[I", true), ("MatchPipeModel", "stateCases", "[I", true), ("MatchPipeModel", "caseValue", "[I", true), ("MatchPipeModel", "caseMask", "[I", true), ("MatchPipeModel", "caseTo", "[I", true), ("MatchPipeModel", "stateElse", "[I", true), ("MatchPipeModel", "doings", "[I", true), ("MatchPipeModel", "kinds", "[I", true), ("MatchPipeModel", "xs", "[I", true), ("MatchPipeModel", "ys", "[I", true), ("MatchPipeModel", "zs", "[I", true), ("MatchPipeModel", "keyF", "[I", true), ("MatchPipeModel", "keyG", "[I", true), ("MatchPipeModel", "howF", "[I", true), ("MatchPipeModel", "howG", "[I", true), ("MatchPipeModel", "tableActions", "[I", true), ("MatchPipeModel", "tableMiss", "[I", true), ("MatchPipeModel", "stepTable", "[I", true), ("MatchPipeModel", "stepField", "[I", true), ("MatchPipeModel", "stepRelation", "[I", true), ("MatchPipeModel", "stepWord", "[I", true), ("MatchPipeModel", "stepTo", "[I", true), ("MatchPipeModel", "stepStage", "[I", true), ("MatchPipeModel", "fault", "I", false), ("MatchPipeModel", "place", "I", false), ("MatchPipeModel", "entries", "[I", true), ("MatchPipeModel", "valueF", "[I", true), ("MatchPipeModel", "maskF", "[I", true), ("MatchPipeModel", "valueG", "[I", true), ("MatchPipeModel", "maskG", "[I", true), ("MatchPipeModel", "rank", "[I", true), ("MatchPipeModel", "entryAction", "[I", true), ("MatchPipeModel", "datum0", "[I", true), ("MatchPipeModel", "datum1", "[I", true), ("MatchPipeModel", "words", "[I", true), ("MatchPipeModel", "ready", "[I", true), ("MatchPipeModel", "tape", "[I", true), ("MatchPipeModel", "taped", "I", false), ("MatchPipeModel", "key0", "I", false), ("MatchPipeModel", "key1", "I", false), ("MatchPipeModel", "key2", "I", false), ("MatchPipeModel", "key3", "I", false), ("MatchPipeModel", "came", "I", false), ("MatchPipeModel", "inLine", "I", false), ("MatchPipeModel", "wentIn", "I", false), ("MatchPipeModel", "wentOut", "I", false), ("MatchPipeModel", "cycles", "I", false), ("MatchPipeModel", "lineKind", "[I", true), ("MatchPipeModel", "lineMany", "[I", true), ("MatchPipeModel", "lineBytes", "[I", true), ("MatchPipeModel", "lineTable", "[I", true), ("MatchPipeModel", "lineKeys", "[I", true), ("MatchPipeModel", "lineRank", "[I", true), ("MatchPipeModel", "lineAction", "[I", true), ("MatchPipeModel", "line0", "[I", true), ("MatchPipeModel", "line1", "[I", true), ("MatchPipeModel", "toldKind", "[I", true), ("MatchPipeModel", "toldHow", "[I", true), ("MatchPipeModel", "toldPort", "[I", true), ("MatchPipeModel", "toldMany", "[I", true), ("MatchPipeModel", "toldBytes", "[I", true), ("MatchPipeModel", "cameIn", "[I", true), ("MatchPipeModel", "comes", "[Z", true), ("MatchPipeModel", "readMany", "I", false), ("MatchPipeModel", "bits", "I", false), ("MatchPipeModel", "port", "I", false), ("MatchPipeModel", "drops", "Z", false), ("MatchPipeModel", "now", "[I", true), ("MatchPipeModel", "order", "[I", true), ("MatchPipeModel", "wasRead", "[Z", true)]
def nF12 : u_T := fun k => nFl12.getD k ("", "", "", false)
def nTl12 : List FieldType := [.int, .int, .int, .int, .int, .int, .int, .boolean, .array .int, .array .int, .array .int, .array .int, .array .int, .array .int, .array .int, .array .int, .array .int, .array .int, .array .int, .array .int, .array .int, .array .int, .array .int, .array .int, .array .int, .array .int, .array .int, .array .int, .array .int, .array .int, .array .int, .array .int, .array .int, .int, .int, .array .int, .array .int, .array .int, .array .int, .array .int, .array .int, .array .int, .array .int, .array .int, .array .int, .array .int, .array .int, .int, .int, .int, .int, .int, .int, .int, .int, .int, .int, .array .int, .array .int, .array .int, .array .int, .array .int, .array .int, .array .int, .array .int, .array .int, .array .int, .array .int, .array .int, .array .int, .array .int, .array .int, .array .boolean, .int, .int, .int, .boolean, .array .int, .array .int, .array .boolean]
def nT12 : Nat → FieldType := fun k => nTl12.getD k .int
abbrev classes : List vw_C := [(nR0, nF0, 7), (nR1, nF1, 10), (nR2, nF2, 8), (nR3, nF3, 5), (nR4, nF4, 10), (nR5, nF5, 8), (nR6, nF6, 5), (nR7, nF7, 7), (nR8, nF8, 10), (nR9, nF9, 8), (nR10, nF10, 1), (nR11, nF11, 8), (nR12, nF12, 80)]
/-- a slot: 0 int, 1 reference, 2 boolean -/
def slots_l : List (List Nat) := [[1, 1, 1, 1, 1, 1, 0], [1, 1, 1, 1, 1, 0, 0, 0, 0, 0], [1, 1, 1, 1, 0, 0, 0, 0], [1, 1, 1, 1, 0], [1, 0, 0, 0, 0, 0, 0, 0, 0, 0], [0, 0, 0, 0, 0, 0, 0, 0], [0, 0, 0, 0, 0], [1, 1, 1, 2, 0, 0, 0], [1, 1, 1, 1, 1, 1, 0, 0, 0, 0], [1, 1, 0, 0, 0, 0, 0, 0], [1], [1, 1, 0, 0, 0, 0, 0, 2], [0, 0, 0, 0, 0, 0, 0, 2, 1, 1, 1, 1, 1, 1, 1, 1, 1, 1, 1, 1, 1, 1, 1, 1, 1, 1, 1, 1, 1, 1, 1, 1, 1, 0, 0, 1, 1, 1, 1, 1, 1, 1, 1, 1, 1, 1, 1, 0, 0, 0, 0, 0, 0, 0, 0, 0, 0, 1, 1, 1, 1, 1, 1, 1, 1, 1, 1, 1, 1, 1, 1, 1, 1, 0, 0, 0, 2, 1, 1, 1]]
def sTy (kd k : Nat) : Nat := (slots_l.getD kd []).getD k 0
def sN (kd : Nat) : Nat := (slots_l.getD kd []).length
/-- the words that live through every call -/
def gT : List Cond := lw_tbl.filter goodWord
theorem gT_in {w : Cond} (i : Nat) (h : lw_tbl[i]? = some w) (hg : goodWord w = true) : w ∈ gT := List.mem_filter.mpr ⟨List.mem_of_getElem? h, hg⟩
theorem nNm0 : ∀ a, a < 7 → ∀ b, b < 7 → a ≠ b → (nF0 a).2.1 ≠ (nF0 b).2.1 := by decide +kernel
theorem nTy0 : ∀ k, k < 7 → parseFieldDescriptor (nF0 k).2.2.1 = some (nT0 k) := by decide +kernel
theorem nIn0 : ∀ w ∈ u_ws nR0 nF0 7, w ∈ gT := by
  have h : (u_ws nR0 nF0 7).all (fun w => decide (w ∈ lw_tbl) && goodWord w) = true := by decide +kernel
  intro w hw
  have h1 := List.all_eq_true.mp h w hw
  rw [Bool.and_eq_true, decide_eq_true_eq] at h1
  exact List.mem_filter.mpr h1
theorem nNm1 : ∀ a, a < 10 → ∀ b, b < 10 → a ≠ b → (nF1 a).2.1 ≠ (nF1 b).2.1 := by decide +kernel
theorem nTy1 : ∀ k, k < 10 → parseFieldDescriptor (nF1 k).2.2.1 = some (nT1 k) := by decide +kernel
theorem nIn1 : ∀ w ∈ u_ws nR1 nF1 10, w ∈ gT := by
  have h : (u_ws nR1 nF1 10).all (fun w => decide (w ∈ lw_tbl) && goodWord w) = true := by decide +kernel
  intro w hw
  have h1 := List.all_eq_true.mp h w hw
  rw [Bool.and_eq_true, decide_eq_true_eq] at h1
  exact List.mem_filter.mpr h1
theorem nNm2 : ∀ a, a < 8 → ∀ b, b < 8 → a ≠ b → (nF2 a).2.1 ≠ (nF2 b).2.1 := by decide +kernel
theorem nTy2 : ∀ k, k < 8 → parseFieldDescriptor (nF2 k).2.2.1 = some (nT2 k) := by decide +kernel
theorem nIn2 : ∀ w ∈ u_ws nR2 nF2 8, w ∈ gT := by
  have h : (u_ws nR2 nF2 8).all (fun w => decide (w ∈ lw_tbl) && goodWord w) = true := by decide +kernel
  intro w hw
  have h1 := List.all_eq_true.mp h w hw
  rw [Bool.and_eq_true, decide_eq_true_eq] at h1
  exact List.mem_filter.mpr h1
theorem nNm3 : ∀ a, a < 5 → ∀ b, b < 5 → a ≠ b → (nF3 a).2.1 ≠ (nF3 b).2.1 := by decide +kernel
theorem nTy3 : ∀ k, k < 5 → parseFieldDescriptor (nF3 k).2.2.1 = some (nT3 k) := by decide +kernel
theorem nIn3 : ∀ w ∈ u_ws nR3 nF3 5, w ∈ gT := by
  have h : (u_ws nR3 nF3 5).all (fun w => decide (w ∈ lw_tbl) && goodWord w) = true := by decide +kernel
  intro w hw
  have h1 := List.all_eq_true.mp h w hw
  rw [Bool.and_eq_true, decide_eq_true_eq] at h1
  exact List.mem_filter.mpr h1
theorem nNm4 : ∀ a, a < 10 → ∀ b, b < 10 → a ≠ b → (nF4 a).2.1 ≠ (nF4 b).2.1 := by decide +kernel
theorem nTy4 : ∀ k, k < 10 → parseFieldDescriptor (nF4 k).2.2.1 = some (nT4 k) := by decide +kernel
theorem nIn4 : ∀ w ∈ u_ws nR4 nF4 10, w ∈ gT := by
  have h : (u_ws nR4 nF4 10).all (fun w => decide (w ∈ lw_tbl) && goodWord w) = true := by decide +kernel
  intro w hw
  have h1 := List.all_eq_true.mp h w hw
  rw [Bool.and_eq_true, decide_eq_true_eq] at h1
  exact List.mem_filter.mpr h1
theorem nNm5 : ∀ a, a < 8 → ∀ b, b < 8 → a ≠ b → (nF5 a).2.1 ≠ (nF5 b).2.1 := by decide +kernel
theorem nTy5 : ∀ k, k < 8 → parseFieldDescriptor (nF5 k).2.2.1 = some (nT5 k) := by decide +kernel
theorem nIn5 : ∀ w ∈ u_ws nR5 nF5 8, w ∈ gT := by
  have h : (u_ws nR5 nF5 8).all (fun w => decide (w ∈ lw_tbl) && goodWord w) = true := by decide +kernel
  intro w hw
  have h1 := List.all_eq_true.mp h w hw
  rw [Bool.and_eq_true, decide_eq_true_eq] at h1
  exact List.mem_filter.mpr h1
theorem nNm6 : ∀ a, a < 5 → ∀ b, b < 5 → a ≠ b → (nF6 a).2.1 ≠ (nF6 b).2.1 := by decide +kernel
theorem nTy6 : ∀ k, k < 5 → parseFieldDescriptor (nF6 k).2.2.1 = some (nT6 k) := by decide +kernel
theorem nIn6 : ∀ w ∈ u_ws nR6 nF6 5, w ∈ gT := by
  have h : (u_ws nR6 nF6 5).all (fun w => decide (w ∈ lw_tbl) && goodWord w) = true := by decide +kernel
  intro w hw
  have h1 := List.all_eq_true.mp h w hw
  rw [Bool.and_eq_true, decide_eq_true_eq] at h1
  exact List.mem_filter.mpr h1
theorem nNm7 : ∀ a, a < 7 → ∀ b, b < 7 → a ≠ b → (nF7 a).2.1 ≠ (nF7 b).2.1 := by decide +kernel
theorem nTy7 : ∀ k, k < 7 → parseFieldDescriptor (nF7 k).2.2.1 = some (nT7 k) := by decide +kernel
theorem nIn7 : ∀ w ∈ u_ws nR7 nF7 7, w ∈ gT := by
  have h : (u_ws nR7 nF7 7).all (fun w => decide (w ∈ lw_tbl) && goodWord w) = true := by decide +kernel
  intro w hw
  have h1 := List.all_eq_true.mp h w hw
  rw [Bool.and_eq_true, decide_eq_true_eq] at h1
  exact List.mem_filter.mpr h1
theorem nNm8 : ∀ a, a < 10 → ∀ b, b < 10 → a ≠ b → (nF8 a).2.1 ≠ (nF8 b).2.1 := by decide +kernel
theorem nTy8 : ∀ k, k < 10 → parseFieldDescriptor (nF8 k).2.2.1 = some (nT8 k) := by decide +kernel
theorem nIn8 : ∀ w ∈ u_ws nR8 nF8 10, w ∈ gT := by
  have h : (u_ws nR8 nF8 10).all (fun w => decide (w ∈ lw_tbl) && goodWord w) = true := by decide +kernel
  intro w hw
  have h1 := List.all_eq_true.mp h w hw
  rw [Bool.and_eq_true, decide_eq_true_eq] at h1
  exact List.mem_filter.mpr h1
theorem nNm9 : ∀ a, a < 8 → ∀ b, b < 8 → a ≠ b → (nF9 a).2.1 ≠ (nF9 b).2.1 := by decide +kernel
theorem nTy9 : ∀ k, k < 8 → parseFieldDescriptor (nF9 k).2.2.1 = some (nT9 k) := by decide +kernel
theorem nIn9 : ∀ w ∈ u_ws nR9 nF9 8, w ∈ gT := by
  have h : (u_ws nR9 nF9 8).all (fun w => decide (w ∈ lw_tbl) && goodWord w) = true := by decide +kernel
  intro w hw
  have h1 := List.all_eq_true.mp h w hw
  rw [Bool.and_eq_true, decide_eq_true_eq] at h1
  exact List.mem_filter.mpr h1
theorem nNm10 : ∀ a, a < 1 → ∀ b, b < 1 → a ≠ b → (nF10 a).2.1 ≠ (nF10 b).2.1 := by decide +kernel
theorem nTy10 : ∀ k, k < 1 → parseFieldDescriptor (nF10 k).2.2.1 = some (nT10 k) := by decide +kernel
theorem nIn10 : ∀ w ∈ u_ws nR10 nF10 1, w ∈ gT := by
  have h : (u_ws nR10 nF10 1).all (fun w => decide (w ∈ lw_tbl) && goodWord w) = true := by decide +kernel
  intro w hw
  have h1 := List.all_eq_true.mp h w hw
  rw [Bool.and_eq_true, decide_eq_true_eq] at h1
  exact List.mem_filter.mpr h1
theorem nNm11 : ∀ a, a < 8 → ∀ b, b < 8 → a ≠ b → (nF11 a).2.1 ≠ (nF11 b).2.1 := by decide +kernel
theorem nTy11 : ∀ k, k < 8 → parseFieldDescriptor (nF11 k).2.2.1 = some (nT11 k) := by decide +kernel
theorem nIn11 : ∀ w ∈ u_ws nR11 nF11 8, w ∈ gT := by
  have h : (u_ws nR11 nF11 8).all (fun w => decide (w ∈ lw_tbl) && goodWord w) = true := by decide +kernel
  intro w hw
  have h1 := List.all_eq_true.mp h w hw
  rw [Bool.and_eq_true, decide_eq_true_eq] at h1
  exact List.mem_filter.mpr h1
theorem nNm12 : ∀ a, a < 80 → ∀ b, b < 80 → a ≠ b → (nF12 a).2.1 ≠ (nF12 b).2.1 := by decide +kernel
theorem nTy12 : ∀ k, k < 80 → parseFieldDescriptor (nF12 k).2.2.1 = some (nT12 k) := by decide +kernel
theorem nIn12 : ∀ w ∈ u_ws nR12 nF12 80, w ∈ gT := by
  have h : (u_ws nR12 nF12 80).all (fun w => decide (w ∈ lw_tbl) && goodWord w) = true := by decide +kernel
  intro w hw
  have h1 := List.all_eq_true.mp h w hw
  rw [Bool.and_eq_true, decide_eq_true_eq] at h1
  exact List.mem_filter.mpr h1
