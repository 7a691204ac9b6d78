section
def TRp : u_T := fun k => match k with
  | 0 => ("RunProver", "tape", "[B", true)
  | 1 => ("RunProver", "program", "LRunProver$Program;", true)
  | 2 => ("RunProver", "parser", "LRunProver$Parser;", true)
  | 3 => ("RunProver", "gates", "LRunProver$Gates;", true)
  | 4 => ("RunProver", "unroller", "LRunProver$Unroller;", true)
  | 5 => ("RunProver", "clauses", "LRunProver$Clauses;", true)
  | 6 => ("RunProver", "checker", "LRunProver$Checker;", true)
  | 7 => ("RunProver", "search", "LRunProver$Search;", true)
  | 8 => ("RunProver", "inputs", "[I", true)
  | 9 => ("RunProver", "goals", "[I", true)
  | 10 => ("RunProver", "goalCount", "I", false)
  | 11 => ("RunProver", "tapeLength", "I", false)
  | 12 => ("RunProver", "faultKind", "I", false)
  | 13 => ("RunProver", "faultPlace", "I", false)
  | 14 => ("RunProver", "hasText", "Z", false)
  | _ => ("RunProver", "unproved", "I", false)
def tyRp : Nat → FieldType := fun k => match k with
  | 0 => .array .byte
  | 1 => .object "RunProver$Program"
  | 2 => .object "RunProver$Parser"
  | 3 => .object "RunProver$Gates"
  | 4 => .object "RunProver$Unroller"
  | 5 => .object "RunProver$Clauses"
  | 6 => .object "RunProver$Checker"
  | 7 => .object "RunProver$Search"
  | 8 => .array .int
  | 9 => .array .int
  | 10 => .int
  | 11 => .int
  | 12 => .int
  | 13 => .int
  | 14 => .boolean
  | _ => .int
theorem nmRp : ∀ a, a < 16 → ∀ b, b < 16 → a ≠ b → (TRp a).2.1 ≠ (TRp b).2.1 := by decide +kernel
theorem tyRp_ok : ∀ k, k < 16 → parseFieldDescriptor (TRp k).2.2.1 = some (tyRp k) := by decide +kernel
def TPg : u_T := fun k => match k with
  | 0 => ("RunProver$Program", "rows", "[I", true)
  | 1 => ("RunProver$Program", "functions", "[I", true)
  | 2 => ("RunProver$Program", "codes", "[I", true)
  | 3 => ("RunProver$Program", "operands", "[I", true)
  | 4 => ("RunProver$Program", "slotFirst", "[I", true)
  | 5 => ("RunProver$Program", "slotSize", "[I", true)
  | 6 => ("RunProver$Program", "checkKinds", "[I", true)
  | 7 => ("RunProver$Program", "checkPlaces", "[I", true)
  | 8 => ("RunProver$Program", "statements", "I", false)
  | 9 => ("RunProver$Program", "functionCount", "I", false)
  | 10 => ("RunProver$Program", "codeSize", "I", false)
  | 11 => ("RunProver$Program", "slots", "I", false)
  | 12 => ("RunProver$Program", "elements", "I", false)
  | 13 => ("RunProver$Program", "checks", "I", false)
  | 14 => ("RunProver$Program", "width", "I", false)
  | 15 => ("RunProver$Program", "costs", "I", false)
  | _ => ("RunProver$Program", "first", "I", false)
def tyPg : Nat → FieldType := fun k => match k with
  | 0 => .array .int
  | 1 => .array .int
  | 2 => .array .int
  | 3 => .array .int
  | 4 => .array .int
  | 5 => .array .int
  | 6 => .array .int
  | 7 => .array .int
  | 8 => .int
  | 9 => .int
  | 10 => .int
  | 11 => .int
  | 12 => .int
  | 13 => .int
  | 14 => .int
  | 15 => .int
  | _ => .int
theorem nmPg : ∀ a, a < 17 → ∀ b, b < 17 → a ≠ b → (TPg a).2.1 ≠ (TPg b).2.1 := by decide +kernel
theorem tyPg_ok : ∀ k, k < 17 → parseFieldDescriptor (TPg k).2.2.1 = some (tyPg k) := by decide +kernel
def TPa : u_T := fun k => match k with
  | 0 => ("RunProver$Parser", "tokens", "LRunProver$Tokens;", true)
  | 1 => ("RunProver$Parser", "names", "LRunProver$Names;", true)
  | 2 => ("RunProver$Parser", "program", "LRunProver$Program;", true)
  | 3 => ("RunProver$Parser", "expressions", "LRunProver$Expressions;", true)
  | _ => ("RunProver$Parser", "bits", "I", false)
def tyPa : Nat → FieldType := fun k => match k with
  | 0 => .object "RunProver$Tokens"
  | 1 => .object "RunProver$Names"
  | 2 => .object "RunProver$Program"
  | 3 => .object "RunProver$Expressions"
  | _ => .int
theorem nmPa : ∀ a, a < 5 → ∀ b, b < 5 → a ≠ b → (TPa a).2.1 ≠ (TPa b).2.1 := by decide +kernel
theorem tyPa_ok : ∀ k, k < 5 → parseFieldDescriptor (TPa k).2.2.1 = some (tyPa k) := by decide +kernel
def TNm : u_T := fun k => match k with
  | 0 => ("RunProver$Names", "places", "[I", true)
  | 1 => ("RunProver$Names", "sizes", "[I", true)
  | 2 => ("RunProver$Names", "kinds", "[I", true)
  | 3 => ("RunProver$Names", "numbers", "[I", true)
  | _ => ("RunProver$Names", "amount", "I", false)
def tyNm : Nat → FieldType := fun k => match k with
  | 0 => .array .int
  | 1 => .array .int
  | 2 => .array .int
  | 3 => .array .int
  | _ => .int
theorem nmNm : ∀ a, a < 5 → ∀ b, b < 5 → a ≠ b → (TNm a).2.1 ≠ (TNm b).2.1 := by decide +kernel
theorem tyNm_ok : ∀ k, k < 5 → parseFieldDescriptor (TNm k).2.2.1 = some (tyNm k) := by decide +kernel
def TTk : u_T := fun k => match k with
  | 0 => ("RunProver$Tokens", "kinds", "[I", true)
  | 1 => ("RunProver$Tokens", "places", "[I", true)
  | 2 => ("RunProver$Tokens", "details", "[I", true)
  | 3 => ("RunProver$Tokens", "text", "[B", true)
  | 4 => ("RunProver$Tokens", "length", "I", false)
  | 5 => ("RunProver$Tokens", "amount", "I", false)
  | 6 => ("RunProver$Tokens", "at", "I", false)
  | 7 => ("RunProver$Tokens", "kind", "I", false)
  | 8 => ("RunProver$Tokens", "place", "I", false)
  | 9 => ("RunProver$Tokens", "detail", "I", false)
  | 10 => ("RunProver$Tokens", "faultKind", "I", false)
  | _ => ("RunProver$Tokens", "faultPlace", "I", false)
def tyTk : Nat → FieldType := fun k => match k with
  | 0 => .array .int
  | 1 => .array .int
  | 2 => .array .int
  | 3 => .array .byte
  | 4 => .int
  | 5 => .int
  | 6 => .int
  | 7 => .int
  | 8 => .int
  | 9 => .int
  | 10 => .int
  | _ => .int
theorem nmTk : ∀ a, a < 12 → ∀ b, b < 12 → a ≠ b → (TTk a).2.1 ≠ (TTk b).2.1 := by decide +kernel
theorem tyTk_ok : ∀ k, k < 12 → parseFieldDescriptor (TTk k).2.2.1 = some (tyTk k) := by decide +kernel
def TEx : u_T := fun k => match k with
  | 0 => ("RunProver$Expressions", "tokens", "LRunProver$Tokens;", true)
  | 1 => ("RunProver$Expressions", "names", "LRunProver$Names;", true)
  | 2 => ("RunProver$Expressions", "program", "LRunProver$Program;", true)
  | 3 => ("RunProver$Expressions", "waiting", "[I", true)
  | 4 => ("RunProver$Expressions", "waitingDepth", "[I", true)
  | 5 => ("RunProver$Expressions", "waitingCount", "I", false)
  | 6 => ("RunProver$Expressions", "inFunction", "Z", false)
  | 7 => ("RunProver$Expressions", "cost", "I", false)
  | _ => ("RunProver$Expressions", "deepest", "I", false)
def tyEx : Nat → FieldType := fun k => match k with
  | 0 => .object "RunProver$Tokens"
  | 1 => .object "RunProver$Names"
  | 2 => .object "RunProver$Program"
  | 3 => .array .int
  | 4 => .array .int
  | 5 => .int
  | 6 => .boolean
  | 7 => .int
  | _ => .int
theorem nmEx : ∀ a, a < 9 → ∀ b, b < 9 → a ≠ b → (TEx a).2.1 ≠ (TEx b).2.1 := by decide +kernel
theorem tyEx_ok : ∀ k, k < 9 → parseFieldDescriptor (TEx k).2.2.1 = some (tyEx k) := by decide +kernel
def TGa : u_T := fun k => match k with
  | 0 => ("RunProver$Gates", "kinds", "[B", true)
  | 1 => ("RunProver$Gates", "first", "[I", true)
  | 2 => ("RunProver$Gates", "second", "[I", true)
  | 3 => ("RunProver$Gates", "third", "[I", true)
  | 4 => ("RunProver$Gates", "truth", "[B", true)
  | 5 => ("RunProver$Gates", "wanted", "[B", true)
  | 6 => ("RunProver$Gates", "table", "[I", true)
  | 7 => ("RunProver$Gates", "behind", "[I", true)
  | _ => ("RunProver$Gates", "size", "I", false)
def tyGa : Nat → FieldType := fun k => match k with
  | 0 => .array .byte
  | 1 => .array .int
  | 2 => .array .int
  | 3 => .array .int
  | 4 => .array .byte
  | 5 => .array .byte
  | 6 => .array .int
  | 7 => .array .int
  | _ => .int
theorem nmGa : ∀ a, a < 9 → ∀ b, b < 9 → a ≠ b → (TGa a).2.1 ≠ (TGa b).2.1 := by decide +kernel
theorem tyGa_ok : ∀ k, k < 9 → parseFieldDescriptor (TGa k).2.2.1 = some (tyGa k) := by decide +kernel
def TUn : u_T := fun k => match k with
  | 0 => ("RunProver$Unroller", "program", "LRunProver$Program;", true)
  | 1 => ("RunProver$Unroller", "gates", "LRunProver$Gates;", true)
  | 2 => ("RunProver$Unroller", "words", "LRunProver$Words;", true)
  | 3 => ("RunProver$Unroller", "callAt", "[I", true)
  | 4 => ("RunProver$Unroller", "callStop", "[I", true)
  | 5 => ("RunProver$Unroller", "callFrame", "[I", true)
  | 6 => ("RunProver$Unroller", "cells", "[I", true)
  | 7 => ("RunProver$Unroller", "on", "I", false)
  | 8 => ("RunProver$Unroller", "broken", "[I", true)
  | 9 => ("RunProver$Unroller", "reached", "[I", true)
  | 10 => ("RunProver$Unroller", "inputSizes", "[I", true)
  | 11 => ("RunProver$Unroller", "inputCount", "I", false)
  | 12 => ("RunProver$Unroller", "bitNodes", "[I", true)
  | _ => ("RunProver$Unroller", "bitCount", "I", false)
def tyUn : Nat → FieldType := fun k => match k with
  | 0 => .object "RunProver$Program"
  | 1 => .object "RunProver$Gates"
  | 2 => .object "RunProver$Words"
  | 3 => .array .int
  | 4 => .array .int
  | 5 => .array .int
  | 6 => .array .int
  | 7 => .int
  | 8 => .array .int
  | 9 => .array .int
  | 10 => .array .int
  | 11 => .int
  | 12 => .array .int
  | _ => .int
theorem nmUn : ∀ a, a < 14 → ∀ b, b < 14 → a ≠ b → (TUn a).2.1 ≠ (TUn b).2.1 := by decide +kernel
theorem tyUn_ok : ∀ k, k < 14 → parseFieldDescriptor (TUn k).2.2.1 = some (tyUn k) := by decide +kernel
def TWo : u_T := fun k => match k with
  | 0 => ("RunProver$Words", "gates", "LRunProver$Gates;", true)
  | 1 => ("RunProver$Words", "rows", "[I", true)
  | 2 => ("RunProver$Words", "result", "[I", true)
  | 3 => ("RunProver$Words", "difference", "[I", true)
  | 4 => ("RunProver$Words", "tree", "[I", true)
  | 5 => ("RunProver$Words", "width", "I", false)
  | _ => ("RunProver$Words", "top", "I", false)
def tyWo : Nat → FieldType := fun k => match k with
  | 0 => .object "RunProver$Gates"
  | 1 => .array .int
  | 2 => .array .int
  | 3 => .array .int
  | 4 => .array .int
  | 5 => .int
  | _ => .int
theorem nmWo : ∀ a, a < 7 → ∀ b, b < 7 → a ≠ b → (TWo a).2.1 ≠ (TWo b).2.1 := by decide +kernel
theorem tyWo_ok : ∀ k, k < 7 → parseFieldDescriptor (TWo k).2.2.1 = some (tyWo k) := by decide +kernel
def TCl : u_T := fun k => match k with
  | 0 => ("RunProver$Clauses", "literals", "[I", true)
  | 1 => ("RunProver$Clauses", "starts", "[I", true)
  | 2 => ("RunProver$Clauses", "amount", "I", false)
  | _ => ("RunProver$Clauses", "given", "I", false)
def tyCl : Nat → FieldType := fun k => match k with
  | 0 => .array .int
  | 1 => .array .int
  | 2 => .int
  | _ => .int
theorem nmCl : ∀ a, a < 4 → ∀ b, b < 4 → a ≠ b → (TCl a).2.1 ≠ (TCl b).2.1 := by decide +kernel
theorem tyCl_ok : ∀ k, k < 4 → parseFieldDescriptor (TCl k).2.2.1 = some (tyCl k) := by decide +kernel
def TCk : u_T := fun k => match k with
  | 0 => ("RunProver$Checker", "clauses", "LRunProver$Clauses;", true)
  | 1 => ("RunProver$Checker", "truth", "[B", true)
  | 2 => ("RunProver$Checker", "assumed", "[I", true)
  | 3 => ("RunProver$Checker", "assumedCount", "I", false)
  | 4 => ("RunProver$Checker", "refusedOne", "Z", false)
  | _ => ("RunProver$Checker", "refuted", "Z", false)
def tyCk : Nat → FieldType := fun k => match k with
  | 0 => .object "RunProver$Clauses"
  | 1 => .array .byte
  | 2 => .array .int
  | 3 => .int
  | 4 => .boolean
  | _ => .boolean
theorem nmCk : ∀ a, a < 6 → ∀ b, b < 6 → a ≠ b → (TCk a).2.1 ≠ (TCk b).2.1 := by decide +kernel
theorem tyCk_ok : ∀ k, k < 6 → parseFieldDescriptor (TCk k).2.2.1 = some (tyCk k) := by decide +kernel
def TSe : u_T := fun k => match k with
  | 0 => ("RunProver$Search", "clauses", "LRunProver$Clauses;", true)
  | 1 => ("RunProver$Search", "checker", "LRunProver$Checker;", true)
  | 2 => ("RunProver$Search", "watched", "[I", true)
  | 3 => ("RunProver$Search", "nextWatch", "[I", true)
  | 4 => ("RunProver$Search", "firstWatch", "[I", true)
  | 5 => ("RunProver$Search", "truth", "[B", true)
  | 6 => ("RunProver$Search", "level", "[B", true)
  | 7 => ("RunProver$Search", "reason", "[I", true)
  | 8 => ("RunProver$Search", "trail", "[I", true)
  | 9 => ("RunProver$Search", "levelStart", "[I", true)
  | 10 => ("RunProver$Search", "seen", "[B", true)
  | 11 => ("RunProver$Search", "learnt", "[I", true)
  | 12 => ("RunProver$Search", "chain", "[I", true)
  | 13 => ("RunProver$Search", "trailSize", "I", false)
  | 14 => ("RunProver$Search", "done", "I", false)
  | 15 => ("RunProver$Search", "depth", "I", false)
  | 16 => ("RunProver$Search", "learntSize", "I", false)
  | 17 => ("RunProver$Search", "chainSize", "I", false)
  | 18 => ("RunProver$Search", "seenCount", "I", false)
  | 19 => ("RunProver$Search", "seenHere", "I", false)
  | _ => ("RunProver$Search", "decisionsAlone", "Z", false)
def tySe : Nat → FieldType := fun k => match k with
  | 0 => .object "RunProver$Clauses"
  | 1 => .object "RunProver$Checker"
  | 2 => .array .int
  | 3 => .array .int
  | 4 => .array .int
  | 5 => .array .byte
  | 6 => .array .byte
  | 7 => .array .int
  | 8 => .array .int
  | 9 => .array .int
  | 10 => .array .byte
  | 11 => .array .int
  | 12 => .array .int
  | 13 => .int
  | 14 => .int
  | 15 => .int
  | 16 => .int
  | 17 => .int
  | 18 => .int
  | 19 => .int
  | _ => .boolean
theorem nmSe : ∀ a, a < 21 → ∀ b, b < 21 → a ≠ b → (TSe a).2.1 ≠ (TSe b).2.1 := by decide +kernel
theorem tySe_ok : ∀ k, k < 21 → parseFieldDescriptor (TSe k).2.2.1 = some (tySe k) := by decide +kernel
def TMo : u_T := fun k => match k with
  | 0 => ("RunProverModel", "tape", "[B", true)
  | 1 => ("RunProverModel", "size", "I", false)
  | 2 => ("RunProverModel", "thrown", "I", false)
  | 3 => ("RunProverModel", "faultKind", "I", false)
  | 4 => ("RunProverModel", "faultPlace", "I", false)
  | 5 => ("RunProverModel", "there", "Z", false)
  | 6 => ("RunProverModel", "pos", "I", false)
  | 7 => ("RunProverModel", "token", "I", false)
  | 8 => ("RunProverModel", "tokenAt", "I", false)
  | 9 => ("RunProverModel", "tokenEnd", "I", false)
  | 10 => ("RunProverModel", "tokens", "I", false)
  | 11 => ("RunProverModel", "seen", "Z", false)
  | 12 => ("RunProverModel", "wordAt", "[I", true)
  | 13 => ("RunProverModel", "wordSize", "[I", true)
  | 14 => ("RunProverModel", "nameKind", "[I", true)
  | 15 => ("RunProverModel", "nameNumber", "[I", true)
  | 16 => ("RunProverModel", "names", "I", false)
  | 17 => ("RunProverModel", "declared", "I", false)
  | 18 => ("RunProverModel", "width", "I", false)
  | 19 => ("RunProverModel", "elements", "[I", true)
  | 20 => ("RunProverModel", "cellAt", "[I", true)
  | 21 => ("RunProverModel", "things", "I", false)
  | 22 => ("RunProverModel", "cells", "I", false)
  | 23 => ("RunProverModel", "parameters", "[I", true)
  | 24 => ("RunProverModel", "body", "[I", true)
  | 25 => ("RunProverModel", "functions", "I", false)
  | 26 => ("RunProverModel", "sort", "[I", true)
  | 27 => ("RunProverModel", "of", "[I", true)
  | 28 => ("RunProverModel", "kid", "[I", true)
  | 29 => ("RunProverModel", "beside", "[I", true)
  | 30 => ("RunProverModel", "by", "[I", true)
  | 31 => ("RunProverModel", "deep", "[I", true)
  | 32 => ("RunProverModel", "cost", "[I", true)
  | 33 => ("RunProverModel", "nodes", "I", false)
  | 34 => ("RunProverModel", "deepest", "I", false)
  | 35 => ("RunProverModel", "inFunction", "Z", false)
  | 36 => ("RunProverModel", "checks", "I", false)
  | 37 => ("RunProverModel", "program", "I", false)
  | 38 => ("RunProverModel", "bits", "I", false)
  | 39 => ("RunProverModel", "inputs", "I", false)
  | 40 => ("RunProverModel", "checkKind", "[I", true)
  | 41 => ("RunProverModel", "checkAt", "[I", true)
  | 42 => ("RunProverModel", "taken", "[I", true)
  | 43 => ("RunProverModel", "takenBits", "[I", true)
  | 44 => ("RunProverModel", "limitOf", "[I", true)
  | 45 => ("RunProverModel", "bitsOf", "[I", true)
  | 46 => ("RunProverModel", "in", "[I", true)
  | 47 => ("RunProverModel", "read", "[Z", true)
  | 48 => ("RunProverModel", "cell", "[I", true)
  | 49 => ("RunProverModel", "given", "[I", true)
  | 50 => ("RunProverModel", "top", "I", false)
  | 51 => ("RunProverModel", "base", "I", false)
  | 52 => ("RunProverModel", "over", "I", false)
  | 53 => ("RunProverModel", "broken", "I", false)
  | 54 => ("RunProverModel", "came", "[Z", true)
  | _ => ("RunProverModel", "before", "[I", true)
def tyMo : Nat → FieldType := fun k => match k with
  | 0 => .array .byte
  | 1 => .int
  | 2 => .int
  | 3 => .int
  | 4 => .int
  | 5 => .boolean
  | 6 => .int
  | 7 => .int
  | 8 => .int
  | 9 => .int
  | 10 => .int
  | 11 => .boolean
  | 12 => .array .int
  | 13 => .array .int
  | 14 => .array .int
  | 15 => .array .int
  | 16 => .int
  | 17 => .int
  | 18 => .int
  | 19 => .array .int
  | 20 => .array .int
  | 21 => .int
  | 22 => .int
  | 23 => .array .int
  | 24 => .array .int
  | 25 => .int
  | 26 => .array .int
  | 27 => .array .int
  | 28 => .array .int
  | 29 => .array .int
  | 30 => .array .int
  | 31 => .array .int
  | 32 => .array .int
  | 33 => .int
  | 34 => .int
  | 35 => .boolean
  | 36 => .int
  | 37 => .int
  | 38 => .int
  | 39 => .int
  | 40 => .array .int
  | 41 => .array .int
  | 42 => .array .int
  | 43 => .array .int
  | 44 => .array .int
  | 45 => .array .int
  | 46 => .array .int
  | 47 => .array .boolean
  | 48 => .array .int
  | 49 => .array .int
  | 50 => .int
  | 51 => .int
  | 52 => .int
  | 53 => .int
  | 54 => .array .boolean
  | _ => .array .int
theorem nmMo : ∀ a, a < 56 → ∀ b, b < 56 → a ≠ b → (TMo a).2.1 ≠ (TMo b).2.1 := by decide +kernel
theorem tyMo_ok : ∀ k, k < 56 → parseFieldDescriptor (TMo k).2.2.1 = some (tyMo k) := by decide +kernel
def TWr : u_T := fun k => match k with
  | 0 => ("java/lang/Throwable", "cause", "Ljava/lang/Throwable;", false)
  | 1 => ("java/lang/Throwable", "stackTrace", "[Ljava/lang/StackTraceElement;", false)
  | 2 => ("java/lang/Throwable", "suppressedExceptions", "Ljava/util/List;", false)
  | 3 => ("java/lang/Throwable", "detailMessage", "Ljava/lang/String;", false)
  | 4 => ("java/lang/Throwable", "backtrace", "Ljava/lang/Object;", false)
  | 5 => ("RunProverModel$Wrong", "kind", "I", true)
  | 6 => ("RunProverModel$Wrong", "place", "I", true)
  | _ => ("java/lang/Throwable", "depth", "I", false)
def tyWr : Nat → FieldType := fun k => match k with
  | 0 => .object "java/lang/Throwable"
  | 1 => .array (.object "java/lang/StackTraceElement")
  | 2 => .object "java/util/List"
  | 3 => .object "java/lang/String"
  | 4 => .object "java/lang/Object"
  | 5 => .int
  | 6 => .int
  | _ => .int
theorem nmWr : ∀ a, a < 8 → ∀ b, b < 8 → a ≠ b → (TWr a).2.1 ≠ (TWr b).2.1 := by decide +kernel
theorem tyWr_ok : ∀ k, k < 8 → parseFieldDescriptor (TWr k).2.2.1 = some (tyWr k) := by decide +kernel
abbrev vwCl : List vw_C := [("RunProver", TRp, 16), ("RunProver$Program", TPg, 17), ("RunProver$Parser", TPa, 5), ("RunProver$Names", TNm, 5), ("RunProver$Tokens", TTk, 12), ("RunProver$Expressions", TEx, 9), ("RunProver$Gates", TGa, 9), ("RunProver$Unroller", TUn, 14), ("RunProver$Words", TWo, 7), ("RunProver$Clauses", TCl, 4), ("RunProver$Checker", TCk, 6), ("RunProver$Search", TSe, 21), ("RunProverModel", TMo, 56), ("RunProverModel$Wrong", TWr, 8)]
abbrev cRp_init : ByteArray := prog_1_method_1_code
def yRp_init : MethodName := ⟨"RunProver", "<init>", "()V"⟩
abbrev cPg_init : ByteArray := prog_8_method_1_code
def yPg_init : MethodName := ⟨"RunProver$Program", "<init>", "()V"⟩
abbrev cPa_init : ByteArray := prog_7_method_1_code
def yPa_init : MethodName := ⟨"RunProver$Parser", "<init>", "(LRunProver$Program;[B)V"⟩
abbrev cNm_init : ByteArray := prog_6_method_1_code
def yNm_init : MethodName := ⟨"RunProver$Names", "<init>", "()V"⟩
abbrev cTk_init : ByteArray := prog_10_method_1_code
def yTk_init : MethodName := ⟨"RunProver$Tokens", "<init>", "([B)V"⟩
abbrev cEx_init : ByteArray := prog_4_method_1_code
def yEx_init : MethodName := ⟨"RunProver$Expressions", "<init>", "(LRunProver$Tokens;LRunProver$Names;LRunProver$Program;)V"⟩
abbrev cGa_init : ByteArray := prog_5_method_1_code
def yGa_init : MethodName := ⟨"RunProver$Gates", "<init>", "()V"⟩
abbrev cUn_init : ByteArray := prog_11_method_1_code
def yUn_init : MethodName := ⟨"RunProver$Unroller", "<init>", "(LRunProver$Program;LRunProver$Gates;)V"⟩
abbrev cWo_init : ByteArray := prog_12_method_1_code
def yWo_init : MethodName := ⟨"RunProver$Words", "<init>", "(LRunProver$Gates;)V"⟩
abbrev cCl_init : ByteArray := prog_3_method_1_code
def yCl_init : MethodName := ⟨"RunProver$Clauses", "<init>", "()V"⟩
abbrev cCk_init : ByteArray := prog_2_method_1_code
def yCk_init : MethodName := ⟨"RunProver$Checker", "<init>", "(LRunProver$Clauses;)V"⟩
abbrev cSe_init : ByteArray := prog_9_method_1_code
def ySe_init : MethodName := ⟨"RunProver$Search", "<init>", "(LRunProver$Clauses;LRunProver$Checker;)V"⟩
abbrev cMo_init : ByteArray := prog_14_method_1_code
def yMo_init : MethodName := ⟨"RunProverModel", "<init>", "()V"⟩
abbrev cRp_read : ByteArray := prog_1_method_5_code
def yRp_read : MethodName := ⟨"RunProver", "read", "()I"⟩
abbrev cAr_fill : ByteArray := prog_30_method_103_code
def yAr_fill : MethodName := ⟨"java/util/Arrays", "fill", "([II)V"⟩
abbrev cPa_parse : ByteArray := prog_7_method_2_code
def yPa_parse : MethodName := ⟨"RunProver$Parser", "parse", "(I)V"⟩
abbrev cPg_clear : ByteArray := prog_8_method_2_code
def yPg_clear : MethodName := ⟨"RunProver$Program", "clear", "()V"⟩
abbrev cEx_begin : ByteArray := prog_4_method_2_code
def yEx_begin : MethodName := ⟨"RunProver$Expressions", "begin", "()V"⟩
abbrev cTk_begin : ByteArray := prog_10_method_2_code
def yTk_begin : MethodName := ⟨"RunProver$Tokens", "begin", "(I)V"⟩
abbrev cTk_behindBlanks : ByteArray := prog_10_method_10_code
def yTk_behindBlanks : MethodName := ⟨"RunProver$Tokens", "behindBlanks", "(I)I"⟩
abbrev cTk_advance : ByteArray := prog_10_method_3_code
def yTk_advance : MethodName := ⟨"RunProver$Tokens", "advance", "()V"⟩
abbrev cTk_take : ByteArray := prog_10_method_7_code
def yTk_take : MethodName := ⟨"RunProver$Tokens", "take", "(I)V"⟩
abbrev cTk_misfit : ByteArray := prog_10_method_6_code
def yTk_misfit : MethodName := ⟨"RunProver$Tokens", "misfit", "()I"⟩
abbrev cTk_fail : ByteArray := prog_10_method_4_code
def yTk_fail : MethodName := ⟨"RunProver$Tokens", "fail", "(II)V"⟩
abbrev cTk_takeNumber : ByteArray := prog_10_method_8_code
def yTk_takeNumber : MethodName := ⟨"RunProver$Tokens", "takeNumber", "(II)I"⟩
abbrev cPa_declarations : ByteArray := prog_7_method_3_code
def yPa_declarations : MethodName := ⟨"RunProver$Parser", "declarations", "()V"⟩
abbrev cPa_statements : ByteArray := prog_7_method_7_code
def yPa_statements : MethodName := ⟨"RunProver$Parser", "statements", "(I)I"⟩
abbrev cTk_tooDeep : ByteArray := prog_10_method_9_code
def yTk_tooDeep : MethodName := ⟨"RunProver$Tokens", "tooDeep", "(I)Z"⟩
abbrev cPa_goesOn : ByteArray := prog_7_method_8_code
def yPa_goesOn : MethodName := ⟨"RunProver$Parser", "goesOn", "()Z"⟩
abbrev cTk_refuse : ByteArray := prog_10_method_5_code
def yTk_refuse : MethodName := ⟨"RunProver$Tokens", "refuse", "()V"⟩
abbrev cUn_begin : ByteArray := prog_11_method_2_code
def yUn_begin : MethodName := ⟨"RunProver$Unroller", "begin", "()V"⟩
abbrev cGa_clear : ByteArray := prog_5_method_2_code
def yGa_clear : MethodName := ⟨"RunProver$Gates", "clear", "()V"⟩
abbrev cWo_begin : ByteArray := prog_12_method_2_code
def yWo_begin : MethodName := ⟨"RunProver$Words", "begin", "(I)V"⟩
abbrev cAr_fill2 : ByteArray := prog_30_method_104_code
def yAr_fill2 : MethodName := ⟨"java/util/Arrays", "fill", "([IIII)V"⟩
abbrev cAr_rangeCheck : ByteArray := prog_30_method_30_code
def yAr_rangeCheck : MethodName := ⟨"java/util/Arrays", "rangeCheck", "(III)V"⟩
abbrev cUn_walk : ByteArray := prog_11_method_3_code
def yUn_walk : MethodName := ⟨"RunProver$Unroller", "walk", "(II)V"⟩
abbrev cRp_prove : ByteArray := prog_1_method_7_code
def yRp_prove : MethodName := ⟨"RunProver", "prove", "()I"⟩
abbrev cRp_run : ByteArray := prog_1_method_14_code
def yRp_run : MethodName := ⟨"RunProver", "run", "()I"⟩
abbrev cRp_doubts : ByteArray := prog_1_method_16_code
def yRp_doubts : MethodName := ⟨"RunProver", "doubts", "()I"⟩
abbrev cRp_feed : ByteArray := prog_1_method_2_code
def yRp_feed : MethodName := ⟨"RunProver", "feed", "(IIIII)I"⟩
abbrev cRp_store : ByteArray := prog_1_method_3_code
def yRp_store : MethodName := ⟨"RunProver", "store", "(I)V"⟩
def wa0 : List Cond := [.methodLink "RunProver" 1 objectInit, .instanceMethod objectInit, .code objectInit ⟨#[0xb1]⟩ 1 none, .constant "RunProver" 9 65536, .arrayClass .byte, .fieldLink "RunProver" 10 "RunProver" "tape" "[B", .classLink "RunProver" 14 "RunProver$Program", .instantiable "RunProver$Program" 17, .initialized "RunProver$Program", .methodLink "RunProver$Program" 1 objectInit, .arrayClass .int, .fieldLink "RunProver$Program" 9 "RunProver$Program" "rows" "[I", .fieldLink "RunProver$Program" 15 "RunProver$Program" "functions" "[I", .fieldLink "RunProver$Program" 20 "RunProver$Program" "codes" "[I", .fieldLink "RunProver$Program" 23 "RunProver$Program" "operands" "[I", .fieldLink "RunProver$Program" 26 "RunProver$Program" "slotFirst" "[I", .fieldLink "RunProver$Program" 29 "RunProver$Program" "slotSize" "[I", .fieldLink "RunProver$Program" 32 "RunProver$Program" "checkKinds" "[I", .fieldLink "RunProver$Program" 35 "RunProver$Program" "checkPlaces" "[I", .fieldLink "RunProver$Program" 38 "RunProver$Program" "first" "I", .code yPg_init cPg_init 1 none, .methodLink "RunProver" 16 yPg_init, .instanceMethod yPg_init, .fieldLink "RunProver" 17 "RunProver" "program" "LRunProver$Program;", .classLink "RunProver" 21 "RunProver$Parser", .instantiable "RunProver$Parser" 5, .initialized "RunProver$Parser", .methodLink "RunProver$Parser" 1 objectInit, .classLink "RunProver$Parser" 7 "RunProver$Names", .instantiable "RunProver$Names" 5, .initialized "RunProver$Names", .methodLink "RunProver$Names" 1 objectInit, .fieldLink "RunProver$Names" 9 "RunProver$Names" "places" "[I", .fieldLink "RunProver$Names" 13 "RunProver$Names" "sizes" "[I", .fieldLink "RunProver$Names" 16 "RunProver$Names" "kinds" "[I", .fieldLink "RunProver$Names" 19 "RunProver$Names" "numbers" "[I", .code yNm_init cNm_init 1 none, .methodLink "RunProver$Parser" 9 yNm_init, .instanceMethod yNm_init, .fieldLink "RunProver$Parser" 10 "RunProver$Parser" "names" "LRunProver$Names;"]
def wa1 : List Cond := [.fieldLink "RunProver$Parser" 16 "RunProver$Parser" "program" "LRunProver$Program;", .classLink "RunProver$Parser" 20 "RunProver$Tokens", .instantiable "RunProver$Tokens" 12, .initialized "RunProver$Tokens", .methodLink "RunProver$Tokens" 1 objectInit, .fieldLink "RunProver$Tokens" 9 "RunProver$Tokens" "kinds" "[I", .fieldLink "RunProver$Tokens" 13 "RunProver$Tokens" "places" "[I", .fieldLink "RunProver$Tokens" 16 "RunProver$Tokens" "details" "[I", .fieldLink "RunProver$Tokens" 19 "RunProver$Tokens" "text" "[B", .code yTk_init cTk_init 2 none, .methodLink "RunProver$Parser" 22 yTk_init, .instanceMethod yTk_init, .fieldLink "RunProver$Parser" 25 "RunProver$Parser" "tokens" "LRunProver$Tokens;", .classLink "RunProver$Parser" 29 "RunProver$Expressions", .instantiable "RunProver$Expressions" 9, .initialized "RunProver$Expressions", .methodLink "RunProver$Expressions" 3 objectInit, .fieldLink "RunProver$Expressions" 11 "RunProver$Expressions" "waiting" "[I", .fieldLink "RunProver$Expressions" 15 "RunProver$Expressions" "waitingDepth" "[I", .fieldLink "RunProver$Expressions" 18 "RunProver$Expressions" "tokens" "LRunProver$Tokens;", .fieldLink "RunProver$Expressions" 22 "RunProver$Expressions" "names" "LRunProver$Names;", .fieldLink "RunProver$Expressions" 26 "RunProver$Expressions" "program" "LRunProver$Program;", .code yEx_init cEx_init 4 none, .methodLink "RunProver$Parser" 31 yEx_init, .instanceMethod yEx_init, .fieldLink "RunProver$Parser" 34 "RunProver$Parser" "expressions" "LRunProver$Expressions;", .code yPa_init cPa_init 3 none, .methodLink "RunProver" 23 yPa_init, .instanceMethod yPa_init, .fieldLink "RunProver" 26 "RunProver" "parser" "LRunProver$Parser;", .classLink "RunProver" 30 "RunProver$Gates", .instantiable "RunProver$Gates" 9, .initialized "RunProver$Gates", .methodLink "RunProver$Gates" 1 objectInit, .constant "RunProver$Gates" 9 32768, .fieldLink "RunProver$Gates" 10 "RunProver$Gates" "kinds" "[B", .fieldLink "RunProver$Gates" 14 "RunProver$Gates" "first" "[I", .fieldLink "RunProver$Gates" 18 "RunProver$Gates" "second" "[I", .fieldLink "RunProver$Gates" 21 "RunProver$Gates" "third" "[I", .fieldLink "RunProver$Gates" 24 "RunProver$Gates" "truth" "[B"]
def wa2 : List Cond := [.fieldLink "RunProver$Gates" 27 "RunProver$Gates" "wanted" "[B", .constant "RunProver$Gates" 30 65536, .fieldLink "RunProver$Gates" 31 "RunProver$Gates" "table" "[I", .fieldLink "RunProver$Gates" 34 "RunProver$Gates" "behind" "[I", .fieldLink "RunProver$Gates" 37 "RunProver$Gates" "size" "I", .code yGa_init cGa_init 1 none, .methodLink "RunProver" 32 yGa_init, .instanceMethod yGa_init, .fieldLink "RunProver" 33 "RunProver" "gates" "LRunProver$Gates;", .classLink "RunProver" 37 "RunProver$Unroller", .instantiable "RunProver$Unroller" 14, .initialized "RunProver$Unroller", .methodLink "RunProver$Unroller" 1 objectInit, .fieldLink "RunProver$Unroller" 9 "RunProver$Unroller" "callAt" "[I", .fieldLink "RunProver$Unroller" 13 "RunProver$Unroller" "callStop" "[I", .fieldLink "RunProver$Unroller" 16 "RunProver$Unroller" "callFrame" "[I", .fieldLink "RunProver$Unroller" 25 "RunProver$Unroller" "cells" "[I", .fieldLink "RunProver$Unroller" 28 "RunProver$Unroller" "broken" "[I", .fieldLink "RunProver$Unroller" 31 "RunProver$Unroller" "reached" "[I", .fieldLink "RunProver$Unroller" 34 "RunProver$Unroller" "inputSizes" "[I", .fieldLink "RunProver$Unroller" 37 "RunProver$Unroller" "bitNodes" "[I", .fieldLink "RunProver$Unroller" 40 "RunProver$Unroller" "program" "LRunProver$Program;", .fieldLink "RunProver$Unroller" 44 "RunProver$Unroller" "gates" "LRunProver$Gates;", .classLink "RunProver$Unroller" 23 "RunProver$Words", .instantiable "RunProver$Words" 7, .initialized "RunProver$Words", .methodLink "RunProver$Words" 1 objectInit, .fieldLink "RunProver$Words" 9 "RunProver$Words" "rows" "[I", .fieldLink "RunProver$Words" 13 "RunProver$Words" "result" "[I", .fieldLink "RunProver$Words" 16 "RunProver$Words" "difference" "[I", .fieldLink "RunProver$Words" 21 "RunProver$Words" "tree" "[I", .fieldLink "RunProver$Words" 24 "RunProver$Words" "gates" "LRunProver$Gates;", .code yWo_init cWo_init 2 none, .methodLink "RunProver$Unroller" 48 yWo_init, .instanceMethod yWo_init, .fieldLink "RunProver$Unroller" 51 "RunProver$Unroller" "words" "LRunProver$Words;", .code yUn_init cUn_init 3 none, .methodLink "RunProver" 39 yUn_init, .instanceMethod yUn_init, .fieldLink "RunProver" 42 "RunProver" "unroller" "LRunProver$Unroller;"]
def wa3 : List Cond := [.classLink "RunProver" 46 "RunProver$Clauses", .instantiable "RunProver$Clauses" 4, .initialized "RunProver$Clauses", .methodLink "RunProver$Clauses" 5 objectInit, .constant "RunProver$Clauses" 11 390324, .fieldLink "RunProver$Clauses" 12 "RunProver$Clauses" "literals" "[I", .constant "RunProver$Clauses" 16 98293, .fieldLink "RunProver$Clauses" 17 "RunProver$Clauses" "starts" "[I", .code yCl_init cCl_init 1 none, .methodLink "RunProver" 48 yCl_init, .instanceMethod yCl_init, .fieldLink "RunProver" 49 "RunProver" "clauses" "LRunProver$Clauses;", .classLink "RunProver" 53 "RunProver$Checker", .instantiable "RunProver$Checker" 6, .initialized "RunProver$Checker", .methodLink "RunProver$Checker" 1 objectInit, .constant "RunProver$Checker" 9 65536, .fieldLink "RunProver$Checker" 10 "RunProver$Checker" "truth" "[B", .constant "RunProver$Checker" 16 32768, .fieldLink "RunProver$Checker" 17 "RunProver$Checker" "assumed" "[I", .fieldLink "RunProver$Checker" 21 "RunProver$Checker" "clauses" "LRunProver$Clauses;", .code yCk_init cCk_init 2 none, .methodLink "RunProver" 55 yCk_init, .instanceMethod yCk_init, .fieldLink "RunProver" 58 "RunProver" "checker" "LRunProver$Checker;", .classLink "RunProver" 62 "RunProver$Search", .instantiable "RunProver$Search" 21, .initialized "RunProver$Search", .methodLink "RunProver$Search" 1 objectInit, .constant "RunProver$Search" 9 196584, .fieldLink "RunProver$Search" 10 "RunProver$Search" "watched" "[I", .fieldLink "RunProver$Search" 16 "RunProver$Search" "nextWatch" "[I", .constant "RunProver$Search" 21 65536, .fieldLink "RunProver$Search" 22 "RunProver$Search" "firstWatch" "[I", .fieldLink "RunProver$Search" 25 "RunProver$Search" "truth" "[B", .constant "RunProver$Search" 29 32768, .fieldLink "RunProver$Search" 30 "RunProver$Search" "level" "[B", .fieldLink "RunProver$Search" 33 "RunProver$Search" "reason" "[I", .fieldLink "RunProver$Search" 36 "RunProver$Search" "trail" "[I", .fieldLink "RunProver$Search" 41 "RunProver$Search" "levelStart" "[I"]
def wa4 : List Cond := [.fieldLink "RunProver$Search" 44 "RunProver$Search" "seen" "[B", .fieldLink "RunProver$Search" 47 "RunProver$Search" "learnt" "[I", .constant "RunProver$Search" 50 32769, .fieldLink "RunProver$Search" 51 "RunProver$Search" "chain" "[I", .fieldLink "RunProver$Search" 54 "RunProver$Search" "clauses" "LRunProver$Clauses;", .fieldLink "RunProver$Search" 58 "RunProver$Search" "checker" "LRunProver$Checker;", .code ySe_init cSe_init 3 none, .methodLink "RunProver" 64 ySe_init, .instanceMethod ySe_init, .fieldLink "RunProver" 67 "RunProver" "search" "LRunProver$Search;", .fieldLink "RunProver" 71 "RunProver" "inputs" "[I", .fieldLink "RunProver" 75 "RunProver" "goals" "[I", .methodLink "RunProverModel" 1 objectInit, .constant "RunProverModel" 7 65536, .fieldLink "RunProverModel" 8 "RunProverModel" "tape" "[B", .fieldLink "RunProverModel" 14 "RunProverModel" "size" "I", .fieldLink "RunProverModel" 18 "RunProverModel" "thrown" "I", .fieldLink "RunProverModel" 21 "RunProverModel" "faultKind" "I", .fieldLink "RunProverModel" 24 "RunProverModel" "faultPlace" "I", .fieldLink "RunProverModel" 27 "RunProverModel" "there" "Z", .fieldLink "RunProverModel" 31 "RunProverModel" "pos" "I", .fieldLink "RunProverModel" 34 "RunProverModel" "token" "I", .fieldLink "RunProverModel" 37 "RunProverModel" "tokenAt" "I", .fieldLink "RunProverModel" 40 "RunProverModel" "tokenEnd" "I", .fieldLink "RunProverModel" 43 "RunProverModel" "tokens" "I", .fieldLink "RunProverModel" 46 "RunProverModel" "seen" "Z", .fieldLink "RunProverModel" 49 "RunProverModel" "wordAt" "[I", .fieldLink "RunProverModel" 53 "RunProverModel" "wordSize" "[I", .fieldLink "RunProverModel" 56 "RunProverModel" "nameKind" "[I", .fieldLink "RunProverModel" 59 "RunProverModel" "nameNumber" "[I", .fieldLink "RunProverModel" 62 "RunProverModel" "names" "I", .fieldLink "RunProverModel" 65 "RunProverModel" "declared" "I", .fieldLink "RunProverModel" 68 "RunProverModel" "width" "I", .fieldLink "RunProverModel" 71 "RunProverModel" "elements" "[I", .fieldLink "RunProverModel" 74 "RunProverModel" "cellAt" "[I", .fieldLink "RunProverModel" 77 "RunProverModel" "things" "I", .fieldLink "RunProverModel" 80 "RunProverModel" "cells" "I", .fieldLink "RunProverModel" 83 "RunProverModel" "parameters" "[I", .fieldLink "RunProverModel" 86 "RunProverModel" "body" "[I", .fieldLink "RunProverModel" 89 "RunProverModel" "functions" "I"]
def wa5 : List Cond := [.fieldLink "RunProverModel" 92 "RunProverModel" "sort" "[I", .fieldLink "RunProverModel" 95 "RunProverModel" "of" "[I", .fieldLink "RunProverModel" 98 "RunProverModel" "kid" "[I", .fieldLink "RunProverModel" 101 "RunProverModel" "beside" "[I", .fieldLink "RunProverModel" 104 "RunProverModel" "by" "[I", .fieldLink "RunProverModel" 107 "RunProverModel" "deep" "[I", .fieldLink "RunProverModel" 110 "RunProverModel" "cost" "[I", .fieldLink "RunProverModel" 113 "RunProverModel" "nodes" "I", .fieldLink "RunProverModel" 116 "RunProverModel" "deepest" "I", .fieldLink "RunProverModel" 119 "RunProverModel" "inFunction" "Z", .fieldLink "RunProverModel" 122 "RunProverModel" "checks" "I", .fieldLink "RunProverModel" 125 "RunProverModel" "program" "I", .fieldLink "RunProverModel" 128 "RunProverModel" "bits" "I", .fieldLink "RunProverModel" 131 "RunProverModel" "inputs" "I", .fieldLink "RunProverModel" 134 "RunProverModel" "checkKind" "[I", .fieldLink "RunProverModel" 137 "RunProverModel" "checkAt" "[I", .fieldLink "RunProverModel" 140 "RunProverModel" "taken" "[I", .fieldLink "RunProverModel" 143 "RunProverModel" "takenBits" "[I", .fieldLink "RunProverModel" 146 "RunProverModel" "limitOf" "[I", .fieldLink "RunProverModel" 149 "RunProverModel" "bitsOf" "[I", .fieldLink "RunProverModel" 152 "RunProverModel" "in" "[I", .arrayClass .boolean, .fieldLink "RunProverModel" 155 "RunProverModel" "read" "[Z", .fieldLink "RunProverModel" 159 "RunProverModel" "cell" "[I", .fieldLink "RunProverModel" 162 "RunProverModel" "given" "[I", .fieldLink "RunProverModel" 165 "RunProverModel" "top" "I", .fieldLink "RunProverModel" 168 "RunProverModel" "base" "I", .fieldLink "RunProverModel" 171 "RunProverModel" "over" "I", .fieldLink "RunProverModel" 174 "RunProverModel" "broken" "I", .fieldLink "RunProverModel" 177 "RunProverModel" "came" "[Z", .fieldLink "RunProverModel" 180 "RunProverModel" "before" "[I", .laysFinal "RunProver" "RunProver" "tape" "[B", .laysFinal "RunProver" "RunProver" "program" "LRunProver$Program;", .laysFinal "RunProver" "RunProver" "parser" "LRunProver$Parser;", .laysFinal "RunProver" "RunProver" "gates" "LRunProver$Gates;", .laysFinal "RunProver" "RunProver" "unroller" "LRunProver$Unroller;", .laysFinal "RunProver" "RunProver" "clauses" "LRunProver$Clauses;", .laysFinal "RunProver" "RunProver" "checker" "LRunProver$Checker;", .laysFinal "RunProver" "RunProver" "search" "LRunProver$Search;", .laysFinal "RunProver" "RunProver" "inputs" "[I"]
def wa6 : List Cond := [.laysFinal "RunProver" "RunProver" "goals" "[I", .lays "RunProver" "RunProver" "goalCount" "I", .lays "RunProver" "RunProver" "tapeLength" "I", .lays "RunProver" "RunProver" "faultKind" "I", .lays "RunProver" "RunProver" "faultPlace" "I", .lays "RunProver" "RunProver" "hasText" "Z", .lays "RunProver" "RunProver" "unproved" "I", .laysFinal "RunProver$Program" "RunProver$Program" "rows" "[I", .laysFinal "RunProver$Program" "RunProver$Program" "functions" "[I", .laysFinal "RunProver$Program" "RunProver$Program" "codes" "[I", .laysFinal "RunProver$Program" "RunProver$Program" "operands" "[I", .laysFinal "RunProver$Program" "RunProver$Program" "slotFirst" "[I", .laysFinal "RunProver$Program" "RunProver$Program" "slotSize" "[I", .laysFinal "RunProver$Program" "RunProver$Program" "checkKinds" "[I", .laysFinal "RunProver$Program" "RunProver$Program" "checkPlaces" "[I", .lays "RunProver$Program" "RunProver$Program" "statements" "I", .lays "RunProver$Program" "RunProver$Program" "functionCount" "I", .lays "RunProver$Program" "RunProver$Program" "codeSize" "I", .lays "RunProver$Program" "RunProver$Program" "slots" "I", .lays "RunProver$Program" "RunProver$Program" "elements" "I", .lays "RunProver$Program" "RunProver$Program" "checks" "I", .lays "RunProver$Program" "RunProver$Program" "width" "I", .lays "RunProver$Program" "RunProver$Program" "costs" "I", .lays "RunProver$Program" "RunProver$Program" "first" "I", .laysFinal "RunProver$Parser" "RunProver$Parser" "tokens" "LRunProver$Tokens;", .laysFinal "RunProver$Parser" "RunProver$Parser" "names" "LRunProver$Names;", .laysFinal "RunProver$Parser" "RunProver$Parser" "program" "LRunProver$Program;", .laysFinal "RunProver$Parser" "RunProver$Parser" "expressions" "LRunProver$Expressions;", .lays "RunProver$Parser" "RunProver$Parser" "bits" "I", .laysFinal "RunProver$Names" "RunProver$Names" "places" "[I", .laysFinal "RunProver$Names" "RunProver$Names" "sizes" "[I", .laysFinal "RunProver$Names" "RunProver$Names" "kinds" "[I", .laysFinal "RunProver$Names" "RunProver$Names" "numbers" "[I", .lays "RunProver$Names" "RunProver$Names" "amount" "I", .laysFinal "RunProver$Tokens" "RunProver$Tokens" "kinds" "[I", .laysFinal "RunProver$Tokens" "RunProver$Tokens" "places" "[I", .laysFinal "RunProver$Tokens" "RunProver$Tokens" "details" "[I", .laysFinal "RunProver$Tokens" "RunProver$Tokens" "text" "[B", .lays "RunProver$Tokens" "RunProver$Tokens" "length" "I", .lays "RunProver$Tokens" "RunProver$Tokens" "amount" "I"]
def wa7 : List Cond := [.lays "RunProver$Tokens" "RunProver$Tokens" "at" "I", .lays "RunProver$Tokens" "RunProver$Tokens" "kind" "I", .lays "RunProver$Tokens" "RunProver$Tokens" "place" "I", .lays "RunProver$Tokens" "RunProver$Tokens" "detail" "I", .lays "RunProver$Tokens" "RunProver$Tokens" "faultKind" "I", .lays "RunProver$Tokens" "RunProver$Tokens" "faultPlace" "I", .laysFinal "RunProver$Expressions" "RunProver$Expressions" "tokens" "LRunProver$Tokens;", .laysFinal "RunProver$Expressions" "RunProver$Expressions" "names" "LRunProver$Names;", .laysFinal "RunProver$Expressions" "RunProver$Expressions" "program" "LRunProver$Program;", .laysFinal "RunProver$Expressions" "RunProver$Expressions" "waiting" "[I", .laysFinal "RunProver$Expressions" "RunProver$Expressions" "waitingDepth" "[I", .lays "RunProver$Expressions" "RunProver$Expressions" "waitingCount" "I", .lays "RunProver$Expressions" "RunProver$Expressions" "inFunction" "Z", .lays "RunProver$Expressions" "RunProver$Expressions" "cost" "I", .lays "RunProver$Expressions" "RunProver$Expressions" "deepest" "I", .laysFinal "RunProver$Gates" "RunProver$Gates" "kinds" "[B", .laysFinal "RunProver$Gates" "RunProver$Gates" "first" "[I", .laysFinal "RunProver$Gates" "RunProver$Gates" "second" "[I", .laysFinal "RunProver$Gates" "RunProver$Gates" "third" "[I", .laysFinal "RunProver$Gates" "RunProver$Gates" "truth" "[B", .laysFinal "RunProver$Gates" "RunProver$Gates" "wanted" "[B", .laysFinal "RunProver$Gates" "RunProver$Gates" "table" "[I", .laysFinal "RunProver$Gates" "RunProver$Gates" "behind" "[I", .lays "RunProver$Gates" "RunProver$Gates" "size" "I", .laysFinal "RunProver$Unroller" "RunProver$Unroller" "program" "LRunProver$Program;", .laysFinal "RunProver$Unroller" "RunProver$Unroller" "gates" "LRunProver$Gates;", .laysFinal "RunProver$Unroller" "RunProver$Unroller" "words" "LRunProver$Words;", .laysFinal "RunProver$Unroller" "RunProver$Unroller" "callAt" "[I", .laysFinal "RunProver$Unroller" "RunProver$Unroller" "callStop" "[I", .laysFinal "RunProver$Unroller" "RunProver$Unroller" "callFrame" "[I", .laysFinal "RunProver$Unroller" "RunProver$Unroller" "cells" "[I", .lays "RunProver$Unroller" "RunProver$Unroller" "on" "I", .laysFinal "RunProver$Unroller" "RunProver$Unroller" "broken" "[I", .laysFinal "RunProver$Unroller" "RunProver$Unroller" "reached" "[I", .laysFinal "RunProver$Unroller" "RunProver$Unroller" "inputSizes" "[I", .lays "RunProver$Unroller" "RunProver$Unroller" "inputCount" "I", .laysFinal "RunProver$Unroller" "RunProver$Unroller" "bitNodes" "[I", .lays "RunProver$Unroller" "RunProver$Unroller" "bitCount" "I", .laysFinal "RunProver$Words" "RunProver$Words" "gates" "LRunProver$Gates;", .laysFinal "RunProver$Words" "RunProver$Words" "rows" "[I"]
def wa8 : List Cond := [.laysFinal "RunProver$Words" "RunProver$Words" "result" "[I", .laysFinal "RunProver$Words" "RunProver$Words" "difference" "[I", .laysFinal "RunProver$Words" "RunProver$Words" "tree" "[I", .lays "RunProver$Words" "RunProver$Words" "width" "I", .lays "RunProver$Words" "RunProver$Words" "top" "I", .laysFinal "RunProver$Clauses" "RunProver$Clauses" "literals" "[I", .laysFinal "RunProver$Clauses" "RunProver$Clauses" "starts" "[I", .lays "RunProver$Clauses" "RunProver$Clauses" "amount" "I", .lays "RunProver$Clauses" "RunProver$Clauses" "given" "I", .laysFinal "RunProver$Checker" "RunProver$Checker" "clauses" "LRunProver$Clauses;", .laysFinal "RunProver$Checker" "RunProver$Checker" "truth" "[B", .laysFinal "RunProver$Checker" "RunProver$Checker" "assumed" "[I", .lays "RunProver$Checker" "RunProver$Checker" "assumedCount" "I", .lays "RunProver$Checker" "RunProver$Checker" "refusedOne" "Z", .lays "RunProver$Checker" "RunProver$Checker" "refuted" "Z", .laysFinal "RunProver$Search" "RunProver$Search" "clauses" "LRunProver$Clauses;", .laysFinal "RunProver$Search" "RunProver$Search" "checker" "LRunProver$Checker;", .laysFinal "RunProver$Search" "RunProver$Search" "watched" "[I", .laysFinal "RunProver$Search" "RunProver$Search" "nextWatch" "[I", .laysFinal "RunProver$Search" "RunProver$Search" "firstWatch" "[I", .laysFinal "RunProver$Search" "RunProver$Search" "truth" "[B", .laysFinal "RunProver$Search" "RunProver$Search" "level" "[B", .laysFinal "RunProver$Search" "RunProver$Search" "reason" "[I", .laysFinal "RunProver$Search" "RunProver$Search" "trail" "[I", .laysFinal "RunProver$Search" "RunProver$Search" "levelStart" "[I", .laysFinal "RunProver$Search" "RunProver$Search" "seen" "[B", .laysFinal "RunProver$Search" "RunProver$Search" "learnt" "[I", .laysFinal "RunProver$Search" "RunProver$Search" "chain" "[I", .lays "RunProver$Search" "RunProver$Search" "trailSize" "I", .lays "RunProver$Search" "RunProver$Search" "done" "I", .lays "RunProver$Search" "RunProver$Search" "depth" "I", .lays "RunProver$Search" "RunProver$Search" "learntSize" "I", .lays "RunProver$Search" "RunProver$Search" "chainSize" "I", .lays "RunProver$Search" "RunProver$Search" "seenCount" "I", .lays "RunProver$Search" "RunProver$Search" "seenHere" "I", .lays "RunProver$Search" "RunProver$Search" "decisionsAlone" "Z", .laysFinal "RunProverModel" "RunProverModel" "tape" "[B", .lays "RunProverModel" "RunProverModel" "size" "I", .lays "RunProverModel" "RunProverModel" "thrown" "I", .lays "RunProverModel" "RunProverModel" "faultKind" "I"]
def wa9 : List Cond := [.lays "RunProverModel" "RunProverModel" "faultPlace" "I", .lays "RunProverModel" "RunProverModel" "there" "Z", .lays "RunProverModel" "RunProverModel" "pos" "I", .lays "RunProverModel" "RunProverModel" "token" "I", .lays "RunProverModel" "RunProverModel" "tokenAt" "I", .lays "RunProverModel" "RunProverModel" "tokenEnd" "I", .lays "RunProverModel" "RunProverModel" "tokens" "I", .lays "RunProverModel" "RunProverModel" "seen" "Z", .laysFinal "RunProverModel" "RunProverModel" "wordAt" "[I", .laysFinal "RunProverModel" "RunProverModel" "wordSize" "[I", .laysFinal "RunProverModel" "RunProverModel" "nameKind" "[I", .laysFinal "RunProverModel" "RunProverModel" "nameNumber" "[I", .lays "RunProverModel" "RunProverModel" "names" "I", .lays "RunProverModel" "RunProverModel" "declared" "I", .lays "RunProverModel" "RunProverModel" "width" "I", .laysFinal "RunProverModel" "RunProverModel" "elements" "[I", .laysFinal "RunProverModel" "RunProverModel" "cellAt" "[I", .lays "RunProverModel" "RunProverModel" "things" "I", .lays "RunProverModel" "RunProverModel" "cells" "I", .laysFinal "RunProverModel" "RunProverModel" "parameters" "[I", .laysFinal "RunProverModel" "RunProverModel" "body" "[I", .lays "RunProverModel" "RunProverModel" "functions" "I", .laysFinal "RunProverModel" "RunProverModel" "sort" "[I", .laysFinal "RunProverModel" "RunProverModel" "of" "[I", .laysFinal "RunProverModel" "RunProverModel" "kid" "[I", .laysFinal "RunProverModel" "RunProverModel" "beside" "[I", .laysFinal "RunProverModel" "RunProverModel" "by" "[I", .laysFinal "RunProverModel" "RunProverModel" "deep" "[I", .laysFinal "RunProverModel" "RunProverModel" "cost" "[I", .lays "RunProverModel" "RunProverModel" "nodes" "I", .lays "RunProverModel" "RunProverModel" "deepest" "I", .lays "RunProverModel" "RunProverModel" "inFunction" "Z", .lays "RunProverModel" "RunProverModel" "checks" "I", .lays "RunProverModel" "RunProverModel" "program" "I", .lays "RunProverModel" "RunProverModel" "bits" "I", .lays "RunProverModel" "RunProverModel" "inputs" "I", .laysFinal "RunProverModel" "RunProverModel" "checkKind" "[I", .laysFinal "RunProverModel" "RunProverModel" "checkAt" "[I", .laysFinal "RunProverModel" "RunProverModel" "taken" "[I", .laysFinal "RunProverModel" "RunProverModel" "takenBits" "[I"]
def wa10 : List Cond := [.laysFinal "RunProverModel" "RunProverModel" "limitOf" "[I", .laysFinal "RunProverModel" "RunProverModel" "bitsOf" "[I", .laysFinal "RunProverModel" "RunProverModel" "in" "[I", .laysFinal "RunProverModel" "RunProverModel" "read" "[Z", .laysFinal "RunProverModel" "RunProverModel" "cell" "[I", .laysFinal "RunProverModel" "RunProverModel" "given" "[I", .lays "RunProverModel" "RunProverModel" "top" "I", .lays "RunProverModel" "RunProverModel" "base" "I", .lays "RunProverModel" "RunProverModel" "over" "I", .lays "RunProverModel" "RunProverModel" "broken" "I", .laysFinal "RunProverModel" "RunProverModel" "came" "[Z", .laysFinal "RunProverModel" "RunProverModel" "before" "[I", .code yAr_fill cAr_fill 4 none, .methodLink "RunProver" 99 yAr_fill, .static yAr_fill, .initialized "java/util/Arrays", .fieldLink "RunProver" 105 "RunProver" "unproved" "I", .fieldLink "RunProver" 78 "RunProver" "tapeLength" "I", .fieldLink "RunProver$Program" 42 "RunProver$Program" "statements" "I", .fieldLink "RunProver$Program" 45 "RunProver$Program" "functionCount" "I", .fieldLink "RunProver$Program" 48 "RunProver$Program" "codeSize" "I", .fieldLink "RunProver$Program" 51 "RunProver$Program" "slots" "I", .fieldLink "RunProver$Program" 54 "RunProver$Program" "elements" "I", .fieldLink "RunProver$Program" 57 "RunProver$Program" "checks" "I", .fieldLink "RunProver$Program" 60 "RunProver$Program" "width" "I", .fieldLink "RunProver$Program" 63 "RunProver$Program" "costs" "I", .code yPg_clear cPg_clear 1 none, .methodLink "RunProver$Parser" 38 yPg_clear, .instanceMethod yPg_clear, .selects "RunProver$Program" yPg_clear yPg_clear, .fieldLink "RunProver$Parser" 43 "RunProver$Names" "amount" "I", .fieldLink "RunProver$Expressions" 30 "RunProver$Expressions" "waitingCount" "I", .fieldLink "RunProver$Expressions" 34 "RunProver$Expressions" "inFunction" "Z", .fieldLink "RunProver$Expressions" 38 "RunProver$Expressions" "cost" "I", .fieldLink "RunProver$Expressions" 41 "RunProver$Expressions" "deepest" "I", .code yEx_begin cEx_begin 1 none, .methodLink "RunProver$Parser" 47 yEx_begin, .instanceMethod yEx_begin, .selects "RunProver$Expressions" yEx_begin yEx_begin, .fieldLink "RunProver$Parser" 50 "RunProver$Parser" "bits" "I"]
def wa11 : List Cond := [.methodLink "RunProver$Tokens" 23 Lib.Math.min.name, .static Lib.Math.min.name, .initialized "java/lang/Math", .code Lib.Math.min.name Lib.Math.min.code 2 (some .int), .fieldLink "RunProver$Tokens" 29 "RunProver$Tokens" "length" "I", .fieldLink "RunProver$Tokens" 33 "RunProver$Tokens" "amount" "I", .fieldLink "RunProver$Tokens" 36 "RunProver$Tokens" "faultKind" "I", .fieldLink "RunProver$Tokens" 39 "RunProver$Tokens" "faultPlace" "I", .code yTk_behindBlanks cTk_behindBlanks 5 (some .int), .methodLink "RunProver$Tokens" 42 yTk_behindBlanks, .instanceMethod yTk_behindBlanks, .selects "RunProver$Tokens" yTk_behindBlanks yTk_behindBlanks, .fieldLink "RunProver$Tokens" 49 "RunProver$Tokens" "at" "I", .fieldLink "RunProver$Tokens" 55 "RunProver$Tokens" "kind" "I", .fieldLink "RunProver$Tokens" 58 "RunProver$Tokens" "place" "I", .fieldLink "RunProver$Tokens" 61 "RunProver$Tokens" "detail" "I", .code yTk_advance cTk_advance 1 none, .methodLink "RunProver$Tokens" 52 yTk_advance, .instanceMethod yTk_advance, .selects "RunProver$Tokens" yTk_advance yTk_advance, .code yTk_begin cTk_begin 3 none, .methodLink "RunProver$Parser" 53 yTk_begin, .instanceMethod yTk_begin, .selects "RunProver$Tokens" yTk_begin yTk_begin, .code yTk_misfit cTk_misfit 1 (some .int), .methodLink "RunProver$Tokens" 64 yTk_misfit, .instanceMethod yTk_misfit, .selects "RunProver$Tokens" yTk_misfit yTk_misfit, .code yTk_fail cTk_fail 3 none, .methodLink "RunProver$Tokens" 68 yTk_fail, .instanceMethod yTk_fail, .selects "RunProver$Tokens" yTk_fail yTk_fail, .code yTk_take cTk_take 2 none, .methodLink "RunProver$Parser" 56 yTk_take, .instanceMethod yTk_take, .selects "RunProver$Tokens" yTk_take yTk_take, .code yTk_takeNumber cTk_takeNumber 4 (some .int), .methodLink "RunProver$Parser" 61 yTk_takeNumber, .instanceMethod yTk_takeNumber, .selects "RunProver$Tokens" yTk_takeNumber yTk_takeNumber]
def wa12 : List Cond := [.fieldLink "RunProver$Parser" 65 "RunProver$Program" "width" "I", .fieldLink "RunProver$Parser" 78 "RunProver$Tokens" "kind" "I", .code yPa_declarations cPa_declarations 2 none, .methodLink "RunProver$Parser" 68 yPa_declarations, .instanceMethod yPa_declarations, .selects "RunProver$Parser" yPa_declarations yPa_declarations, .code yTk_tooDeep cTk_tooDeep 2 (some .boolean), .methodLink "RunProver$Parser" 140 yTk_tooDeep, .instanceMethod yTk_tooDeep, .selects "RunProver$Tokens" yTk_tooDeep yTk_tooDeep, .code yPa_goesOn cPa_goesOn 1 (some .boolean), .methodLink "RunProver$Parser" 144 yPa_goesOn, .instanceMethod yPa_goesOn, .selects "RunProver$Parser" yPa_goesOn yPa_goesOn, .code yPa_statements cPa_statements 6 (some .int), .methodLink "RunProver$Parser" 71 yPa_statements, .instanceMethod yPa_statements, .selects "RunProver$Parser" yPa_statements yPa_statements, .fieldLink "RunProver$Parser" 75 "RunProver$Program" "first" "I", .code yTk_refuse cTk_refuse 1 none, .methodLink "RunProver$Parser" 81 yTk_refuse, .instanceMethod yTk_refuse, .selects "RunProver$Tokens" yTk_refuse yTk_refuse, .fieldLink "RunProver$Parser" 84 "RunProver$Expressions" "cost" "I", .fieldLink "RunProver$Parser" 87 "RunProver$Program" "costs" "I", .fieldLink "RunProver$Parser" 90 "RunProver$Expressions" "deepest" "I", .code yPa_parse cPa_parse 2 none, .methodLink "RunProver" 108 yPa_parse, .instanceMethod yPa_parse, .selects "RunProver$Parser" yPa_parse yPa_parse, .fieldLink "RunProver" 111 "RunProver$Parser" "tokens" "LRunProver$Tokens;", .fieldLink "RunProver" 115 "RunProver$Tokens" "faultKind" "I", .fieldLink "RunProver" 120 "RunProver" "faultKind" "I", .fieldLink "RunProver" 121 "RunProver$Tokens" "faultPlace" "I", .fieldLink "RunProver" 124 "RunProver" "faultPlace" "I", .fieldLink "RunProver" 125 "RunProver" "hasText" "Z", .methodLink "RunProver" 129 yPg_clear, .methodLink "RunProver$Gates" 41 yAr_fill, .code yGa_clear cGa_clear 1 none, .methodLink "RunProver$Unroller" 55 yGa_clear]
def wa13 : List Cond := [.instanceMethod yGa_clear, .selects "RunProver$Gates" yGa_clear yGa_clear, .fieldLink "RunProver$Unroller" 60 "RunProver$Program" "width" "I", .fieldLink "RunProver$Words" 28 "RunProver$Words" "width" "I", .fieldLink "RunProver$Words" 32 "RunProver$Words" "top" "I", .code yWo_begin cWo_begin 2 none, .methodLink "RunProver$Unroller" 64 yWo_begin, .instanceMethod yWo_begin, .selects "RunProver$Words" yWo_begin yWo_begin, .fieldLink "RunProver$Unroller" 68 "RunProver$Program" "elements" "I", .code yAr_rangeCheck cAr_rangeCheck 3 none, .methodLink "java/util/Arrays" 13 yAr_rangeCheck, .static yAr_rangeCheck, .code yAr_fill2 cAr_fill2 5 none, .methodLink "RunProver$Unroller" 71 yAr_fill2, .static yAr_fill2, .methodLink "RunProver$Unroller" 77 yAr_fill, .fieldLink "RunProver$Unroller" 80 "RunProver$Unroller" "on" "I", .fieldLink "RunProver$Unroller" 83 "RunProver$Unroller" "inputCount" "I", .fieldLink "RunProver$Unroller" 86 "RunProver$Unroller" "bitCount" "I", .code yUn_begin cUn_begin 1 none, .methodLink "RunProver" 132 yUn_begin, .instanceMethod yUn_begin, .selects "RunProver$Unroller" yUn_begin yUn_begin, .fieldLink "RunProver" 135 "RunProver$Program" "first" "I", .code yUn_walk cUn_walk 6 none, .methodLink "RunProver" 138 yUn_walk, .instanceMethod yUn_walk, .selects "RunProver$Unroller" yUn_walk yUn_walk, .constant "RunProver" 82 65516, .code yRp_store cRp_store 3 none, .methodLink "RunProver" 90 yRp_store, .instanceMethod yRp_store, .selects "RunProver" yRp_store yRp_store, .initialized "RunProver"]
def wa : List Cond := wa0 ++ (wa1 ++ (wa2 ++ (wa3 ++ (wa4 ++ (wa5 ++ (wa6 ++ (wa7 ++ (wa8 ++ (wa9 ++ (wa10 ++ (wa11 ++ (wa12 ++ (wa13)))))))))))))
theorem wbm0 {w : Cond} (i : Nat) (h : wa0[i]? = some w) : w ∈ wa := by unfold wa; exact List.mem_append_left _ (List.mem_of_getElem? h)
theorem wam0 {c0 w : Cond} (i : Nat) (h : wa0[i]? = some w) : w ∈ c0 :: wa := List.mem_cons_of_mem _ (wbm0 i h)
theorem wag0 : wa0.all goodWord = true := by decide +kernel
theorem wbm1 {w : Cond} (i : Nat) (h : wa1[i]? = some w) : w ∈ wa := by unfold wa; exact List.mem_append_right _ (List.mem_append_left _ (List.mem_of_getElem? h))
theorem wam1 {c0 w : Cond} (i : Nat) (h : wa1[i]? = some w) : w ∈ c0 :: wa := List.mem_cons_of_mem _ (wbm1 i h)
theorem wag1 : wa1.all goodWord = true := by decide +kernel
theorem wbm2 {w : Cond} (i : Nat) (h : wa2[i]? = some w) : w ∈ wa := by unfold wa; exact List.mem_append_right _ (List.mem_append_right _ (List.mem_append_left _ (List.mem_of_getElem? h)))
theorem wam2 {c0 w : Cond} (i : Nat) (h : wa2[i]? = some w) : w ∈ c0 :: wa := List.mem_cons_of_mem _ (wbm2 i h)
theorem wag2 : wa2.all goodWord = true := by decide +kernel
theorem wbm3 {w : Cond} (i : Nat) (h : wa3[i]? = some w) : w ∈ wa := by unfold wa; exact List.mem_append_right _ (List.mem_append_right _ (List.mem_append_right _ (List.mem_append_left _ (List.mem_of_getElem? h))))
theorem wam3 {c0 w : Cond} (i : Nat) (h : wa3[i]? = some w) : w ∈ c0 :: wa := List.mem_cons_of_mem _ (wbm3 i h)
theorem wag3 : wa3.all goodWord = true := by decide +kernel
theorem wbm4 {w : Cond} (i : Nat) (h : wa4[i]? = some w) : w ∈ wa := by unfold wa; exact List.mem_append_right _ (List.mem_append_right _ (List.mem_append_right _ (List.mem_append_right _ (List.mem_append_left _ (List.mem_of_getElem? h)))))
theorem wam4 {c0 w : Cond} (i : Nat) (h : wa4[i]? = some w) : w ∈ c0 :: wa := List.mem_cons_of_mem _ (wbm4 i h)
theorem wag4 : wa4.all goodWord = true := by decide +kernel
theorem wbm5 {w : Cond} (i : Nat) (h : wa5[i]? = some w) : w ∈ wa := by unfold wa; exact List.mem_append_right _ (List.mem_append_right _ (List.mem_append_right _ (List.mem_append_right _ (List.mem_append_right _ (List.mem_append_left _ (List.mem_of_getElem? h))))))
theorem wam5 {c0 w : Cond} (i : Nat) (h : wa5[i]? = some w) : w ∈ c0 :: wa := List.mem_cons_of_mem _ (wbm5 i h)
theorem wag5 : wa5.all goodWord = true := by decide +kernel
theorem wbm6 {w : Cond} (i : Nat) (h : wa6[i]? = some w) : w ∈ wa := by unfold wa; exact List.mem_append_right _ (List.mem_append_right _ (List.mem_append_right _ (List.mem_append_right _ (List.mem_append_right _ (List.mem_append_right _ (List.mem_append_left _ (List.mem_of_getElem? h)))))))
theorem wam6 {c0 w : Cond} (i : Nat) (h : wa6[i]? = some w) : w ∈ c0 :: wa := List.mem_cons_of_mem _ (wbm6 i h)
theorem wag6 : wa6.all goodWord = true := by decide +kernel
theorem wbm7 {w : Cond} (i : Nat) (h : wa7[i]? = some w) : w ∈ wa := by unfold wa; exact List.mem_append_right _ (List.mem_append_right _ (List.mem_append_right _ (List.mem_append_right _ (List.mem_append_right _ (List.mem_append_right _ (List.mem_append_right _ (List.mem_append_left _ (List.mem_of_getElem? h))))))))
theorem wam7 {c0 w : Cond} (i : Nat) (h : wa7[i]? = some w) : w ∈ c0 :: wa := List.mem_cons_of_mem _ (wbm7 i h)
theorem wag7 : wa7.all goodWord = true := by decide +kernel
theorem wbm8 {w : Cond} (i : Nat) (h : wa8[i]? = some w) : w ∈ wa := by unfold wa; exact List.mem_append_right _ (List.mem_append_right _ (List.mem_append_right _ (List.mem_append_right _ (List.mem_append_right _ (List.mem_append_right _ (List.mem_append_right _ (List.mem_append_right _ (List.mem_append_left _ (List.mem_of_getElem? h)))))))))
theorem wam8 {c0 w : Cond} (i : Nat) (h : wa8[i]? = some w) : w ∈ c0 :: wa := List.mem_cons_of_mem _ (wbm8 i h)
theorem wag8 : wa8.all goodWord = true := by decide +kernel
theorem wbm9 {w : Cond} (i : Nat) (h : wa9[i]? = some w) : w ∈ wa := by unfold wa; exact List.mem_append_right _ (List.mem_append_right _ (List.mem_append_right _ (List.mem_append_right _ (List.mem_append_right _ (List.mem_append_right _ (List.mem_append_right _ (List.mem_append_right _ (List.mem_append_right _ (List.mem_append_left _ (List.mem_of_getElem? h))))))))))
theorem wam9 {c0 w : Cond} (i : Nat) (h : wa9[i]? = some w) : w ∈ c0 :: wa := List.mem_cons_of_mem _ (wbm9 i h)
theorem wag9 : wa9.all goodWord = true := by decide +kernel
theorem wbm10 {w : Cond} (i : Nat) (h : wa10[i]? = some w) : w ∈ wa := by unfold wa; exact List.mem_append_right _ (List.mem_append_right _ (List.mem_append_right _ (List.mem_append_right _ (List.mem_append_right _ (List.mem_append_right _ (List.mem_append_right _ (List.mem_append_right _ (List.mem_append_right _ (List.mem_append_right _ (List.mem_append_left _ (List.mem_of_getElem? h)))))))))))
theorem wam10 {c0 w : Cond} (i : Nat) (h : wa10[i]? = some w) : w ∈ c0 :: wa := List.mem_cons_of_mem _ (wbm10 i h)
theorem wag10 : wa10.all goodWord = true := by decide +kernel
theorem wbm11 {w : Cond} (i : Nat) (h : wa11[i]? = some w) : w ∈ wa := by unfold wa; exact List.mem_append_right _ (List.mem_append_right _ (List.mem_append_right _ (List.mem_append_right _ (List.mem_append_right _ (List.mem_append_right _ (List.mem_append_right _ (List.mem_append_right _ (List.mem_append_right _ (List.mem_append_right _ (List.mem_append_right _ (List.mem_append_left _ (List.mem_of_getElem? h))))))))))))
theorem wam11 {c0 w : Cond} (i : Nat) (h : wa11[i]? = some w) : w ∈ c0 :: wa := List.mem_cons_of_mem _ (wbm11 i h)
theorem wag11 : wa11.all goodWord = true := by decide +kernel
theorem wbm12 {w : Cond} (i : Nat) (h : wa12[i]? = some w) : w ∈ wa := by unfold wa; exact List.mem_append_right _ (List.mem_append_right _ (List.mem_append_right _ (List.mem_append_right _ (List.mem_append_right _ (List.mem_append_right _ (List.mem_append_right _ (List.mem_append_right _ (List.mem_append_right _ (List.mem_append_right _ (List.mem_append_right _ (List.mem_append_right _ (List.mem_append_left _ (List.mem_of_getElem? h)))))))))))))
theorem wam12 {c0 w : Cond} (i : Nat) (h : wa12[i]? = some w) : w ∈ c0 :: wa := List.mem_cons_of_mem _ (wbm12 i h)
theorem wag12 : wa12.all goodWord = true := by decide +kernel
theorem wbm13 {w : Cond} (i : Nat) (h : wa13[i]? = some w) : w ∈ wa := by unfold wa; exact List.mem_append_right _ (List.mem_append_right _ (List.mem_append_right _ (List.mem_append_right _ (List.mem_append_right _ (List.mem_append_right _ (List.mem_append_right _ (List.mem_append_right _ (List.mem_append_right _ (List.mem_append_right _ (List.mem_append_right _ (List.mem_append_right _ (List.mem_append_right _ (List.mem_of_getElem? h)))))))))))))
theorem wam13 {c0 w : Cond} (i : Nat) (h : wa13[i]? = some w) : w ∈ c0 :: wa := List.mem_cons_of_mem _ (wbm13 i h)
theorem wag13 : wa13.all goodWord = true := by decide +kernel
theorem wa_good : ∀ w ∈ wa, (w.onTables && w.keeps) = true ∨ ∃ ty, w = .arrayClass ty := by
  intro w h
  unfold wa at h
  simp only [List.mem_append] at h
  rcases h with h | h | h | h | h | h | h | h | h | h | h | h | h | h
  · exact good_of_word (List.all_eq_true.mp wag0 w h)
  · exact good_of_word (List.all_eq_true.mp wag1 w h)
  · exact good_of_word (List.all_eq_true.mp wag2 w h)
  · exact good_of_word (List.all_eq_true.mp wag3 w h)
  · exact good_of_word (List.all_eq_true.mp wag4 w h)
  · exact good_of_word (List.all_eq_true.mp wag5 w h)
  · exact good_of_word (List.all_eq_true.mp wag6 w h)
  · exact good_of_word (List.all_eq_true.mp wag7 w h)
  · exact good_of_word (List.all_eq_true.mp wag8 w h)
  · exact good_of_word (List.all_eq_true.mp wag9 w h)
  · exact good_of_word (List.all_eq_true.mp wag10 w h)
  · exact good_of_word (List.all_eq_true.mp wag11 w h)
  · exact good_of_word (List.all_eq_true.mp wag12 w h)
  · exact good_of_word (List.all_eq_true.mp wag13 w h)
theorem gI {c0 : Cond} {y : MethodName} {cy : ByteArray} {n : Nat} {r : Option FieldType} (h : Cond.code y cy n r ∈ wa) : GoodIn (c0 :: wa) (Cond.code y cy n r :: wa) := by
  intro w hw
  rcases List.mem_cons.mp hw with rfl | hw
  · exact ⟨List.mem_cons_of_mem _ h, wa_good _ h⟩
  · exact ⟨List.mem_cons_of_mem _ hw, wa_good _ hw⟩
theorem gV {c0 : Cond} {own C : String} {idx : Nat} {y : MethodName} {cy : ByteArray} {n : Nat} {r : Option FieldType} (h1 : Cond.methodLink own idx y ∈ wa) (h2 : Cond.instanceMethod y ∈ wa) (h3 : Cond.selects C y y ∈ wa) (h4 : Cond.initialized C ∈ wa) (h : Cond.code y cy n r ∈ wa) : GoodIn (c0 :: wa) (wsV own idx C y (Cond.code y cy n r :: wa)) := by
  intro w hw
  unfold wsV at hw
  rcases List.mem_append.mp hw with hw | hw
  · have h9 : w ∈ wa := by
      simp only [List.mem_cons, List.not_mem_nil, or_false] at hw
      rcases hw with rfl | rfl | rfl | rfl <;> assumption
    exact ⟨List.mem_cons_of_mem _ h9, wa_good _ h9⟩
  · exact gI h w hw
theorem gS {c0 : Cond} {own : String} {idx : Nat} {y : MethodName} {cy : ByteArray} {n : Nat} {r : Option FieldType} (h1 : Cond.methodLink own idx y ∈ wa) (h2 : Cond.static y ∈ wa) (h4 : Cond.initialized y.cls ∈ wa) (h : Cond.code y cy n r ∈ wa) : GoodIn (c0 :: wa) (va_wsS own idx y (Cond.code y cy n r :: wa)) := by
  intro w hw
  unfold va_wsS at hw
  rcases List.mem_append.mp hw with hw | hw
  · have h9 : w ∈ wa := by
      simp only [List.mem_cons, List.not_mem_nil, or_false] at hw
      rcases hw with rfl | rfl | rfl <;> assumption
    exact ⟨List.mem_cons_of_mem _ h9, wa_good _ h9⟩
  · exact gI h w hw
theorem inRp (c0 : Cond) : ∀ w ∈ u_ws "RunProver" TRp 16, w ∈ c0 :: wa := by
  intro w h
  obtain ⟨k, hk, rfl⟩ := List.mem_map.mp h
  have hk := List.mem_range.mp hk
  rcases (show k = 0 ∨ k = 1 ∨ k = 2 ∨ k = 3 ∨ k = 4 ∨ k = 5 ∨ k = 6 ∨ k = 7 ∨ k = 8 ∨ k = 9 ∨ k = 10 ∨ k = 11 ∨ k = 12 ∨ k = 13 ∨ k = 14 ∨ k = 15 by omega) with rfl | rfl | rfl | rfl | rfl | rfl | rfl | rfl | rfl | rfl | rfl | rfl | rfl | rfl | rfl | rfl
  · exact (wam5 31 rfl)
  · exact (wam5 32 rfl)
  · exact (wam5 33 rfl)
  · exact (wam5 34 rfl)
  · exact (wam5 35 rfl)
  · exact (wam5 36 rfl)
  · exact (wam5 37 rfl)
  · exact (wam5 38 rfl)
  · exact (wam5 39 rfl)
  · exact (wam6 0 rfl)
  · exact (wam6 1 rfl)
  · exact (wam6 2 rfl)
  · exact (wam6 3 rfl)
  · exact (wam6 4 rfl)
  · exact (wam6 5 rfl)
  · exact (wam6 6 rfl)
theorem inPg (c0 : Cond) : ∀ w ∈ u_ws "RunProver$Program" TPg 17, w ∈ c0 :: wa := by
  intro w h
  obtain ⟨k, hk, rfl⟩ := List.mem_map.mp h
  have hk := List.mem_range.mp hk
  rcases (show k = 0 ∨ k = 1 ∨ k = 2 ∨ k = 3 ∨ k = 4 ∨ k = 5 ∨ k = 6 ∨ k = 7 ∨ k = 8 ∨ k = 9 ∨ k = 10 ∨ k = 11 ∨ k = 12 ∨ k = 13 ∨ k = 14 ∨ k = 15 ∨ k = 16 by omega) with rfl | rfl | rfl | rfl | rfl | rfl | rfl | rfl | rfl | rfl | rfl | rfl | rfl | rfl | rfl | rfl | rfl
  · exact (wam6 7 rfl)
  · exact (wam6 8 rfl)
  · exact (wam6 9 rfl)
  · exact (wam6 10 rfl)
  · exact (wam6 11 rfl)
  · exact (wam6 12 rfl)
  · exact (wam6 13 rfl)
  · exact (wam6 14 rfl)
  · exact (wam6 15 rfl)
  · exact (wam6 16 rfl)
  · exact (wam6 17 rfl)
  · exact (wam6 18 rfl)
  · exact (wam6 19 rfl)
  · exact (wam6 20 rfl)
  · exact (wam6 21 rfl)
  · exact (wam6 22 rfl)
  · exact (wam6 23 rfl)
theorem inPa (c0 : Cond) : ∀ w ∈ u_ws "RunProver$Parser" TPa 5, w ∈ c0 :: wa := by
  intro w h
  obtain ⟨k, hk, rfl⟩ := List.mem_map.mp h
  have hk := List.mem_range.mp hk
  rcases (show k = 0 ∨ k = 1 ∨ k = 2 ∨ k = 3 ∨ k = 4 by omega) with rfl | rfl | rfl | rfl | rfl
  · exact (wam6 24 rfl)
  · exact (wam6 25 rfl)
  · exact (wam6 26 rfl)
  · exact (wam6 27 rfl)
  · exact (wam6 28 rfl)
theorem inNm (c0 : Cond) : ∀ w ∈ u_ws "RunProver$Names" TNm 5, w ∈ c0 :: wa := by
  intro w h
  obtain ⟨k, hk, rfl⟩ := List.mem_map.mp h
  have hk := List.mem_range.mp hk
  rcases (show k = 0 ∨ k = 1 ∨ k = 2 ∨ k = 3 ∨ k = 4 by omega) with rfl | rfl | rfl | rfl | rfl
  · exact (wam6 29 rfl)
  · exact (wam6 30 rfl)
  · exact (wam6 31 rfl)
  · exact (wam6 32 rfl)
  · exact (wam6 33 rfl)
theorem inTk (c0 : Cond) : ∀ w ∈ u_ws "RunProver$Tokens" TTk 12, w ∈ c0 :: wa := by
  intro w h
  obtain ⟨k, hk, rfl⟩ := List.mem_map.mp h
  have hk := List.mem_range.mp hk
  rcases (show k = 0 ∨ k = 1 ∨ k = 2 ∨ k = 3 ∨ k = 4 ∨ k = 5 ∨ k = 6 ∨ k = 7 ∨ k = 8 ∨ k = 9 ∨ k = 10 ∨ k = 11 by omega) with rfl | rfl | rfl | rfl | rfl | rfl | rfl | rfl | rfl | rfl | rfl | rfl
  · exact (wam6 34 rfl)
  · exact (wam6 35 rfl)
  · exact (wam6 36 rfl)
  · exact (wam6 37 rfl)
  · exact (wam6 38 rfl)
  · exact (wam6 39 rfl)
  · exact (wam7 0 rfl)
  · exact (wam7 1 rfl)
  · exact (wam7 2 rfl)
  · exact (wam7 3 rfl)
  · exact (wam7 4 rfl)
  · exact (wam7 5 rfl)
theorem inEx (c0 : Cond) : ∀ w ∈ u_ws "RunProver$Expressions" TEx 9, w ∈ c0 :: wa := by
  intro w h
  obtain ⟨k, hk, rfl⟩ := List.mem_map.mp h
  have hk := List.mem_range.mp hk
  rcases (show k = 0 ∨ k = 1 ∨ k = 2 ∨ k = 3 ∨ k = 4 ∨ k = 5 ∨ k = 6 ∨ k = 7 ∨ k = 8 by omega) with rfl | rfl | rfl | rfl | rfl | rfl | rfl | rfl | rfl
  · exact (wam7 6 rfl)
  · exact (wam7 7 rfl)
  · exact (wam7 8 rfl)
  · exact (wam7 9 rfl)
  · exact (wam7 10 rfl)
  · exact (wam7 11 rfl)
  · exact (wam7 12 rfl)
  · exact (wam7 13 rfl)
  · exact (wam7 14 rfl)
theorem inGa (c0 : Cond) : ∀ w ∈ u_ws "RunProver$Gates" TGa 9, w ∈ c0 :: wa := by
  intro w h
  obtain ⟨k, hk, rfl⟩ := List.mem_map.mp h
  have hk := List.mem_range.mp hk
  rcases (show k = 0 ∨ k = 1 ∨ k = 2 ∨ k = 3 ∨ k = 4 ∨ k = 5 ∨ k = 6 ∨ k = 7 ∨ k = 8 by omega) with rfl | rfl | rfl | rfl | rfl | rfl | rfl | rfl | rfl
  · exact (wam7 15 rfl)
  · exact (wam7 16 rfl)
  · exact (wam7 17 rfl)
  · exact (wam7 18 rfl)
  · exact (wam7 19 rfl)
  · exact (wam7 20 rfl)
  · exact (wam7 21 rfl)
  · exact (wam7 22 rfl)
  · exact (wam7 23 rfl)
theorem inUn (c0 : Cond) : ∀ w ∈ u_ws "RunProver$Unroller" TUn 14, w ∈ c0 :: wa := by
  intro w h
  obtain ⟨k, hk, rfl⟩ := List.mem_map.mp h
  have hk := List.mem_range.mp hk
  rcases (show k = 0 ∨ k = 1 ∨ k = 2 ∨ k = 3 ∨ k = 4 ∨ k = 5 ∨ k = 6 ∨ k = 7 ∨ k = 8 ∨ k = 9 ∨ k = 10 ∨ k = 11 ∨ k = 12 ∨ k = 13 by omega) with rfl | rfl | rfl | rfl | rfl | rfl | rfl | rfl | rfl | rfl | rfl | rfl | rfl | rfl
  · exact (wam7 24 rfl)
  · exact (wam7 25 rfl)
  · exact (wam7 26 rfl)
  · exact (wam7 27 rfl)
  · exact (wam7 28 rfl)
  · exact (wam7 29 rfl)
  · exact (wam7 30 rfl)
  · exact (wam7 31 rfl)
  · exact (wam7 32 rfl)
  · exact (wam7 33 rfl)
  · exact (wam7 34 rfl)
  · exact (wam7 35 rfl)
  · exact (wam7 36 rfl)
  · exact (wam7 37 rfl)
theorem inWo (c0 : Cond) : ∀ w ∈ u_ws "RunProver$Words" TWo 7, w ∈ c0 :: wa := by
  intro w h
  obtain ⟨k, hk, rfl⟩ := List.mem_map.mp h
  have hk := List.mem_range.mp hk
  rcases (show k = 0 ∨ k = 1 ∨ k = 2 ∨ k = 3 ∨ k = 4 ∨ k = 5 ∨ k = 6 by omega) with rfl | rfl | rfl | rfl | rfl | rfl | rfl
  · exact (wam7 38 rfl)
  · exact (wam7 39 rfl)
  · exact (wam8 0 rfl)
  · exact (wam8 1 rfl)
  · exact (wam8 2 rfl)
  · exact (wam8 3 rfl)
  · exact (wam8 4 rfl)
theorem inCl (c0 : Cond) : ∀ w ∈ u_ws "RunProver$Clauses" TCl 4, w ∈ c0 :: wa := by
  intro w h
  obtain ⟨k, hk, rfl⟩ := List.mem_map.mp h
  have hk := List.mem_range.mp hk
  rcases (show k = 0 ∨ k = 1 ∨ k = 2 ∨ k = 3 by omega) with rfl | rfl | rfl | rfl
  · exact (wam8 5 rfl)
  · exact (wam8 6 rfl)
  · exact (wam8 7 rfl)
  · exact (wam8 8 rfl)
theorem inCk (c0 : Cond) : ∀ w ∈ u_ws "RunProver$Checker" TCk 6, w ∈ c0 :: wa := by
  intro w h
  obtain ⟨k, hk, rfl⟩ := List.mem_map.mp h
  have hk := List.mem_range.mp hk
  rcases (show k = 0 ∨ k = 1 ∨ k = 2 ∨ k = 3 ∨ k = 4 ∨ k = 5 by omega) with rfl | rfl | rfl | rfl | rfl | rfl
  · exact (wam8 9 rfl)
  · exact (wam8 10 rfl)
  · exact (wam8 11 rfl)
  · exact (wam8 12 rfl)
  · exact (wam8 13 rfl)
  · exact (wam8 14 rfl)
theorem inSe (c0 : Cond) : ∀ w ∈ u_ws "RunProver$Search" TSe 21, w ∈ c0 :: wa := by
  intro w h
  obtain ⟨k, hk, rfl⟩ := List.mem_map.mp h
  have hk := List.mem_range.mp hk
  rcases (show k = 0 ∨ k = 1 ∨ k = 2 ∨ k = 3 ∨ k = 4 ∨ k = 5 ∨ k = 6 ∨ k = 7 ∨ k = 8 ∨ k = 9 ∨ k = 10 ∨ k = 11 ∨ k = 12 ∨ k = 13 ∨ k = 14 ∨ k = 15 ∨ k = 16 ∨ k = 17 ∨ k = 18 ∨ k = 19 ∨ k = 20 by omega) with rfl | rfl | rfl | rfl | rfl | rfl | rfl | rfl | rfl | rfl | rfl | rfl | rfl | rfl | rfl | rfl | rfl | rfl | rfl | rfl | rfl
  · exact (wam8 15 rfl)
  · exact (wam8 16 rfl)
  · exact (wam8 17 rfl)
  · exact (wam8 18 rfl)
  · exact (wam8 19 rfl)
  · exact (wam8 20 rfl)
  · exact (wam8 21 rfl)
  · exact (wam8 22 rfl)
  · exact (wam8 23 rfl)
  · exact (wam8 24 rfl)
  · exact (wam8 25 rfl)
  · exact (wam8 26 rfl)
  · exact (wam8 27 rfl)
  · exact (wam8 28 rfl)
  · exact (wam8 29 rfl)
  · exact (wam8 30 rfl)
  · exact (wam8 31 rfl)
  · exact (wam8 32 rfl)
  · exact (wam8 33 rfl)
  · exact (wam8 34 rfl)
  · exact (wam8 35 rfl)
theorem inMo (c0 : Cond) : ∀ w ∈ u_ws "RunProverModel" TMo 56, w ∈ c0 :: wa := by
  intro w h
  obtain ⟨k, hk, rfl⟩ := List.mem_map.mp h
  have hk := List.mem_range.mp hk
  rcases (show k = 0 ∨ k = 1 ∨ k = 2 ∨ k = 3 ∨ k = 4 ∨ k = 5 ∨ k = 6 ∨ k = 7 ∨ k = 8 ∨ k = 9 ∨ k = 10 ∨ k = 11 ∨ k = 12 ∨ k = 13 ∨ k = 14 ∨ k = 15 ∨ k = 16 ∨ k = 17 ∨ k = 18 ∨ k = 19 ∨ k = 20 ∨ k = 21 ∨ k = 22 ∨ k = 23 ∨ k = 24 ∨ k = 25 ∨ k = 26 ∨ k = 27 ∨ k = 28 ∨ k = 29 ∨ k = 30 ∨ k = 31 ∨ k = 32 ∨ k = 33 ∨ k = 34 ∨ k = 35 ∨ k = 36 ∨ k = 37 ∨ k = 38 ∨ k = 39 ∨ k = 40 ∨ k = 41 ∨ k = 42 ∨ k = 43 ∨ k = 44 ∨ k = 45 ∨ k = 46 ∨ k = 47 ∨ k = 48 ∨ k = 49 ∨ k = 50 ∨ k = 51 ∨ k = 52 ∨ k = 53 ∨ k = 54 ∨ k = 55 by omega) with rfl | rfl | rfl | rfl | rfl | rfl | rfl | rfl | rfl | rfl | rfl | rfl | rfl | rfl | rfl | rfl | rfl | rfl | rfl | rfl | rfl | rfl | rfl | rfl | rfl | rfl | rfl | rfl | rfl | rfl | rfl | rfl | rfl | rfl | rfl | rfl | rfl | rfl | rfl | rfl | rfl | rfl | rfl | rfl | rfl | rfl | rfl | rfl | rfl | rfl | rfl | rfl | rfl | rfl | rfl | rfl
  · exact (wam8 36 rfl)
  · exact (wam8 37 rfl)
  · exact (wam8 38 rfl)
  · exact (wam8 39 rfl)
  · exact (wam9 0 rfl)
  · exact (wam9 1 rfl)
  · exact (wam9 2 rfl)
  · exact (wam9 3 rfl)
  · exact (wam9 4 rfl)
  · exact (wam9 5 rfl)
  · exact (wam9 6 rfl)
  · exact (wam9 7 rfl)
  · exact (wam9 8 rfl)
  · exact (wam9 9 rfl)
  · exact (wam9 10 rfl)
  · exact (wam9 11 rfl)
  · exact (wam9 12 rfl)
  · exact (wam9 13 rfl)
  · exact (wam9 14 rfl)
  · exact (wam9 15 rfl)
  · exact (wam9 16 rfl)
  · exact (wam9 17 rfl)
  · exact (wam9 18 rfl)
  · exact (wam9 19 rfl)
  · exact (wam9 20 rfl)
  · exact (wam9 21 rfl)
  · exact (wam9 22 rfl)
  · exact (wam9 23 rfl)
  · exact (wam9 24 rfl)
  · exact (wam9 25 rfl)
  · exact (wam9 26 rfl)
  · exact (wam9 27 rfl)
  · exact (wam9 28 rfl)
  · exact (wam9 29 rfl)
  · exact (wam9 30 rfl)
  · exact (wam9 31 rfl)
  · exact (wam9 32 rfl)
  · exact (wam9 33 rfl)
  · exact (wam9 34 rfl)
  · exact (wam9 35 rfl)
  · exact (wam9 36 rfl)
  · exact (wam9 37 rfl)
  · exact (wam9 38 rfl)
  · exact (wam9 39 rfl)
  · exact (wam10 0 rfl)
  · exact (wam10 1 rfl)
  · exact (wam10 2 rfl)
  · exact (wam10 3 rfl)
  · exact (wam10 4 rfl)
  · exact (wam10 5 rfl)
  · exact (wam10 6 rfl)
  · exact (wam10 7 rfl)
  · exact (wam10 8 rfl)
  · exact (wam10 9 rfl)
  · exact (wam10 10 rfl)
  · exact (wam10 11 rfl)
abbrev wsRp_init : List Cond := .code yRp_init cRp_init 1 none :: wa
abbrev wsPg_init : List Cond := .code yPg_init cPg_init 1 none :: wa
abbrev wsPa_init : List Cond := .code yPa_init cPa_init 3 none :: wa
abbrev wsNm_init : List Cond := .code yNm_init cNm_init 1 none :: wa
abbrev wsTk_init : List Cond := .code yTk_init cTk_init 2 none :: wa
abbrev wsEx_init : List Cond := .code yEx_init cEx_init 4 none :: wa
abbrev wsGa_init : List Cond := .code yGa_init cGa_init 1 none :: wa
abbrev wsUn_init : List Cond := .code yUn_init cUn_init 3 none :: wa
abbrev wsWo_init : List Cond := .code yWo_init cWo_init 2 none :: wa
abbrev wsCl_init : List Cond := .code yCl_init cCl_init 1 none :: wa
abbrev wsCk_init : List Cond := .code yCk_init cCk_init 2 none :: wa
abbrev wsSe_init : List Cond := .code ySe_init cSe_init 3 none :: wa
abbrev wsMo_init : List Cond := .code yMo_init cMo_init 1 none :: wa
abbrev wsRp_read : List Cond := .code yRp_read cRp_read 1 (some .int) :: wa
abbrev wsAr_fill : List Cond := .code yAr_fill cAr_fill 4 none :: wa
abbrev wsPa_parse : List Cond := .code yPa_parse cPa_parse 2 none :: wa
abbrev wsPg_clear : List Cond := .code yPg_clear cPg_clear 1 none :: wa
abbrev wsEx_begin : List Cond := .code yEx_begin cEx_begin 1 none :: wa
abbrev wsTk_begin : List Cond := .code yTk_begin cTk_begin 3 none :: wa
abbrev wsTk_behindBlanks : List Cond := .code yTk_behindBlanks cTk_behindBlanks 5 (some .int) :: wa
abbrev wsTk_advance : List Cond := .code yTk_advance cTk_advance 1 none :: wa
abbrev wsTk_take : List Cond := .code yTk_take cTk_take 2 none :: wa
abbrev wsTk_misfit : List Cond := .code yTk_misfit cTk_misfit 1 (some .int) :: wa
abbrev wsTk_fail : List Cond := .code yTk_fail cTk_fail 3 none :: wa
abbrev wsTk_takeNumber : List Cond := .code yTk_takeNumber cTk_takeNumber 4 (some .int) :: wa
abbrev wsPa_declarations : List Cond := .code yPa_declarations cPa_declarations 2 none :: wa
abbrev wsPa_statements : List Cond := .code yPa_statements cPa_statements 6 (some .int) :: wa
abbrev wsTk_tooDeep : List Cond := .code yTk_tooDeep cTk_tooDeep 2 (some .boolean) :: wa
abbrev wsPa_goesOn : List Cond := .code yPa_goesOn cPa_goesOn 1 (some .boolean) :: wa
abbrev wsTk_refuse : List Cond := .code yTk_refuse cTk_refuse 1 none :: wa
abbrev wsUn_begin : List Cond := .code yUn_begin cUn_begin 1 none :: wa
abbrev wsGa_clear : List Cond := .code yGa_clear cGa_clear 1 none :: wa
abbrev wsWo_begin : List Cond := .code yWo_begin cWo_begin 2 none :: wa
abbrev wsAr_fill2 : List Cond := .code yAr_fill2 cAr_fill2 5 none :: wa
abbrev wsAr_rangeCheck : List Cond := .code yAr_rangeCheck cAr_rangeCheck 3 none :: wa
abbrev wsUn_walk : List Cond := .code yUn_walk cUn_walk 6 none :: wa
abbrev wsRp_prove : List Cond := .code yRp_prove cRp_prove 2 (some .int) :: wa
abbrev wsRp_run : List Cond := .code yRp_run cRp_run 2 (some .int) :: wa
abbrev wsRp_doubts : List Cond := .code yRp_doubts cRp_doubts 1 (some .int) :: wa
abbrev wsRp_feed : List Cond := .code yRp_feed cRp_feed 6 (some .int) :: wa
abbrev wsRp_store : List Cond := .code yRp_store cRp_store 3 none :: wa
end
section
theorem dRp_init_0 : decode cRp_init 0 = .ok (.aload_n 0, 1) := by decide +kernel
theorem dRp_init_1 : decode cRp_init 1 = .ok (.invokespecial 1, 3) := by decide +kernel
theorem dRp_init_4 : decode cRp_init 4 = .ok (.aload_n 0, 1) := by decide +kernel
theorem dRp_init_5 : decode cRp_init 5 = .ok (.ldc 9, 2) := by decide +kernel
theorem dRp_init_7 : decode cRp_init 7 = .ok (.newarray .byte, 2) := by decide +kernel
theorem dRp_init_9 : decode cRp_init 9 = .ok (.putfield 10, 3) := by decide +kernel
theorem dRp_init_12 : decode cRp_init 12 = .ok (.aload_n 0, 1) := by decide +kernel
theorem dRp_init_13 : decode cRp_init 13 = .ok (.new 14, 3) := by decide +kernel
theorem dRp_init_16 : decode cRp_init 16 = .ok (.dup, 1) := by decide +kernel
theorem dRp_init_17 : decode cRp_init 17 = .ok (.invokespecial 16, 3) := by decide +kernel
theorem dRp_init_20 : decode cRp_init 20 = .ok (.putfield 17, 3) := by decide +kernel
theorem dRp_init_23 : decode cRp_init 23 = .ok (.aload_n 0, 1) := by decide +kernel
theorem dRp_init_24 : decode cRp_init 24 = .ok (.new 21, 3) := by decide +kernel
theorem dRp_init_27 : decode cRp_init 27 = .ok (.dup, 1) := by decide +kernel
theorem dRp_init_28 : decode cRp_init 28 = .ok (.aload_n 0, 1) := by decide +kernel
theorem dRp_init_29 : decode cRp_init 29 = .ok (.getfield 17, 3) := by decide +kernel
theorem dRp_init_32 : decode cRp_init 32 = .ok (.aload_n 0, 1) := by decide +kernel
theorem dRp_init_33 : decode cRp_init 33 = .ok (.getfield 10, 3) := by decide +kernel
theorem dRp_init_36 : decode cRp_init 36 = .ok (.invokespecial 23, 3) := by decide +kernel
theorem dRp_init_39 : decode cRp_init 39 = .ok (.putfield 26, 3) := by decide +kernel
theorem dRp_init_42 : decode cRp_init 42 = .ok (.aload_n 0, 1) := by decide +kernel
theorem dRp_init_43 : decode cRp_init 43 = .ok (.new 30, 3) := by decide +kernel
theorem dRp_init_46 : decode cRp_init 46 = .ok (.dup, 1) := by decide +kernel
theorem dRp_init_47 : decode cRp_init 47 = .ok (.invokespecial 32, 3) := by decide +kernel
theorem dRp_init_50 : decode cRp_init 50 = .ok (.putfield 33, 3) := by decide +kernel
theorem dRp_init_53 : decode cRp_init 53 = .ok (.aload_n 0, 1) := by decide +kernel
theorem dRp_init_54 : decode cRp_init 54 = .ok (.new 37, 3) := by decide +kernel
theorem dRp_init_57 : decode cRp_init 57 = .ok (.dup, 1) := by decide +kernel
theorem dRp_init_58 : decode cRp_init 58 = .ok (.aload_n 0, 1) := by decide +kernel
theorem dRp_init_59 : decode cRp_init 59 = .ok (.getfield 17, 3) := by decide +kernel
theorem dRp_init_62 : decode cRp_init 62 = .ok (.aload_n 0, 1) := by decide +kernel
theorem dRp_init_63 : decode cRp_init 63 = .ok (.getfield 33, 3) := by decide +kernel
theorem dRp_init_66 : decode cRp_init 66 = .ok (.invokespecial 39, 3) := by decide +kernel
theorem dRp_init_69 : decode cRp_init 69 = .ok (.putfield 42, 3) := by decide +kernel
theorem dRp_init_72 : decode cRp_init 72 = .ok (.aload_n 0, 1) := by decide +kernel
theorem dRp_init_73 : decode cRp_init 73 = .ok (.new 46, 3) := by decide +kernel
theorem dRp_init_76 : decode cRp_init 76 = .ok (.dup, 1) := by decide +kernel
theorem dRp_init_77 : decode cRp_init 77 = .ok (.invokespecial 48, 3) := by decide +kernel
theorem dRp_init_80 : decode cRp_init 80 = .ok (.putfield 49, 3) := by decide +kernel
theorem dRp_init_83 : decode cRp_init 83 = .ok (.aload_n 0, 1) := by decide +kernel
theorem dRp_init_84 : decode cRp_init 84 = .ok (.new 53, 3) := by decide +kernel
theorem dRp_init_87 : decode cRp_init 87 = .ok (.dup, 1) := by decide +kernel
theorem dRp_init_88 : decode cRp_init 88 = .ok (.aload_n 0, 1) := by decide +kernel
theorem dRp_init_89 : decode cRp_init 89 = .ok (.getfield 49, 3) := by decide +kernel
theorem dRp_init_92 : decode cRp_init 92 = .ok (.invokespecial 55, 3) := by decide +kernel
theorem dRp_init_95 : decode cRp_init 95 = .ok (.putfield 58, 3) := by decide +kernel
theorem dRp_init_98 : decode cRp_init 98 = .ok (.aload_n 0, 1) := by decide +kernel
theorem dRp_init_99 : decode cRp_init 99 = .ok (.new 62, 3) := by decide +kernel
theorem dRp_init_102 : decode cRp_init 102 = .ok (.dup, 1) := by decide +kernel
theorem dRp_init_103 : decode cRp_init 103 = .ok (.aload_n 0, 1) := by decide +kernel
theorem dRp_init_104 : decode cRp_init 104 = .ok (.getfield 49, 3) := by decide +kernel
theorem dRp_init_107 : decode cRp_init 107 = .ok (.aload_n 0, 1) := by decide +kernel
theorem dRp_init_108 : decode cRp_init 108 = .ok (.getfield 58, 3) := by decide +kernel
theorem dRp_init_111 : decode cRp_init 111 = .ok (.invokespecial 64, 3) := by decide +kernel
theorem dRp_init_114 : decode cRp_init 114 = .ok (.putfield 67, 3) := by decide +kernel
theorem dRp_init_117 : decode cRp_init 117 = .ok (.aload_n 0, 1) := by decide +kernel
theorem dRp_init_118 : decode cRp_init 118 = .ok (.bipush 12, 2) := by decide +kernel
theorem dRp_init_120 : decode cRp_init 120 = .ok (.newarray .int, 2) := by decide +kernel
theorem dRp_init_122 : decode cRp_init 122 = .ok (.putfield 71, 3) := by decide +kernel
theorem dRp_init_125 : decode cRp_init 125 = .ok (.aload_n 0, 1) := by decide +kernel
theorem dRp_init_126 : decode cRp_init 126 = .ok (.bipush 30, 2) := by decide +kernel
theorem dRp_init_128 : decode cRp_init 128 = .ok (.newarray .int, 2) := by decide +kernel
theorem dRp_init_130 : decode cRp_init 130 = .ok (.putfield 75, 3) := by decide +kernel
theorem dRp_init_133 : decode cRp_init 133 = .ok (.return_, 1) := by decide +kernel
theorem dPg_init_0 : decode cPg_init 0 = .ok (.aload_n 0, 1) := by decide +kernel
theorem dPg_init_1 : decode cPg_init 1 = .ok (.invokespecial 1, 3) := by decide +kernel
theorem dPg_init_4 : decode cPg_init 4 = .ok (.aload_n 0, 1) := by decide +kernel
theorem dPg_init_5 : decode cPg_init 5 = .ok (.sipush 27000, 3) := by decide +kernel
theorem dPg_init_8 : decode cPg_init 8 = .ok (.newarray .int, 2) := by decide +kernel
theorem dPg_init_10 : decode cPg_init 10 = .ok (.putfield 9, 3) := by decide +kernel
theorem dPg_init_13 : decode cPg_init 13 = .ok (.aload_n 0, 1) := by decide +kernel
theorem dPg_init_14 : decode cPg_init 14 = .ok (.sipush 1000, 3) := by decide +kernel
theorem dPg_init_17 : decode cPg_init 17 = .ok (.newarray .int, 2) := by decide +kernel
theorem dPg_init_19 : decode cPg_init 19 = .ok (.putfield 15, 3) := by decide +kernel
theorem dPg_init_22 : decode cPg_init 22 = .ok (.aload_n 0, 1) := by decide +kernel
theorem dPg_init_23 : decode cPg_init 23 = .ok (.sipush 8000, 3) := by decide +kernel
theorem dPg_init_26 : decode cPg_init 26 = .ok (.newarray .int, 2) := by decide +kernel
theorem dPg_init_28 : decode cPg_init 28 = .ok (.putfield 20, 3) := by decide +kernel
theorem dPg_init_31 : decode cPg_init 31 = .ok (.aload_n 0, 1) := by decide +kernel
theorem dPg_init_32 : decode cPg_init 32 = .ok (.sipush 8000, 3) := by decide +kernel
theorem dPg_init_35 : decode cPg_init 35 = .ok (.newarray .int, 2) := by decide +kernel
theorem dPg_init_37 : decode cPg_init 37 = .ok (.putfield 23, 3) := by decide +kernel
theorem dPg_init_40 : decode cPg_init 40 = .ok (.aload_n 0, 1) := by decide +kernel
theorem dPg_init_41 : decode cPg_init 41 = .ok (.sipush 200, 3) := by decide +kernel
theorem dPg_init_44 : decode cPg_init 44 = .ok (.newarray .int, 2) := by decide +kernel
theorem dPg_init_46 : decode cPg_init 46 = .ok (.putfield 26, 3) := by decide +kernel
theorem dPg_init_49 : decode cPg_init 49 = .ok (.aload_n 0, 1) := by decide +kernel
theorem dPg_init_50 : decode cPg_init 50 = .ok (.sipush 200, 3) := by decide +kernel
theorem dPg_init_53 : decode cPg_init 53 = .ok (.newarray .int, 2) := by decide +kernel
theorem dPg_init_55 : decode cPg_init 55 = .ok (.putfield 29, 3) := by decide +kernel
theorem dPg_init_58 : decode cPg_init 58 = .ok (.aload_n 0, 1) := by decide +kernel
theorem dPg_init_59 : decode cPg_init 59 = .ok (.bipush 30, 2) := by decide +kernel
theorem dPg_init_61 : decode cPg_init 61 = .ok (.newarray .int, 2) := by decide +kernel
theorem dPg_init_63 : decode cPg_init 63 = .ok (.putfield 32, 3) := by decide +kernel
theorem dPg_init_66 : decode cPg_init 66 = .ok (.aload_n 0, 1) := by decide +kernel
theorem dPg_init_67 : decode cPg_init 67 = .ok (.bipush 30, 2) := by decide +kernel
theorem dPg_init_69 : decode cPg_init 69 = .ok (.newarray .int, 2) := by decide +kernel
theorem dPg_init_71 : decode cPg_init 71 = .ok (.putfield 35, 3) := by decide +kernel
theorem dPg_init_74 : decode cPg_init 74 = .ok (.aload_n 0, 1) := by decide +kernel
theorem dPg_init_75 : decode cPg_init 75 = .ok (.iconst (-1), 1) := by decide +kernel
theorem dPg_init_76 : decode cPg_init 76 = .ok (.putfield 38, 3) := by decide +kernel
theorem dPg_init_79 : decode cPg_init 79 = .ok (.return_, 1) := by decide +kernel
theorem dPa_init_0 : decode cPa_init 0 = .ok (.aload_n 0, 1) := by decide +kernel
theorem dPa_init_1 : decode cPa_init 1 = .ok (.invokespecial 1, 3) := by decide +kernel
theorem dPa_init_4 : decode cPa_init 4 = .ok (.aload_n 0, 1) := by decide +kernel
theorem dPa_init_5 : decode cPa_init 5 = .ok (.new 7, 3) := by decide +kernel
theorem dPa_init_8 : decode cPa_init 8 = .ok (.dup, 1) := by decide +kernel
theorem dPa_init_9 : decode cPa_init 9 = .ok (.invokespecial 9, 3) := by decide +kernel
theorem dPa_init_12 : decode cPa_init 12 = .ok (.putfield 10, 3) := by decide +kernel
theorem dPa_init_15 : decode cPa_init 15 = .ok (.aload_n 0, 1) := by decide +kernel
theorem dPa_init_16 : decode cPa_init 16 = .ok (.aload_n 1, 1) := by decide +kernel
theorem dPa_init_17 : decode cPa_init 17 = .ok (.putfield 16, 3) := by decide +kernel
theorem dPa_init_20 : decode cPa_init 20 = .ok (.aload_n 0, 1) := by decide +kernel
theorem dPa_init_21 : decode cPa_init 21 = .ok (.new 20, 3) := by decide +kernel
theorem dPa_init_24 : decode cPa_init 24 = .ok (.dup, 1) := by decide +kernel
theorem dPa_init_25 : decode cPa_init 25 = .ok (.aload_n 2, 1) := by decide +kernel
theorem dPa_init_26 : decode cPa_init 26 = .ok (.invokespecial 22, 3) := by decide +kernel
theorem dPa_init_29 : decode cPa_init 29 = .ok (.putfield 25, 3) := by decide +kernel
theorem dPa_init_32 : decode cPa_init 32 = .ok (.aload_n 0, 1) := by decide +kernel
theorem dPa_init_33 : decode cPa_init 33 = .ok (.new 29, 3) := by decide +kernel
theorem dPa_init_36 : decode cPa_init 36 = .ok (.dup, 1) := by decide +kernel
theorem dPa_init_37 : decode cPa_init 37 = .ok (.aload_n 0, 1) := by decide +kernel
theorem dPa_init_38 : decode cPa_init 38 = .ok (.getfield 25, 3) := by decide +kernel
theorem dPa_init_41 : decode cPa_init 41 = .ok (.aload_n 0, 1) := by decide +kernel
theorem dPa_init_42 : decode cPa_init 42 = .ok (.getfield 10, 3) := by decide +kernel
theorem dPa_init_45 : decode cPa_init 45 = .ok (.aload_n 1, 1) := by decide +kernel
theorem dPa_init_46 : decode cPa_init 46 = .ok (.invokespecial 31, 3) := by decide +kernel
theorem dPa_init_49 : decode cPa_init 49 = .ok (.putfield 34, 3) := by decide +kernel
theorem dPa_init_52 : decode cPa_init 52 = .ok (.return_, 1) := by decide +kernel
theorem dNm_init_0 : decode cNm_init 0 = .ok (.aload_n 0, 1) := by decide +kernel
theorem dNm_init_1 : decode cNm_init 1 = .ok (.invokespecial 1, 3) := by decide +kernel
theorem dNm_init_4 : decode cNm_init 4 = .ok (.aload_n 0, 1) := by decide +kernel
theorem dNm_init_5 : decode cNm_init 5 = .ok (.sipush 200, 3) := by decide +kernel
theorem dNm_init_8 : decode cNm_init 8 = .ok (.newarray .int, 2) := by decide +kernel
theorem dNm_init_10 : decode cNm_init 10 = .ok (.putfield 9, 3) := by decide +kernel
theorem dNm_init_13 : decode cNm_init 13 = .ok (.aload_n 0, 1) := by decide +kernel
theorem dNm_init_14 : decode cNm_init 14 = .ok (.sipush 200, 3) := by decide +kernel
theorem dNm_init_17 : decode cNm_init 17 = .ok (.newarray .int, 2) := by decide +kernel
theorem dNm_init_19 : decode cNm_init 19 = .ok (.putfield 13, 3) := by decide +kernel
theorem dNm_init_22 : decode cNm_init 22 = .ok (.aload_n 0, 1) := by decide +kernel
theorem dNm_init_23 : decode cNm_init 23 = .ok (.sipush 200, 3) := by decide +kernel
theorem dNm_init_26 : decode cNm_init 26 = .ok (.newarray .int, 2) := by decide +kernel
theorem dNm_init_28 : decode cNm_init 28 = .ok (.putfield 16, 3) := by decide +kernel
theorem dNm_init_31 : decode cNm_init 31 = .ok (.aload_n 0, 1) := by decide +kernel
theorem dNm_init_32 : decode cNm_init 32 = .ok (.sipush 200, 3) := by decide +kernel
theorem dNm_init_35 : decode cNm_init 35 = .ok (.newarray .int, 2) := by decide +kernel
theorem dNm_init_37 : decode cNm_init 37 = .ok (.putfield 19, 3) := by decide +kernel
theorem dNm_init_40 : decode cNm_init 40 = .ok (.return_, 1) := by decide +kernel
theorem dTk_init_0 : decode cTk_init 0 = .ok (.aload_n 0, 1) := by decide +kernel
theorem dTk_init_1 : decode cTk_init 1 = .ok (.invokespecial 1, 3) := by decide +kernel
theorem dTk_init_4 : decode cTk_init 4 = .ok (.aload_n 0, 1) := by decide +kernel
theorem dTk_init_5 : decode cTk_init 5 = .ok (.sipush 8002, 3) := by decide +kernel
theorem dTk_init_8 : decode cTk_init 8 = .ok (.newarray .int, 2) := by decide +kernel
theorem dTk_init_10 : decode cTk_init 10 = .ok (.putfield 9, 3) := by decide +kernel
theorem dTk_init_13 : decode cTk_init 13 = .ok (.aload_n 0, 1) := by decide +kernel
theorem dTk_init_14 : decode cTk_init 14 = .ok (.sipush 8002, 3) := by decide +kernel
theorem dTk_init_17 : decode cTk_init 17 = .ok (.newarray .int, 2) := by decide +kernel
theorem dTk_init_19 : decode cTk_init 19 = .ok (.putfield 13, 3) := by decide +kernel
theorem dTk_init_22 : decode cTk_init 22 = .ok (.aload_n 0, 1) := by decide +kernel
theorem dTk_init_23 : decode cTk_init 23 = .ok (.sipush 8002, 3) := by decide +kernel
theorem dTk_init_26 : decode cTk_init 26 = .ok (.newarray .int, 2) := by decide +kernel
theorem dTk_init_28 : decode cTk_init 28 = .ok (.putfield 16, 3) := by decide +kernel
theorem dTk_init_31 : decode cTk_init 31 = .ok (.aload_n 0, 1) := by decide +kernel
theorem dTk_init_32 : decode cTk_init 32 = .ok (.aload_n 1, 1) := by decide +kernel
theorem dTk_init_33 : decode cTk_init 33 = .ok (.putfield 19, 3) := by decide +kernel
theorem dTk_init_36 : decode cTk_init 36 = .ok (.return_, 1) := by decide +kernel
theorem dEx_init_0 : decode cEx_init 0 = .ok (.aload_n 0, 1) := by decide +kernel
theorem dEx_init_1 : decode cEx_init 1 = .ok (.invokespecial 3, 3) := by decide +kernel
theorem dEx_init_4 : decode cEx_init 4 = .ok (.aload_n 0, 1) := by decide +kernel
theorem dEx_init_5 : decode cEx_init 5 = .ok (.sipush 520, 3) := by decide +kernel
theorem dEx_init_8 : decode cEx_init 8 = .ok (.newarray .int, 2) := by decide +kernel
theorem dEx_init_10 : decode cEx_init 10 = .ok (.putfield 11, 3) := by decide +kernel
theorem dEx_init_13 : decode cEx_init 13 = .ok (.aload_n 0, 1) := by decide +kernel
theorem dEx_init_14 : decode cEx_init 14 = .ok (.sipush 520, 3) := by decide +kernel
theorem dEx_init_17 : decode cEx_init 17 = .ok (.newarray .int, 2) := by decide +kernel
theorem dEx_init_19 : decode cEx_init 19 = .ok (.putfield 15, 3) := by decide +kernel
theorem dEx_init_22 : decode cEx_init 22 = .ok (.aload_n 0, 1) := by decide +kernel
theorem dEx_init_23 : decode cEx_init 23 = .ok (.aload_n 1, 1) := by decide +kernel
theorem dEx_init_24 : decode cEx_init 24 = .ok (.putfield 18, 3) := by decide +kernel
theorem dEx_init_27 : decode cEx_init 27 = .ok (.aload_n 0, 1) := by decide +kernel
theorem dEx_init_28 : decode cEx_init 28 = .ok (.aload_n 2, 1) := by decide +kernel
theorem dEx_init_29 : decode cEx_init 29 = .ok (.putfield 22, 3) := by decide +kernel
theorem dEx_init_32 : decode cEx_init 32 = .ok (.aload_n 0, 1) := by decide +kernel
theorem dEx_init_33 : decode cEx_init 33 = .ok (.aload_n 3, 1) := by decide +kernel
theorem dEx_init_34 : decode cEx_init 34 = .ok (.putfield 26, 3) := by decide +kernel
theorem dEx_init_37 : decode cEx_init 37 = .ok (.return_, 1) := by decide +kernel
theorem dGa_init_0 : decode cGa_init 0 = .ok (.aload_n 0, 1) := by decide +kernel
theorem dGa_init_1 : decode cGa_init 1 = .ok (.invokespecial 1, 3) := by decide +kernel
theorem dGa_init_4 : decode cGa_init 4 = .ok (.aload_n 0, 1) := by decide +kernel
theorem dGa_init_5 : decode cGa_init 5 = .ok (.ldc 9, 2) := by decide +kernel
theorem dGa_init_7 : decode cGa_init 7 = .ok (.newarray .byte, 2) := by decide +kernel
theorem dGa_init_9 : decode cGa_init 9 = .ok (.putfield 10, 3) := by decide +kernel
theorem dGa_init_12 : decode cGa_init 12 = .ok (.aload_n 0, 1) := by decide +kernel
theorem dGa_init_13 : decode cGa_init 13 = .ok (.ldc 9, 2) := by decide +kernel
theorem dGa_init_15 : decode cGa_init 15 = .ok (.newarray .int, 2) := by decide +kernel
theorem dGa_init_17 : decode cGa_init 17 = .ok (.putfield 14, 3) := by decide +kernel
theorem dGa_init_20 : decode cGa_init 20 = .ok (.aload_n 0, 1) := by decide +kernel
theorem dGa_init_21 : decode cGa_init 21 = .ok (.ldc 9, 2) := by decide +kernel
theorem dGa_init_23 : decode cGa_init 23 = .ok (.newarray .int, 2) := by decide +kernel
theorem dGa_init_25 : decode cGa_init 25 = .ok (.putfield 18, 3) := by decide +kernel
theorem dGa_init_28 : decode cGa_init 28 = .ok (.aload_n 0, 1) := by decide +kernel
theorem dGa_init_29 : decode cGa_init 29 = .ok (.ldc 9, 2) := by decide +kernel
theorem dGa_init_31 : decode cGa_init 31 = .ok (.newarray .int, 2) := by decide +kernel
theorem dGa_init_33 : decode cGa_init 33 = .ok (.putfield 21, 3) := by decide +kernel
theorem dGa_init_36 : decode cGa_init 36 = .ok (.aload_n 0, 1) := by decide +kernel
theorem dGa_init_37 : decode cGa_init 37 = .ok (.ldc 9, 2) := by decide +kernel
theorem dGa_init_39 : decode cGa_init 39 = .ok (.newarray .byte, 2) := by decide +kernel
theorem dGa_init_41 : decode cGa_init 41 = .ok (.putfield 24, 3) := by decide +kernel
theorem dGa_init_44 : decode cGa_init 44 = .ok (.aload_n 0, 1) := by decide +kernel
theorem dGa_init_45 : decode cGa_init 45 = .ok (.ldc 9, 2) := by decide +kernel
theorem dGa_init_47 : decode cGa_init 47 = .ok (.newarray .byte, 2) := by decide +kernel
theorem dGa_init_49 : decode cGa_init 49 = .ok (.putfield 27, 3) := by decide +kernel
theorem dGa_init_52 : decode cGa_init 52 = .ok (.aload_n 0, 1) := by decide +kernel
theorem dGa_init_53 : decode cGa_init 53 = .ok (.ldc 30, 2) := by decide +kernel
theorem dGa_init_55 : decode cGa_init 55 = .ok (.newarray .int, 2) := by decide +kernel
theorem dGa_init_57 : decode cGa_init 57 = .ok (.putfield 31, 3) := by decide +kernel
theorem dGa_init_60 : decode cGa_init 60 = .ok (.aload_n 0, 1) := by decide +kernel
theorem dGa_init_61 : decode cGa_init 61 = .ok (.ldc 9, 2) := by decide +kernel
theorem dGa_init_63 : decode cGa_init 63 = .ok (.newarray .int, 2) := by decide +kernel
theorem dGa_init_65 : decode cGa_init 65 = .ok (.putfield 34, 3) := by decide +kernel
theorem dGa_init_68 : decode cGa_init 68 = .ok (.aload_n 0, 1) := by decide +kernel
theorem dGa_init_69 : decode cGa_init 69 = .ok (.iconst 1, 1) := by decide +kernel
theorem dGa_init_70 : decode cGa_init 70 = .ok (.putfield 37, 3) := by decide +kernel
theorem dGa_init_73 : decode cGa_init 73 = .ok (.return_, 1) := by decide +kernel
theorem dUn_init_0 : decode cUn_init 0 = .ok (.aload_n 0, 1) := by decide +kernel
theorem dUn_init_1 : decode cUn_init 1 = .ok (.invokespecial 1, 3) := by decide +kernel
theorem dUn_init_4 : decode cUn_init 4 = .ok (.aload_n 0, 1) := by decide +kernel
theorem dUn_init_5 : decode cUn_init 5 = .ok (.sipush 201, 3) := by decide +kernel
theorem dUn_init_8 : decode cUn_init 8 = .ok (.newarray .int, 2) := by decide +kernel
theorem dUn_init_10 : decode cUn_init 10 = .ok (.putfield 9, 3) := by decide +kernel
theorem dUn_init_13 : decode cUn_init 13 = .ok (.aload_n 0, 1) := by decide +kernel
theorem dUn_init_14 : decode cUn_init 14 = .ok (.sipush 201, 3) := by decide +kernel
theorem dUn_init_17 : decode cUn_init 17 = .ok (.newarray .int, 2) := by decide +kernel
theorem dUn_init_19 : decode cUn_init 19 = .ok (.putfield 13, 3) := by decide +kernel
theorem dUn_init_22 : decode cUn_init 22 = .ok (.aload_n 0, 1) := by decide +kernel
theorem dUn_init_23 : decode cUn_init 23 = .ok (.sipush 201, 3) := by decide +kernel
theorem dUn_init_26 : decode cUn_init 26 = .ok (.newarray .int, 2) := by decide +kernel
theorem dUn_init_28 : decode cUn_init 28 = .ok (.putfield 16, 3) := by decide +kernel
theorem dUn_init_31 : decode cUn_init 31 = .ok (.aload_n 0, 1) := by decide +kernel
theorem dUn_init_32 : decode cUn_init 32 = .ok (.sipush 25600, 3) := by decide +kernel
theorem dUn_init_35 : decode cUn_init 35 = .ok (.newarray .int, 2) := by decide +kernel
theorem dUn_init_37 : decode cUn_init 37 = .ok (.putfield 25, 3) := by decide +kernel
theorem dUn_init_40 : decode cUn_init 40 = .ok (.aload_n 0, 1) := by decide +kernel
theorem dUn_init_41 : decode cUn_init 41 = .ok (.bipush 30, 2) := by decide +kernel
theorem dUn_init_43 : decode cUn_init 43 = .ok (.newarray .int, 2) := by decide +kernel
theorem dUn_init_45 : decode cUn_init 45 = .ok (.putfield 28, 3) := by decide +kernel
theorem dUn_init_48 : decode cUn_init 48 = .ok (.aload_n 0, 1) := by decide +kernel
theorem dUn_init_49 : decode cUn_init 49 = .ok (.bipush 30, 2) := by decide +kernel
theorem dUn_init_51 : decode cUn_init 51 = .ok (.newarray .int, 2) := by decide +kernel
theorem dUn_init_53 : decode cUn_init 53 = .ok (.putfield 31, 3) := by decide +kernel
theorem dUn_init_56 : decode cUn_init 56 = .ok (.aload_n 0, 1) := by decide +kernel
theorem dUn_init_57 : decode cUn_init 57 = .ok (.bipush 12, 2) := by decide +kernel
theorem dUn_init_59 : decode cUn_init 59 = .ok (.newarray .int, 2) := by decide +kernel
theorem dUn_init_61 : decode cUn_init 61 = .ok (.putfield 34, 3) := by decide +kernel
theorem dUn_init_64 : decode cUn_init 64 = .ok (.aload_n 0, 1) := by decide +kernel
theorem dUn_init_65 : decode cUn_init 65 = .ok (.bipush 12, 2) := by decide +kernel
theorem dUn_init_67 : decode cUn_init 67 = .ok (.newarray .int, 2) := by decide +kernel
theorem dUn_init_69 : decode cUn_init 69 = .ok (.putfield 37, 3) := by decide +kernel
theorem dUn_init_72 : decode cUn_init 72 = .ok (.aload_n 0, 1) := by decide +kernel
theorem dUn_init_73 : decode cUn_init 73 = .ok (.aload_n 1, 1) := by decide +kernel
theorem dUn_init_74 : decode cUn_init 74 = .ok (.putfield 40, 3) := by decide +kernel
theorem dUn_init_77 : decode cUn_init 77 = .ok (.aload_n 0, 1) := by decide +kernel
theorem dUn_init_78 : decode cUn_init 78 = .ok (.aload_n 2, 1) := by decide +kernel
theorem dUn_init_79 : decode cUn_init 79 = .ok (.putfield 44, 3) := by decide +kernel
theorem dUn_init_82 : decode cUn_init 82 = .ok (.aload_n 0, 1) := by decide +kernel
theorem dUn_init_83 : decode cUn_init 83 = .ok (.new 23, 3) := by decide +kernel
theorem dUn_init_86 : decode cUn_init 86 = .ok (.dup, 1) := by decide +kernel
theorem dUn_init_87 : decode cUn_init 87 = .ok (.aload_n 2, 1) := by decide +kernel
theorem dUn_init_88 : decode cUn_init 88 = .ok (.invokespecial 48, 3) := by decide +kernel
theorem dUn_init_91 : decode cUn_init 91 = .ok (.putfield 51, 3) := by decide +kernel
theorem dUn_init_94 : decode cUn_init 94 = .ok (.return_, 1) := by decide +kernel
theorem dWo_init_0 : decode cWo_init 0 = .ok (.aload_n 0, 1) := by decide +kernel
theorem dWo_init_1 : decode cWo_init 1 = .ok (.invokespecial 1, 3) := by decide +kernel
theorem dWo_init_4 : decode cWo_init 4 = .ok (.aload_n 0, 1) := by decide +kernel
theorem dWo_init_5 : decode cWo_init 5 = .ok (.sipush 13600, 3) := by decide +kernel
theorem dWo_init_8 : decode cWo_init 8 = .ok (.newarray .int, 2) := by decide +kernel
theorem dWo_init_10 : decode cWo_init 10 = .ok (.putfield 9, 3) := by decide +kernel
theorem dWo_init_13 : decode cWo_init 13 = .ok (.aload_n 0, 1) := by decide +kernel
theorem dWo_init_14 : decode cWo_init 14 = .ok (.bipush 8, 2) := by decide +kernel
theorem dWo_init_16 : decode cWo_init 16 = .ok (.newarray .int, 2) := by decide +kernel
theorem dWo_init_18 : decode cWo_init 18 = .ok (.putfield 13, 3) := by decide +kernel
theorem dWo_init_21 : decode cWo_init 21 = .ok (.aload_n 0, 1) := by decide +kernel
theorem dWo_init_22 : decode cWo_init 22 = .ok (.bipush 8, 2) := by decide +kernel
theorem dWo_init_24 : decode cWo_init 24 = .ok (.newarray .int, 2) := by decide +kernel
theorem dWo_init_26 : decode cWo_init 26 = .ok (.putfield 16, 3) := by decide +kernel
theorem dWo_init_29 : decode cWo_init 29 = .ok (.aload_n 0, 1) := by decide +kernel
theorem dWo_init_30 : decode cWo_init 30 = .ok (.sipush 128, 3) := by decide +kernel
theorem dWo_init_33 : decode cWo_init 33 = .ok (.newarray .int, 2) := by decide +kernel
theorem dWo_init_35 : decode cWo_init 35 = .ok (.putfield 21, 3) := by decide +kernel
theorem dWo_init_38 : decode cWo_init 38 = .ok (.aload_n 0, 1) := by decide +kernel
theorem dWo_init_39 : decode cWo_init 39 = .ok (.aload_n 1, 1) := by decide +kernel
theorem dWo_init_40 : decode cWo_init 40 = .ok (.putfield 24, 3) := by decide +kernel
theorem dWo_init_43 : decode cWo_init 43 = .ok (.return_, 1) := by decide +kernel
theorem dCl_init_0 : decode cCl_init 0 = .ok (.aload_n 0, 1) := by decide +kernel
theorem dCl_init_1 : decode cCl_init 1 = .ok (.invokespecial 5, 3) := by decide +kernel
theorem dCl_init_4 : decode cCl_init 4 = .ok (.aload_n 0, 1) := by decide +kernel
theorem dCl_init_5 : decode cCl_init 5 = .ok (.ldc 11, 2) := by decide +kernel
theorem dCl_init_7 : decode cCl_init 7 = .ok (.newarray .int, 2) := by decide +kernel
theorem dCl_init_9 : decode cCl_init 9 = .ok (.putfield 12, 3) := by decide +kernel
theorem dCl_init_12 : decode cCl_init 12 = .ok (.aload_n 0, 1) := by decide +kernel
theorem dCl_init_13 : decode cCl_init 13 = .ok (.ldc 16, 2) := by decide +kernel
theorem dCl_init_15 : decode cCl_init 15 = .ok (.newarray .int, 2) := by decide +kernel
theorem dCl_init_17 : decode cCl_init 17 = .ok (.putfield 17, 3) := by decide +kernel
theorem dCl_init_20 : decode cCl_init 20 = .ok (.return_, 1) := by decide +kernel
theorem dCk_init_0 : decode cCk_init 0 = .ok (.aload_n 0, 1) := by decide +kernel
theorem dCk_init_1 : decode cCk_init 1 = .ok (.invokespecial 1, 3) := by decide +kernel
theorem dCk_init_4 : decode cCk_init 4 = .ok (.aload_n 0, 1) := by decide +kernel
theorem dCk_init_5 : decode cCk_init 5 = .ok (.ldc 9, 2) := by decide +kernel
theorem dCk_init_7 : decode cCk_init 7 = .ok (.newarray .byte, 2) := by decide +kernel
theorem dCk_init_9 : decode cCk_init 9 = .ok (.putfield 10, 3) := by decide +kernel
theorem dCk_init_12 : decode cCk_init 12 = .ok (.aload_n 0, 1) := by decide +kernel
theorem dCk_init_13 : decode cCk_init 13 = .ok (.ldc 16, 2) := by decide +kernel
theorem dCk_init_15 : decode cCk_init 15 = .ok (.newarray .int, 2) := by decide +kernel
theorem dCk_init_17 : decode cCk_init 17 = .ok (.putfield 17, 3) := by decide +kernel
theorem dCk_init_20 : decode cCk_init 20 = .ok (.aload_n 0, 1) := by decide +kernel
theorem dCk_init_21 : decode cCk_init 21 = .ok (.aload_n 1, 1) := by decide +kernel
theorem dCk_init_22 : decode cCk_init 22 = .ok (.putfield 21, 3) := by decide +kernel
theorem dCk_init_25 : decode cCk_init 25 = .ok (.return_, 1) := by decide +kernel
theorem dSe_init_0 : decode cSe_init 0 = .ok (.aload_n 0, 1) := by decide +kernel
theorem dSe_init_1 : decode cSe_init 1 = .ok (.invokespecial 1, 3) := by decide +kernel
theorem dSe_init_4 : decode cSe_init 4 = .ok (.aload_n 0, 1) := by decide +kernel
theorem dSe_init_5 : decode cSe_init 5 = .ok (.ldc 9, 2) := by decide +kernel
theorem dSe_init_7 : decode cSe_init 7 = .ok (.newarray .int, 2) := by decide +kernel
theorem dSe_init_9 : decode cSe_init 9 = .ok (.putfield 10, 3) := by decide +kernel
theorem dSe_init_12 : decode cSe_init 12 = .ok (.aload_n 0, 1) := by decide +kernel
theorem dSe_init_13 : decode cSe_init 13 = .ok (.ldc 9, 2) := by decide +kernel
theorem dSe_init_15 : decode cSe_init 15 = .ok (.newarray .int, 2) := by decide +kernel
theorem dSe_init_17 : decode cSe_init 17 = .ok (.putfield 16, 3) := by decide +kernel
theorem dSe_init_20 : decode cSe_init 20 = .ok (.aload_n 0, 1) := by decide +kernel
theorem dSe_init_21 : decode cSe_init 21 = .ok (.ldc 21, 2) := by decide +kernel
theorem dSe_init_23 : decode cSe_init 23 = .ok (.newarray .int, 2) := by decide +kernel
theorem dSe_init_25 : decode cSe_init 25 = .ok (.putfield 22, 3) := by decide +kernel
theorem dSe_init_28 : decode cSe_init 28 = .ok (.aload_n 0, 1) := by decide +kernel
theorem dSe_init_29 : decode cSe_init 29 = .ok (.ldc 21, 2) := by decide +kernel
theorem dSe_init_31 : decode cSe_init 31 = .ok (.newarray .byte, 2) := by decide +kernel
theorem dSe_init_33 : decode cSe_init 33 = .ok (.putfield 25, 3) := by decide +kernel
theorem dSe_init_36 : decode cSe_init 36 = .ok (.aload_n 0, 1) := by decide +kernel
theorem dSe_init_37 : decode cSe_init 37 = .ok (.ldc 29, 2) := by decide +kernel
theorem dSe_init_39 : decode cSe_init 39 = .ok (.newarray .byte, 2) := by decide +kernel
theorem dSe_init_41 : decode cSe_init 41 = .ok (.putfield 30, 3) := by decide +kernel
theorem dSe_init_44 : decode cSe_init 44 = .ok (.aload_n 0, 1) := by decide +kernel
theorem dSe_init_45 : decode cSe_init 45 = .ok (.ldc 29, 2) := by decide +kernel
theorem dSe_init_47 : decode cSe_init 47 = .ok (.newarray .int, 2) := by decide +kernel
theorem dSe_init_49 : decode cSe_init 49 = .ok (.putfield 33, 3) := by decide +kernel
theorem dSe_init_52 : decode cSe_init 52 = .ok (.aload_n 0, 1) := by decide +kernel
theorem dSe_init_53 : decode cSe_init 53 = .ok (.ldc 29, 2) := by decide +kernel
theorem dSe_init_55 : decode cSe_init 55 = .ok (.newarray .int, 2) := by decide +kernel
theorem dSe_init_57 : decode cSe_init 57 = .ok (.putfield 36, 3) := by decide +kernel
theorem dSe_init_60 : decode cSe_init 60 = .ok (.aload_n 0, 1) := by decide +kernel
theorem dSe_init_61 : decode cSe_init 61 = .ok (.bipush 14, 2) := by decide +kernel
theorem dSe_init_63 : decode cSe_init 63 = .ok (.newarray .int, 2) := by decide +kernel
theorem dSe_init_65 : decode cSe_init 65 = .ok (.putfield 41, 3) := by decide +kernel
theorem dSe_init_68 : decode cSe_init 68 = .ok (.aload_n 0, 1) := by decide +kernel
theorem dSe_init_69 : decode cSe_init 69 = .ok (.ldc 29, 2) := by decide +kernel
theorem dSe_init_71 : decode cSe_init 71 = .ok (.newarray .byte, 2) := by decide +kernel
theorem dSe_init_73 : decode cSe_init 73 = .ok (.putfield 44, 3) := by decide +kernel
theorem dSe_init_76 : decode cSe_init 76 = .ok (.aload_n 0, 1) := by decide +kernel
theorem dSe_init_77 : decode cSe_init 77 = .ok (.ldc 29, 2) := by decide +kernel
theorem dSe_init_79 : decode cSe_init 79 = .ok (.newarray .int, 2) := by decide +kernel
theorem dSe_init_81 : decode cSe_init 81 = .ok (.putfield 47, 3) := by decide +kernel
theorem dSe_init_84 : decode cSe_init 84 = .ok (.aload_n 0, 1) := by decide +kernel
theorem dSe_init_85 : decode cSe_init 85 = .ok (.ldc 50, 2) := by decide +kernel
theorem dSe_init_87 : decode cSe_init 87 = .ok (.newarray .int, 2) := by decide +kernel
theorem dSe_init_89 : decode cSe_init 89 = .ok (.putfield 51, 3) := by decide +kernel
theorem dSe_init_92 : decode cSe_init 92 = .ok (.aload_n 0, 1) := by decide +kernel
theorem dSe_init_93 : decode cSe_init 93 = .ok (.aload_n 1, 1) := by decide +kernel
theorem dSe_init_94 : decode cSe_init 94 = .ok (.putfield 54, 3) := by decide +kernel
theorem dSe_init_97 : decode cSe_init 97 = .ok (.aload_n 0, 1) := by decide +kernel
theorem dSe_init_98 : decode cSe_init 98 = .ok (.aload_n 2, 1) := by decide +kernel
theorem dSe_init_99 : decode cSe_init 99 = .ok (.putfield 58, 3) := by decide +kernel
theorem dSe_init_102 : decode cSe_init 102 = .ok (.return_, 1) := by decide +kernel
theorem dMo_init_0 : decode cMo_init 0 = .ok (.aload_n 0, 1) := by decide +kernel
theorem dMo_init_1 : decode cMo_init 1 = .ok (.invokespecial 1, 3) := by decide +kernel
theorem dMo_init_4 : decode cMo_init 4 = .ok (.aload_n 0, 1) := by decide +kernel
theorem dMo_init_5 : decode cMo_init 5 = .ok (.ldc 7, 2) := by decide +kernel
theorem dMo_init_7 : decode cMo_init 7 = .ok (.newarray .byte, 2) := by decide +kernel
theorem dMo_init_9 : decode cMo_init 9 = .ok (.putfield 8, 3) := by decide +kernel
theorem dMo_init_12 : decode cMo_init 12 = .ok (.aload_n 0, 1) := by decide +kernel
theorem dMo_init_13 : decode cMo_init 13 = .ok (.iconst 0, 1) := by decide +kernel
theorem dMo_init_14 : decode cMo_init 14 = .ok (.putfield 14, 3) := by decide +kernel
theorem dMo_init_17 : decode cMo_init 17 = .ok (.aload_n 0, 1) := by decide +kernel
theorem dMo_init_18 : decode cMo_init 18 = .ok (.iconst 0, 1) := by decide +kernel
theorem dMo_init_19 : decode cMo_init 19 = .ok (.putfield 18, 3) := by decide +kernel
theorem dMo_init_22 : decode cMo_init 22 = .ok (.aload_n 0, 1) := by decide +kernel
theorem dMo_init_23 : decode cMo_init 23 = .ok (.iconst 0, 1) := by decide +kernel
theorem dMo_init_24 : decode cMo_init 24 = .ok (.putfield 21, 3) := by decide +kernel
theorem dMo_init_27 : decode cMo_init 27 = .ok (.aload_n 0, 1) := by decide +kernel
theorem dMo_init_28 : decode cMo_init 28 = .ok (.iconst 0, 1) := by decide +kernel
theorem dMo_init_29 : decode cMo_init 29 = .ok (.putfield 24, 3) := by decide +kernel
theorem dMo_init_32 : decode cMo_init 32 = .ok (.aload_n 0, 1) := by decide +kernel
theorem dMo_init_33 : decode cMo_init 33 = .ok (.iconst 0, 1) := by decide +kernel
theorem dMo_init_34 : decode cMo_init 34 = .ok (.putfield 27, 3) := by decide +kernel
theorem dMo_init_37 : decode cMo_init 37 = .ok (.aload_n 0, 1) := by decide +kernel
theorem dMo_init_38 : decode cMo_init 38 = .ok (.iconst 0, 1) := by decide +kernel
theorem dMo_init_39 : decode cMo_init 39 = .ok (.putfield 31, 3) := by decide +kernel
theorem dMo_init_42 : decode cMo_init 42 = .ok (.aload_n 0, 1) := by decide +kernel
theorem dMo_init_43 : decode cMo_init 43 = .ok (.iconst 0, 1) := by decide +kernel
theorem dMo_init_44 : decode cMo_init 44 = .ok (.putfield 34, 3) := by decide +kernel
theorem dMo_init_47 : decode cMo_init 47 = .ok (.aload_n 0, 1) := by decide +kernel
theorem dMo_init_48 : decode cMo_init 48 = .ok (.iconst 0, 1) := by decide +kernel
theorem dMo_init_49 : decode cMo_init 49 = .ok (.putfield 37, 3) := by decide +kernel
theorem dMo_init_52 : decode cMo_init 52 = .ok (.aload_n 0, 1) := by decide +kernel
theorem dMo_init_53 : decode cMo_init 53 = .ok (.iconst 0, 1) := by decide +kernel
theorem dMo_init_54 : decode cMo_init 54 = .ok (.putfield 40, 3) := by decide +kernel
theorem dMo_init_57 : decode cMo_init 57 = .ok (.aload_n 0, 1) := by decide +kernel
theorem dMo_init_58 : decode cMo_init 58 = .ok (.iconst 0, 1) := by decide +kernel
theorem dMo_init_59 : decode cMo_init 59 = .ok (.putfield 43, 3) := by decide +kernel
theorem dMo_init_62 : decode cMo_init 62 = .ok (.aload_n 0, 1) := by decide +kernel
theorem dMo_init_63 : decode cMo_init 63 = .ok (.iconst 0, 1) := by decide +kernel
theorem dMo_init_64 : decode cMo_init 64 = .ok (.putfield 46, 3) := by decide +kernel
theorem dMo_init_67 : decode cMo_init 67 = .ok (.aload_n 0, 1) := by decide +kernel
theorem dMo_init_68 : decode cMo_init 68 = .ok (.sipush 220, 3) := by decide +kernel
theorem dMo_init_71 : decode cMo_init 71 = .ok (.newarray .int, 2) := by decide +kernel
theorem dMo_init_73 : decode cMo_init 73 = .ok (.putfield 49, 3) := by decide +kernel
theorem dMo_init_76 : decode cMo_init 76 = .ok (.aload_n 0, 1) := by decide +kernel
theorem dMo_init_77 : decode cMo_init 77 = .ok (.sipush 220, 3) := by decide +kernel
theorem dMo_init_80 : decode cMo_init 80 = .ok (.newarray .int, 2) := by decide +kernel
theorem dMo_init_82 : decode cMo_init 82 = .ok (.putfield 53, 3) := by decide +kernel
theorem dMo_init_85 : decode cMo_init 85 = .ok (.aload_n 0, 1) := by decide +kernel
theorem dMo_init_86 : decode cMo_init 86 = .ok (.sipush 220, 3) := by decide +kernel
theorem dMo_init_89 : decode cMo_init 89 = .ok (.newarray .int, 2) := by decide +kernel
theorem dMo_init_91 : decode cMo_init 91 = .ok (.putfield 56, 3) := by decide +kernel
theorem dMo_init_94 : decode cMo_init 94 = .ok (.aload_n 0, 1) := by decide +kernel
theorem dMo_init_95 : decode cMo_init 95 = .ok (.sipush 220, 3) := by decide +kernel
theorem dMo_init_98 : decode cMo_init 98 = .ok (.newarray .int, 2) := by decide +kernel
theorem dMo_init_100 : decode cMo_init 100 = .ok (.putfield 59, 3) := by decide +kernel
theorem dMo_init_103 : decode cMo_init 103 = .ok (.aload_n 0, 1) := by decide +kernel
theorem dMo_init_104 : decode cMo_init 104 = .ok (.iconst 0, 1) := by decide +kernel
theorem dMo_init_105 : decode cMo_init 105 = .ok (.putfield 62, 3) := by decide +kernel
theorem dMo_init_108 : decode cMo_init 108 = .ok (.aload_n 0, 1) := by decide +kernel
theorem dMo_init_109 : decode cMo_init 109 = .ok (.iconst 0, 1) := by decide +kernel
theorem dMo_init_110 : decode cMo_init 110 = .ok (.putfield 65, 3) := by decide +kernel
theorem dMo_init_113 : decode cMo_init 113 = .ok (.aload_n 0, 1) := by decide +kernel
theorem dMo_init_114 : decode cMo_init 114 = .ok (.iconst 0, 1) := by decide +kernel
theorem dMo_init_115 : decode cMo_init 115 = .ok (.putfield 68, 3) := by decide +kernel
theorem dMo_init_118 : decode cMo_init 118 = .ok (.aload_n 0, 1) := by decide +kernel
theorem dMo_init_119 : decode cMo_init 119 = .ok (.sipush 220, 3) := by decide +kernel
theorem dMo_init_122 : decode cMo_init 122 = .ok (.newarray .int, 2) := by decide +kernel
theorem dMo_init_124 : decode cMo_init 124 = .ok (.putfield 71, 3) := by decide +kernel
theorem dMo_init_127 : decode cMo_init 127 = .ok (.aload_n 0, 1) := by decide +kernel
theorem dMo_init_128 : decode cMo_init 128 = .ok (.sipush 220, 3) := by decide +kernel
theorem dMo_init_131 : decode cMo_init 131 = .ok (.newarray .int, 2) := by decide +kernel
theorem dMo_init_133 : decode cMo_init 133 = .ok (.putfield 74, 3) := by decide +kernel
theorem dMo_init_136 : decode cMo_init 136 = .ok (.aload_n 0, 1) := by decide +kernel
theorem dMo_init_137 : decode cMo_init 137 = .ok (.iconst 0, 1) := by decide +kernel
theorem dMo_init_138 : decode cMo_init 138 = .ok (.putfield 77, 3) := by decide +kernel
theorem dMo_init_141 : decode cMo_init 141 = .ok (.aload_n 0, 1) := by decide +kernel
theorem dMo_init_142 : decode cMo_init 142 = .ok (.iconst 0, 1) := by decide +kernel
theorem dMo_init_143 : decode cMo_init 143 = .ok (.putfield 80, 3) := by decide +kernel
theorem dMo_init_146 : decode cMo_init 146 = .ok (.aload_n 0, 1) := by decide +kernel
theorem dMo_init_147 : decode cMo_init 147 = .ok (.sipush 220, 3) := by decide +kernel
theorem dMo_init_150 : decode cMo_init 150 = .ok (.newarray .int, 2) := by decide +kernel
theorem dMo_init_152 : decode cMo_init 152 = .ok (.putfield 83, 3) := by decide +kernel
theorem dMo_init_155 : decode cMo_init 155 = .ok (.aload_n 0, 1) := by decide +kernel
theorem dMo_init_156 : decode cMo_init 156 = .ok (.sipush 220, 3) := by decide +kernel
theorem dMo_init_159 : decode cMo_init 159 = .ok (.newarray .int, 2) := by decide +kernel
theorem dMo_init_161 : decode cMo_init 161 = .ok (.putfield 86, 3) := by decide +kernel
theorem dMo_init_164 : decode cMo_init 164 = .ok (.aload_n 0, 1) := by decide +kernel
theorem dMo_init_165 : decode cMo_init 165 = .ok (.iconst 0, 1) := by decide +kernel
theorem dMo_init_166 : decode cMo_init 166 = .ok (.putfield 89, 3) := by decide +kernel
theorem dMo_init_169 : decode cMo_init 169 = .ok (.aload_n 0, 1) := by decide +kernel
theorem dMo_init_170 : decode cMo_init 170 = .ok (.sipush 17000, 3) := by decide +kernel
theorem dMo_init_173 : decode cMo_init 173 = .ok (.newarray .int, 2) := by decide +kernel
theorem dMo_init_175 : decode cMo_init 175 = .ok (.putfield 92, 3) := by decide +kernel
theorem dMo_init_178 : decode cMo_init 178 = .ok (.aload_n 0, 1) := by decide +kernel
theorem dMo_init_179 : decode cMo_init 179 = .ok (.sipush 17000, 3) := by decide +kernel
theorem dMo_init_182 : decode cMo_init 182 = .ok (.newarray .int, 2) := by decide +kernel
theorem dMo_init_184 : decode cMo_init 184 = .ok (.putfield 95, 3) := by decide +kernel
theorem dMo_init_187 : decode cMo_init 187 = .ok (.aload_n 0, 1) := by decide +kernel
theorem dMo_init_188 : decode cMo_init 188 = .ok (.sipush 17000, 3) := by decide +kernel
theorem dMo_init_191 : decode cMo_init 191 = .ok (.newarray .int, 2) := by decide +kernel
theorem dMo_init_193 : decode cMo_init 193 = .ok (.putfield 98, 3) := by decide +kernel
theorem dMo_init_196 : decode cMo_init 196 = .ok (.aload_n 0, 1) := by decide +kernel
theorem dMo_init_197 : decode cMo_init 197 = .ok (.sipush 17000, 3) := by decide +kernel
theorem dMo_init_200 : decode cMo_init 200 = .ok (.newarray .int, 2) := by decide +kernel
theorem dMo_init_202 : decode cMo_init 202 = .ok (.putfield 101, 3) := by decide +kernel
theorem dMo_init_205 : decode cMo_init 205 = .ok (.aload_n 0, 1) := by decide +kernel
theorem dMo_init_206 : decode cMo_init 206 = .ok (.sipush 17000, 3) := by decide +kernel
theorem dMo_init_209 : decode cMo_init 209 = .ok (.newarray .int, 2) := by decide +kernel
theorem dMo_init_211 : decode cMo_init 211 = .ok (.putfield 104, 3) := by decide +kernel
theorem dMo_init_214 : decode cMo_init 214 = .ok (.aload_n 0, 1) := by decide +kernel
theorem dMo_init_215 : decode cMo_init 215 = .ok (.sipush 17000, 3) := by decide +kernel
theorem dMo_init_218 : decode cMo_init 218 = .ok (.newarray .int, 2) := by decide +kernel
theorem dMo_init_220 : decode cMo_init 220 = .ok (.putfield 107, 3) := by decide +kernel
theorem dMo_init_223 : decode cMo_init 223 = .ok (.aload_n 0, 1) := by decide +kernel
theorem dMo_init_224 : decode cMo_init 224 = .ok (.sipush 17000, 3) := by decide +kernel
theorem dMo_init_227 : decode cMo_init 227 = .ok (.newarray .int, 2) := by decide +kernel
theorem dMo_init_229 : decode cMo_init 229 = .ok (.putfield 110, 3) := by decide +kernel
theorem dMo_init_232 : decode cMo_init 232 = .ok (.aload_n 0, 1) := by decide +kernel
theorem dMo_init_233 : decode cMo_init 233 = .ok (.iconst 0, 1) := by decide +kernel
theorem dMo_init_234 : decode cMo_init 234 = .ok (.putfield 113, 3) := by decide +kernel
theorem dMo_init_237 : decode cMo_init 237 = .ok (.aload_n 0, 1) := by decide +kernel
theorem dMo_init_238 : decode cMo_init 238 = .ok (.iconst 0, 1) := by decide +kernel
theorem dMo_init_239 : decode cMo_init 239 = .ok (.putfield 116, 3) := by decide +kernel
theorem dMo_init_242 : decode cMo_init 242 = .ok (.aload_n 0, 1) := by decide +kernel
theorem dMo_init_243 : decode cMo_init 243 = .ok (.iconst 0, 1) := by decide +kernel
theorem dMo_init_244 : decode cMo_init 244 = .ok (.putfield 119, 3) := by decide +kernel
theorem dMo_init_247 : decode cMo_init 247 = .ok (.aload_n 0, 1) := by decide +kernel
theorem dMo_init_248 : decode cMo_init 248 = .ok (.iconst 0, 1) := by decide +kernel
theorem dMo_init_249 : decode cMo_init 249 = .ok (.putfield 122, 3) := by decide +kernel
theorem dMo_init_252 : decode cMo_init 252 = .ok (.aload_n 0, 1) := by decide +kernel
theorem dMo_init_253 : decode cMo_init 253 = .ok (.iconst (-1), 1) := by decide +kernel
theorem dMo_init_254 : decode cMo_init 254 = .ok (.putfield 125, 3) := by decide +kernel
theorem dMo_init_257 : decode cMo_init 257 = .ok (.aload_n 0, 1) := by decide +kernel
theorem dMo_init_258 : decode cMo_init 258 = .ok (.iconst 0, 1) := by decide +kernel
theorem dMo_init_259 : decode cMo_init 259 = .ok (.putfield 128, 3) := by decide +kernel
theorem dMo_init_262 : decode cMo_init 262 = .ok (.aload_n 0, 1) := by decide +kernel
theorem dMo_init_263 : decode cMo_init 263 = .ok (.iconst 0, 1) := by decide +kernel
theorem dMo_init_264 : decode cMo_init 264 = .ok (.putfield 131, 3) := by decide +kernel
theorem dMo_init_267 : decode cMo_init 267 = .ok (.aload_n 0, 1) := by decide +kernel
theorem dMo_init_268 : decode cMo_init 268 = .ok (.bipush 30, 2) := by decide +kernel
theorem dMo_init_270 : decode cMo_init 270 = .ok (.newarray .int, 2) := by decide +kernel
theorem dMo_init_272 : decode cMo_init 272 = .ok (.putfield 134, 3) := by decide +kernel
theorem dMo_init_275 : decode cMo_init 275 = .ok (.aload_n 0, 1) := by decide +kernel
theorem dMo_init_276 : decode cMo_init 276 = .ok (.bipush 30, 2) := by decide +kernel
theorem dMo_init_278 : decode cMo_init 278 = .ok (.newarray .int, 2) := by decide +kernel
theorem dMo_init_280 : decode cMo_init 280 = .ok (.putfield 137, 3) := by decide +kernel
theorem dMo_init_283 : decode cMo_init 283 = .ok (.aload_n 0, 1) := by decide +kernel
theorem dMo_init_284 : decode cMo_init 284 = .ok (.sipush 17000, 3) := by decide +kernel
theorem dMo_init_287 : decode cMo_init 287 = .ok (.newarray .int, 2) := by decide +kernel
theorem dMo_init_289 : decode cMo_init 289 = .ok (.putfield 140, 3) := by decide +kernel
theorem dMo_init_292 : decode cMo_init 292 = .ok (.aload_n 0, 1) := by decide +kernel
theorem dMo_init_293 : decode cMo_init 293 = .ok (.sipush 17000, 3) := by decide +kernel
theorem dMo_init_296 : decode cMo_init 296 = .ok (.newarray .int, 2) := by decide +kernel
theorem dMo_init_298 : decode cMo_init 298 = .ok (.putfield 143, 3) := by decide +kernel
theorem dMo_init_301 : decode cMo_init 301 = .ok (.aload_n 0, 1) := by decide +kernel
theorem dMo_init_302 : decode cMo_init 302 = .ok (.sipush 17000, 3) := by decide +kernel
theorem dMo_init_305 : decode cMo_init 305 = .ok (.newarray .int, 2) := by decide +kernel
theorem dMo_init_307 : decode cMo_init 307 = .ok (.putfield 146, 3) := by decide +kernel
theorem dMo_init_310 : decode cMo_init 310 = .ok (.aload_n 0, 1) := by decide +kernel
theorem dMo_init_311 : decode cMo_init 311 = .ok (.bipush 16, 2) := by decide +kernel
theorem dMo_init_313 : decode cMo_init 313 = .ok (.newarray .int, 2) := by decide +kernel
theorem dMo_init_315 : decode cMo_init 315 = .ok (.putfield 149, 3) := by decide +kernel
theorem dMo_init_318 : decode cMo_init 318 = .ok (.aload_n 0, 1) := by decide +kernel
theorem dMo_init_319 : decode cMo_init 319 = .ok (.bipush 16, 2) := by decide +kernel
theorem dMo_init_321 : decode cMo_init 321 = .ok (.newarray .int, 2) := by decide +kernel
theorem dMo_init_323 : decode cMo_init 323 = .ok (.putfield 152, 3) := by decide +kernel
theorem dMo_init_326 : decode cMo_init 326 = .ok (.aload_n 0, 1) := by decide +kernel
theorem dMo_init_327 : decode cMo_init 327 = .ok (.bipush 16, 2) := by decide +kernel
theorem dMo_init_329 : decode cMo_init 329 = .ok (.newarray .boolean, 2) := by decide +kernel
theorem dMo_init_331 : decode cMo_init 331 = .ok (.putfield 155, 3) := by decide +kernel
theorem dMo_init_334 : decode cMo_init 334 = .ok (.aload_n 0, 1) := by decide +kernel
theorem dMo_init_335 : decode cMo_init 335 = .ok (.sipush 3200, 3) := by decide +kernel
theorem dMo_init_338 : decode cMo_init 338 = .ok (.newarray .int, 2) := by decide +kernel
theorem dMo_init_340 : decode cMo_init 340 = .ok (.putfield 159, 3) := by decide +kernel
theorem dMo_init_343 : decode cMo_init 343 = .ok (.aload_n 0, 1) := by decide +kernel
theorem dMo_init_344 : decode cMo_init 344 = .ok (.sipush 2000, 3) := by decide +kernel
theorem dMo_init_347 : decode cMo_init 347 = .ok (.newarray .int, 2) := by decide +kernel
theorem dMo_init_349 : decode cMo_init 349 = .ok (.putfield 162, 3) := by decide +kernel
theorem dMo_init_352 : decode cMo_init 352 = .ok (.aload_n 0, 1) := by decide +kernel
theorem dMo_init_353 : decode cMo_init 353 = .ok (.iconst 0, 1) := by decide +kernel
theorem dMo_init_354 : decode cMo_init 354 = .ok (.putfield 165, 3) := by decide +kernel
theorem dMo_init_357 : decode cMo_init 357 = .ok (.aload_n 0, 1) := by decide +kernel
theorem dMo_init_358 : decode cMo_init 358 = .ok (.iconst 0, 1) := by decide +kernel
theorem dMo_init_359 : decode cMo_init 359 = .ok (.putfield 168, 3) := by decide +kernel
theorem dMo_init_362 : decode cMo_init 362 = .ok (.aload_n 0, 1) := by decide +kernel
theorem dMo_init_363 : decode cMo_init 363 = .ok (.iconst 0, 1) := by decide +kernel
theorem dMo_init_364 : decode cMo_init 364 = .ok (.putfield 171, 3) := by decide +kernel
theorem dMo_init_367 : decode cMo_init 367 = .ok (.aload_n 0, 1) := by decide +kernel
theorem dMo_init_368 : decode cMo_init 368 = .ok (.iconst 0, 1) := by decide +kernel
theorem dMo_init_369 : decode cMo_init 369 = .ok (.putfield 174, 3) := by decide +kernel
theorem dMo_init_372 : decode cMo_init 372 = .ok (.aload_n 0, 1) := by decide +kernel
theorem dMo_init_373 : decode cMo_init 373 = .ok (.bipush 30, 2) := by decide +kernel
theorem dMo_init_375 : decode cMo_init 375 = .ok (.newarray .boolean, 2) := by decide +kernel
theorem dMo_init_377 : decode cMo_init 377 = .ok (.putfield 177, 3) := by decide +kernel
theorem dMo_init_380 : decode cMo_init 380 = .ok (.aload_n 0, 1) := by decide +kernel
theorem dMo_init_381 : decode cMo_init 381 = .ok (.bipush 16, 2) := by decide +kernel
theorem dMo_init_383 : decode cMo_init 383 = .ok (.newarray .int, 2) := by decide +kernel
theorem dMo_init_385 : decode cMo_init 385 = .ok (.putfield 180, 3) := by decide +kernel
theorem dMo_init_388 : decode cMo_init 388 = .ok (.return_, 1) := by decide +kernel
theorem dRp_read_0 : decode cRp_read 0 = .ok (.aload_n 0, 1) := by decide +kernel
theorem dRp_read_1 : decode cRp_read 1 = .ok (.getfield 71, 3) := by decide +kernel
theorem dRp_read_4 : decode cRp_read 4 = .ok (.iconst 0, 1) := by decide +kernel
theorem dRp_read_5 : decode cRp_read 5 = .ok (.invokestatic 99, 3) := by decide +kernel
theorem dRp_read_8 : decode cRp_read 8 = .ok (.aload_n 0, 1) := by decide +kernel
theorem dRp_read_9 : decode cRp_read 9 = .ok (.iconst 0, 1) := by decide +kernel
theorem dRp_read_10 : decode cRp_read 10 = .ok (.putfield 105, 3) := by decide +kernel
theorem dRp_read_13 : decode cRp_read 13 = .ok (.aload_n 0, 1) := by decide +kernel
theorem dRp_read_14 : decode cRp_read 14 = .ok (.getfield 26, 3) := by decide +kernel
theorem dRp_read_17 : decode cRp_read 17 = .ok (.aload_n 0, 1) := by decide +kernel
theorem dRp_read_18 : decode cRp_read 18 = .ok (.getfield 78, 3) := by decide +kernel
theorem dRp_read_21 : decode cRp_read 21 = .ok (.invokevirtual 108, 3) := by decide +kernel
theorem dRp_read_24 : decode cRp_read 24 = .ok (.aload_n 0, 1) := by decide +kernel
theorem dRp_read_25 : decode cRp_read 25 = .ok (.aload_n 0, 1) := by decide +kernel
theorem dRp_read_26 : decode cRp_read 26 = .ok (.getfield 26, 3) := by decide +kernel
theorem dRp_read_29 : decode cRp_read 29 = .ok (.getfield 111, 3) := by decide +kernel
theorem dRp_read_32 : decode cRp_read 32 = .ok (.getfield 115, 3) := by decide +kernel
theorem dRp_read_35 : decode cRp_read 35 = .ok (.putfield 120, 3) := by decide +kernel
theorem dRp_read_38 : decode cRp_read 38 = .ok (.aload_n 0, 1) := by decide +kernel
theorem dRp_read_39 : decode cRp_read 39 = .ok (.aload_n 0, 1) := by decide +kernel
theorem dRp_read_40 : decode cRp_read 40 = .ok (.getfield 26, 3) := by decide +kernel
theorem dRp_read_43 : decode cRp_read 43 = .ok (.getfield 111, 3) := by decide +kernel
theorem dRp_read_46 : decode cRp_read 46 = .ok (.getfield 121, 3) := by decide +kernel
theorem dRp_read_49 : decode cRp_read 49 = .ok (.putfield 124, 3) := by decide +kernel
theorem dRp_read_52 : decode cRp_read 52 = .ok (.aload_n 0, 1) := by decide +kernel
theorem dRp_read_53 : decode cRp_read 53 = .ok (.iconst 0, 1) := by decide +kernel
theorem dRp_read_54 : decode cRp_read 54 = .ok (.putfield 78, 3) := by decide +kernel
theorem dRp_read_57 : decode cRp_read 57 = .ok (.aload_n 0, 1) := by decide +kernel
theorem dRp_read_58 : decode cRp_read 58 = .ok (.aload_n 0, 1) := by decide +kernel
theorem dRp_read_59 : decode cRp_read 59 = .ok (.getfield 120, 3) := by decide +kernel
theorem dRp_read_62 : decode cRp_read 62 = .ok (.ifCond .ne 7, 3) := by decide +kernel
theorem dRp_read_65 : decode cRp_read 65 = .ok (.iconst 1, 1) := by decide +kernel
theorem dRp_read_66 : decode cRp_read 66 = .ok (.goto 4, 3) := by decide +kernel
theorem dRp_read_69 : decode cRp_read 69 = .ok (.iconst 0, 1) := by decide +kernel
theorem dRp_read_70 : decode cRp_read 70 = .ok (.putfield 125, 3) := by decide +kernel
theorem dRp_read_73 : decode cRp_read 73 = .ok (.aload_n 0, 1) := by decide +kernel
theorem dRp_read_74 : decode cRp_read 74 = .ok (.getfield 125, 3) := by decide +kernel
theorem dRp_read_77 : decode cRp_read 77 = .ok (.ifCond .ne 10, 3) := by decide +kernel
theorem dRp_read_80 : decode cRp_read 80 = .ok (.aload_n 0, 1) := by decide +kernel
theorem dRp_read_81 : decode cRp_read 81 = .ok (.getfield 17, 3) := by decide +kernel
theorem dRp_read_84 : decode cRp_read 84 = .ok (.invokevirtual 129, 3) := by decide +kernel
theorem dRp_read_87 : decode cRp_read 87 = .ok (.aload_n 0, 1) := by decide +kernel
theorem dRp_read_88 : decode cRp_read 88 = .ok (.getfield 42, 3) := by decide +kernel
theorem dRp_read_91 : decode cRp_read 91 = .ok (.invokevirtual 132, 3) := by decide +kernel
theorem dRp_read_94 : decode cRp_read 94 = .ok (.aload_n 0, 1) := by decide +kernel
theorem dRp_read_95 : decode cRp_read 95 = .ok (.getfield 42, 3) := by decide +kernel
theorem dRp_read_98 : decode cRp_read 98 = .ok (.aload_n 0, 1) := by decide +kernel
theorem dRp_read_99 : decode cRp_read 99 = .ok (.getfield 17, 3) := by decide +kernel
theorem dRp_read_102 : decode cRp_read 102 = .ok (.getfield 135, 3) := by decide +kernel
theorem dRp_read_105 : decode cRp_read 105 = .ok (.iconst 0, 1) := by decide +kernel
theorem dRp_read_106 : decode cRp_read 106 = .ok (.invokevirtual 138, 3) := by decide +kernel
theorem dRp_read_109 : decode cRp_read 109 = .ok (.aload_n 0, 1) := by decide +kernel
theorem dRp_read_110 : decode cRp_read 110 = .ok (.getfield 125, 3) := by decide +kernel
theorem dRp_read_113 : decode cRp_read 113 = .ok (.ifCond .eq 13, 3) := by decide +kernel
theorem dRp_read_116 : decode cRp_read 116 = .ok (.aload_n 0, 1) := by decide +kernel
theorem dRp_read_117 : decode cRp_read 117 = .ok (.getfield 17, 3) := by decide +kernel
theorem dRp_read_120 : decode cRp_read 120 = .ok (.getfield 142, 3) := by decide +kernel
theorem dRp_read_123 : decode cRp_read 123 = .ok (.goto 4, 3) := by decide +kernel
theorem dRp_read_126 : decode cRp_read 126 = .ok (.iconst (-1), 1) := by decide +kernel
theorem dRp_read_127 : decode cRp_read 127 = .ok (.ireturn, 1) := by decide +kernel
theorem dAr_fill_0 : decode cAr_fill 0 = .ok (.iconst 0, 1) := by decide +kernel
theorem dAr_fill_1 : decode cAr_fill 1 = .ok (.istore_n 2, 1) := by decide +kernel
theorem dAr_fill_2 : decode cAr_fill 2 = .ok (.aload_n 0, 1) := by decide +kernel
theorem dAr_fill_3 : decode cAr_fill 3 = .ok (.arraylength, 1) := by decide +kernel
theorem dAr_fill_4 : decode cAr_fill 4 = .ok (.istore_n 3, 1) := by decide +kernel
theorem dAr_fill_5 : decode cAr_fill 5 = .ok (.iload_n 2, 1) := by decide +kernel
theorem dAr_fill_6 : decode cAr_fill 6 = .ok (.iload_n 3, 1) := by decide +kernel
theorem dAr_fill_7 : decode cAr_fill 7 = .ok (.if_icmp .ge 13, 3) := by decide +kernel
theorem dAr_fill_10 : decode cAr_fill 10 = .ok (.aload_n 0, 1) := by decide +kernel
theorem dAr_fill_11 : decode cAr_fill 11 = .ok (.iload_n 2, 1) := by decide +kernel
theorem dAr_fill_12 : decode cAr_fill 12 = .ok (.iload_n 1, 1) := by decide +kernel
theorem dAr_fill_13 : decode cAr_fill 13 = .ok (.iastore, 1) := by decide +kernel
theorem dAr_fill_14 : decode cAr_fill 14 = .ok (.iinc 2 1, 3) := by decide +kernel
theorem dAr_fill_17 : decode cAr_fill 17 = .ok (.goto (-12), 3) := by decide +kernel
theorem dAr_fill_20 : decode cAr_fill 20 = .ok (.return_, 1) := by decide +kernel
theorem dPa_parse_0 : decode cPa_parse 0 = .ok (.aload_n 0, 1) := by decide +kernel
theorem dPa_parse_1 : decode cPa_parse 1 = .ok (.getfield 16, 3) := by decide +kernel
theorem dPa_parse_4 : decode cPa_parse 4 = .ok (.invokevirtual 38, 3) := by decide +kernel
theorem dPa_parse_7 : decode cPa_parse 7 = .ok (.aload_n 0, 1) := by decide +kernel
theorem dPa_parse_8 : decode cPa_parse 8 = .ok (.getfield 10, 3) := by decide +kernel
theorem dPa_parse_11 : decode cPa_parse 11 = .ok (.iconst 0, 1) := by decide +kernel
theorem dPa_parse_12 : decode cPa_parse 12 = .ok (.putfield 43, 3) := by decide +kernel
theorem dPa_parse_15 : decode cPa_parse 15 = .ok (.aload_n 0, 1) := by decide +kernel
theorem dPa_parse_16 : decode cPa_parse 16 = .ok (.getfield 34, 3) := by decide +kernel
theorem dPa_parse_19 : decode cPa_parse 19 = .ok (.invokevirtual 47, 3) := by decide +kernel
theorem dPa_parse_22 : decode cPa_parse 22 = .ok (.aload_n 0, 1) := by decide +kernel
theorem dPa_parse_23 : decode cPa_parse 23 = .ok (.iconst 0, 1) := by decide +kernel
theorem dPa_parse_24 : decode cPa_parse 24 = .ok (.putfield 50, 3) := by decide +kernel
theorem dPa_parse_27 : decode cPa_parse 27 = .ok (.aload_n 0, 1) := by decide +kernel
theorem dPa_parse_28 : decode cPa_parse 28 = .ok (.getfield 25, 3) := by decide +kernel
theorem dPa_parse_31 : decode cPa_parse 31 = .ok (.iload_n 1, 1) := by decide +kernel
theorem dPa_parse_32 : decode cPa_parse 32 = .ok (.invokevirtual 53, 3) := by decide +kernel
theorem dPa_parse_35 : decode cPa_parse 35 = .ok (.aload_n 0, 1) := by decide +kernel
theorem dPa_parse_36 : decode cPa_parse 36 = .ok (.getfield 25, 3) := by decide +kernel
theorem dPa_parse_39 : decode cPa_parse 39 = .ok (.iconst 5, 1) := by decide +kernel
theorem dPa_parse_40 : decode cPa_parse 40 = .ok (.invokevirtual 56, 3) := by decide +kernel
theorem dPa_parse_43 : decode cPa_parse 43 = .ok (.aload_n 0, 1) := by decide +kernel
theorem dPa_parse_44 : decode cPa_parse 44 = .ok (.getfield 16, 3) := by decide +kernel
theorem dPa_parse_47 : decode cPa_parse 47 = .ok (.aload_n 0, 1) := by decide +kernel
theorem dPa_parse_48 : decode cPa_parse 48 = .ok (.getfield 25, 3) := by decide +kernel
theorem dPa_parse_51 : decode cPa_parse 51 = .ok (.iconst 1, 1) := by decide +kernel
theorem dPa_parse_52 : decode cPa_parse 52 = .ok (.bipush 8, 2) := by decide +kernel
theorem dPa_parse_54 : decode cPa_parse 54 = .ok (.invokevirtual 61, 3) := by decide +kernel
theorem dPa_parse_57 : decode cPa_parse 57 = .ok (.putfield 65, 3) := by decide +kernel
theorem dPa_parse_60 : decode cPa_parse 60 = .ok (.aload_n 0, 1) := by decide +kernel
theorem dPa_parse_61 : decode cPa_parse 61 = .ok (.getfield 25, 3) := by decide +kernel
theorem dPa_parse_64 : decode cPa_parse 64 = .ok (.bipush 16, 2) := by decide +kernel
theorem dPa_parse_66 : decode cPa_parse 66 = .ok (.invokevirtual 56, 3) := by decide +kernel
theorem dPa_parse_69 : decode cPa_parse 69 = .ok (.aload_n 0, 1) := by decide +kernel
theorem dPa_parse_70 : decode cPa_parse 70 = .ok (.invokevirtual 68, 3) := by decide +kernel
theorem dPa_parse_73 : decode cPa_parse 73 = .ok (.aload_n 0, 1) := by decide +kernel
theorem dPa_parse_74 : decode cPa_parse 74 = .ok (.getfield 16, 3) := by decide +kernel
theorem dPa_parse_77 : decode cPa_parse 77 = .ok (.aload_n 0, 1) := by decide +kernel
theorem dPa_parse_78 : decode cPa_parse 78 = .ok (.iconst 0, 1) := by decide +kernel
theorem dPa_parse_79 : decode cPa_parse 79 = .ok (.invokevirtual 71, 3) := by decide +kernel
theorem dPa_parse_82 : decode cPa_parse 82 = .ok (.putfield 75, 3) := by decide +kernel
theorem dPa_parse_85 : decode cPa_parse 85 = .ok (.aload_n 0, 1) := by decide +kernel
theorem dPa_parse_86 : decode cPa_parse 86 = .ok (.getfield 25, 3) := by decide +kernel
theorem dPa_parse_89 : decode cPa_parse 89 = .ok (.getfield 78, 3) := by decide +kernel
theorem dPa_parse_92 : decode cPa_parse 92 = .ok (.iconst 1, 1) := by decide +kernel
theorem dPa_parse_93 : decode cPa_parse 93 = .ok (.if_icmp .eq 10, 3) := by decide +kernel
theorem dPa_parse_96 : decode cPa_parse 96 = .ok (.aload_n 0, 1) := by decide +kernel
theorem dPa_parse_97 : decode cPa_parse 97 = .ok (.getfield 25, 3) := by decide +kernel
theorem dPa_parse_100 : decode cPa_parse 100 = .ok (.invokevirtual 81, 3) := by decide +kernel
theorem dPa_parse_103 : decode cPa_parse 103 = .ok (.aload_n 0, 1) := by decide +kernel
theorem dPa_parse_104 : decode cPa_parse 104 = .ok (.getfield 16, 3) := by decide +kernel
theorem dPa_parse_107 : decode cPa_parse 107 = .ok (.aload_n 0, 1) := by decide +kernel
theorem dPa_parse_108 : decode cPa_parse 108 = .ok (.getfield 34, 3) := by decide +kernel
theorem dPa_parse_111 : decode cPa_parse 111 = .ok (.getfield 84, 3) := by decide +kernel
theorem dPa_parse_114 : decode cPa_parse 114 = .ok (.putfield 87, 3) := by decide +kernel
theorem dPa_parse_117 : decode cPa_parse 117 = .ok (.aload_n 0, 1) := by decide +kernel
theorem dPa_parse_118 : decode cPa_parse 118 = .ok (.getfield 34, 3) := by decide +kernel
theorem dPa_parse_121 : decode cPa_parse 121 = .ok (.getfield 90, 3) := by decide +kernel
theorem dPa_parse_124 : decode cPa_parse 124 = .ok (.sipush 200, 3) := by decide +kernel
theorem dPa_parse_127 : decode cPa_parse 127 = .ok (.if_icmp .gt 25, 3) := by decide +kernel
theorem dPa_parse_130 : decode cPa_parse 130 = .ok (.aload_n 0, 1) := by decide +kernel
theorem dPa_parse_131 : decode cPa_parse 131 = .ok (.getfield 16, 3) := by decide +kernel
theorem dPa_parse_134 : decode cPa_parse 134 = .ok (.getfield 87, 3) := by decide +kernel
theorem dPa_parse_137 : decode cPa_parse 137 = .ok (.sipush 30000, 3) := by decide +kernel
theorem dPa_parse_140 : decode cPa_parse 140 = .ok (.if_icmp .gt 12, 3) := by decide +kernel
theorem dPa_parse_143 : decode cPa_parse 143 = .ok (.aload_n 0, 1) := by decide +kernel
theorem dPa_parse_144 : decode cPa_parse 144 = .ok (.getfield 50, 3) := by decide +kernel
theorem dPa_parse_147 : decode cPa_parse 147 = .ok (.bipush 12, 2) := by decide +kernel
theorem dPa_parse_149 : decode cPa_parse 149 = .ok (.if_icmp .le 12, 3) := by decide +kernel
theorem dPa_parse_152 : decode cPa_parse 152 = .ok (.aload_n 0, 1) := by decide +kernel
theorem dPa_parse_153 : decode cPa_parse 153 = .ok (.getfield 25, 3) := by decide +kernel
theorem dPa_parse_156 : decode cPa_parse 156 = .ok (.iconst 4, 1) := by decide +kernel
theorem dPa_parse_157 : decode cPa_parse 157 = .ok (.iload_n 1, 1) := by decide +kernel
theorem dPa_parse_158 : decode cPa_parse 158 = .ok (.invokevirtual 95, 3) := by decide +kernel
theorem dPa_parse_161 : decode cPa_parse 161 = .ok (.return_, 1) := by decide +kernel
theorem dPg_clear_0 : decode cPg_clear 0 = .ok (.aload_n 0, 1) := by decide +kernel
theorem dPg_clear_1 : decode cPg_clear 1 = .ok (.iconst 0, 1) := by decide +kernel
theorem dPg_clear_2 : decode cPg_clear 2 = .ok (.putfield 42, 3) := by decide +kernel
theorem dPg_clear_5 : decode cPg_clear 5 = .ok (.aload_n 0, 1) := by decide +kernel
theorem dPg_clear_6 : decode cPg_clear 6 = .ok (.iconst 0, 1) := by decide +kernel
theorem dPg_clear_7 : decode cPg_clear 7 = .ok (.putfield 45, 3) := by decide +kernel
theorem dPg_clear_10 : decode cPg_clear 10 = .ok (.aload_n 0, 1) := by decide +kernel
theorem dPg_clear_11 : decode cPg_clear 11 = .ok (.iconst 0, 1) := by decide +kernel
theorem dPg_clear_12 : decode cPg_clear 12 = .ok (.putfield 48, 3) := by decide +kernel
theorem dPg_clear_15 : decode cPg_clear 15 = .ok (.aload_n 0, 1) := by decide +kernel
theorem dPg_clear_16 : decode cPg_clear 16 = .ok (.iconst 0, 1) := by decide +kernel
theorem dPg_clear_17 : decode cPg_clear 17 = .ok (.putfield 51, 3) := by decide +kernel
theorem dPg_clear_20 : decode cPg_clear 20 = .ok (.aload_n 0, 1) := by decide +kernel
theorem dPg_clear_21 : decode cPg_clear 21 = .ok (.iconst 0, 1) := by decide +kernel
theorem dPg_clear_22 : decode cPg_clear 22 = .ok (.putfield 54, 3) := by decide +kernel
theorem dPg_clear_25 : decode cPg_clear 25 = .ok (.aload_n 0, 1) := by decide +kernel
theorem dPg_clear_26 : decode cPg_clear 26 = .ok (.iconst 0, 1) := by decide +kernel
theorem dPg_clear_27 : decode cPg_clear 27 = .ok (.putfield 57, 3) := by decide +kernel
theorem dPg_clear_30 : decode cPg_clear 30 = .ok (.aload_n 0, 1) := by decide +kernel
theorem dPg_clear_31 : decode cPg_clear 31 = .ok (.iconst 0, 1) := by decide +kernel
theorem dPg_clear_32 : decode cPg_clear 32 = .ok (.putfield 60, 3) := by decide +kernel
theorem dPg_clear_35 : decode cPg_clear 35 = .ok (.aload_n 0, 1) := by decide +kernel
theorem dPg_clear_36 : decode cPg_clear 36 = .ok (.iconst 0, 1) := by decide +kernel
theorem dPg_clear_37 : decode cPg_clear 37 = .ok (.putfield 63, 3) := by decide +kernel
theorem dPg_clear_40 : decode cPg_clear 40 = .ok (.aload_n 0, 1) := by decide +kernel
theorem dPg_clear_41 : decode cPg_clear 41 = .ok (.iconst (-1), 1) := by decide +kernel
theorem dPg_clear_42 : decode cPg_clear 42 = .ok (.putfield 38, 3) := by decide +kernel
theorem dPg_clear_45 : decode cPg_clear 45 = .ok (.return_, 1) := by decide +kernel
theorem dEx_begin_0 : decode cEx_begin 0 = .ok (.aload_n 0, 1) := by decide +kernel
theorem dEx_begin_1 : decode cEx_begin 1 = .ok (.iconst 0, 1) := by decide +kernel
theorem dEx_begin_2 : decode cEx_begin 2 = .ok (.putfield 30, 3) := by decide +kernel
theorem dEx_begin_5 : decode cEx_begin 5 = .ok (.aload_n 0, 1) := by decide +kernel
theorem dEx_begin_6 : decode cEx_begin 6 = .ok (.iconst 0, 1) := by decide +kernel
theorem dEx_begin_7 : decode cEx_begin 7 = .ok (.putfield 34, 3) := by decide +kernel
theorem dEx_begin_10 : decode cEx_begin 10 = .ok (.aload_n 0, 1) := by decide +kernel
theorem dEx_begin_11 : decode cEx_begin 11 = .ok (.iconst 0, 1) := by decide +kernel
theorem dEx_begin_12 : decode cEx_begin 12 = .ok (.putfield 38, 3) := by decide +kernel
theorem dEx_begin_15 : decode cEx_begin 15 = .ok (.aload_n 0, 1) := by decide +kernel
theorem dEx_begin_16 : decode cEx_begin 16 = .ok (.iconst 0, 1) := by decide +kernel
theorem dEx_begin_17 : decode cEx_begin 17 = .ok (.putfield 41, 3) := by decide +kernel
theorem dEx_begin_20 : decode cEx_begin 20 = .ok (.return_, 1) := by decide +kernel
theorem dTk_begin_0 : decode cTk_begin 0 = .ok (.aload_n 0, 1) := by decide +kernel
theorem dTk_begin_1 : decode cTk_begin 1 = .ok (.iload_n 1, 1) := by decide +kernel
theorem dTk_begin_2 : decode cTk_begin 2 = .ok (.aload_n 0, 1) := by decide +kernel
theorem dTk_begin_3 : decode cTk_begin 3 = .ok (.getfield 19, 3) := by decide +kernel
theorem dTk_begin_6 : decode cTk_begin 6 = .ok (.arraylength, 1) := by decide +kernel
theorem dTk_begin_7 : decode cTk_begin 7 = .ok (.invokestatic 23, 3) := by decide +kernel
theorem dTk_begin_10 : decode cTk_begin 10 = .ok (.putfield 29, 3) := by decide +kernel
theorem dTk_begin_13 : decode cTk_begin 13 = .ok (.aload_n 0, 1) := by decide +kernel
theorem dTk_begin_14 : decode cTk_begin 14 = .ok (.iconst 0, 1) := by decide +kernel
theorem dTk_begin_15 : decode cTk_begin 15 = .ok (.putfield 33, 3) := by decide +kernel
theorem dTk_begin_18 : decode cTk_begin 18 = .ok (.aload_n 0, 1) := by decide +kernel
theorem dTk_begin_19 : decode cTk_begin 19 = .ok (.iconst 0, 1) := by decide +kernel
theorem dTk_begin_20 : decode cTk_begin 20 = .ok (.putfield 36, 3) := by decide +kernel
theorem dTk_begin_23 : decode cTk_begin 23 = .ok (.aload_n 0, 1) := by decide +kernel
theorem dTk_begin_24 : decode cTk_begin 24 = .ok (.iconst 0, 1) := by decide +kernel
theorem dTk_begin_25 : decode cTk_begin 25 = .ok (.putfield 39, 3) := by decide +kernel
theorem dTk_begin_28 : decode cTk_begin 28 = .ok (.aload_n 0, 1) := by decide +kernel
theorem dTk_begin_29 : decode cTk_begin 29 = .ok (.iconst 0, 1) := by decide +kernel
theorem dTk_begin_30 : decode cTk_begin 30 = .ok (.invokevirtual 42, 3) := by decide +kernel
theorem dTk_begin_33 : decode cTk_begin 33 = .ok (.istore_n 2, 1) := by decide +kernel
theorem dTk_begin_34 : decode cTk_begin 34 = .ok (.iload_n 2, 1) := by decide +kernel
theorem dTk_begin_35 : decode cTk_begin 35 = .ok (.aload_n 0, 1) := by decide +kernel
theorem dTk_begin_36 : decode cTk_begin 36 = .ok (.getfield 29, 3) := by decide +kernel
theorem dTk_begin_39 : decode cTk_begin 39 = .ok (.if_icmp .ge 26, 3) := by decide +kernel
theorem dTk_begin_42 : decode cTk_begin 42 = .ok (.aload_n 0, 1) := by decide +kernel
theorem dTk_begin_43 : decode cTk_begin 43 = .ok (.getfield 33, 3) := by decide +kernel
theorem dTk_begin_46 : decode cTk_begin 46 = .ok (.sipush 8000, 3) := by decide +kernel
theorem dTk_begin_49 : decode cTk_begin 49 = .ok (.if_icmp .gt 16, 3) := by decide +kernel
theorem dTk_begin_52 : decode cTk_begin 52 = .ok (.aload_n 0, 1) := by decide +kernel
theorem dTk_begin_53 : decode cTk_begin 53 = .ok (.aload_n 0, 1) := by decide +kernel
theorem dTk_begin_54 : decode cTk_begin 54 = .ok (.iload_n 2, 1) := by decide +kernel
theorem dTk_begin_55 : decode cTk_begin 55 = .ok (.invokevirtual 46, 3) := by decide +kernel
theorem dTk_begin_58 : decode cTk_begin 58 = .ok (.invokevirtual 42, 3) := by decide +kernel
theorem dTk_begin_61 : decode cTk_begin 61 = .ok (.istore_n 2, 1) := by decide +kernel
theorem dTk_begin_62 : decode cTk_begin 62 = .ok (.goto (-28), 3) := by decide +kernel
theorem dTk_begin_65 : decode cTk_begin 65 = .ok (.aload_n 0, 1) := by decide +kernel
theorem dTk_begin_66 : decode cTk_begin 66 = .ok (.getfield 33, 3) := by decide +kernel
theorem dTk_begin_69 : decode cTk_begin 69 = .ok (.sipush 8000, 3) := by decide +kernel
theorem dTk_begin_72 : decode cTk_begin 72 = .ok (.if_icmp .le 13, 3) := by decide +kernel
theorem dTk_begin_75 : decode cTk_begin 75 = .ok (.aload_n 0, 1) := by decide +kernel
theorem dTk_begin_76 : decode cTk_begin 76 = .ok (.getfield 9, 3) := by decide +kernel
theorem dTk_begin_79 : decode cTk_begin 79 = .ok (.sipush 8000, 3) := by decide +kernel
theorem dTk_begin_82 : decode cTk_begin 82 = .ok (.bipush 47, 2) := by decide +kernel
theorem dTk_begin_84 : decode cTk_begin 84 = .ok (.iastore, 1) := by decide +kernel
theorem dTk_begin_85 : decode cTk_begin 85 = .ok (.aload_n 0, 1) := by decide +kernel
theorem dTk_begin_86 : decode cTk_begin 86 = .ok (.getfield 9, 3) := by decide +kernel
theorem dTk_begin_89 : decode cTk_begin 89 = .ok (.aload_n 0, 1) := by decide +kernel
theorem dTk_begin_90 : decode cTk_begin 90 = .ok (.getfield 33, 3) := by decide +kernel
theorem dTk_begin_93 : decode cTk_begin 93 = .ok (.iconst 1, 1) := by decide +kernel
theorem dTk_begin_94 : decode cTk_begin 94 = .ok (.iastore, 1) := by decide +kernel
theorem dTk_begin_95 : decode cTk_begin 95 = .ok (.aload_n 0, 1) := by decide +kernel
theorem dTk_begin_96 : decode cTk_begin 96 = .ok (.getfield 13, 3) := by decide +kernel
theorem dTk_begin_99 : decode cTk_begin 99 = .ok (.aload_n 0, 1) := by decide +kernel
theorem dTk_begin_100 : decode cTk_begin 100 = .ok (.getfield 33, 3) := by decide +kernel
theorem dTk_begin_103 : decode cTk_begin 103 = .ok (.aload_n 0, 1) := by decide +kernel
theorem dTk_begin_104 : decode cTk_begin 104 = .ok (.getfield 29, 3) := by decide +kernel
theorem dTk_begin_107 : decode cTk_begin 107 = .ok (.iastore, 1) := by decide +kernel
theorem dTk_begin_108 : decode cTk_begin 108 = .ok (.aload_n 0, 1) := by decide +kernel
theorem dTk_begin_109 : decode cTk_begin 109 = .ok (.iconst (-1), 1) := by decide +kernel
theorem dTk_begin_110 : decode cTk_begin 110 = .ok (.putfield 49, 3) := by decide +kernel
theorem dTk_begin_113 : decode cTk_begin 113 = .ok (.aload_n 0, 1) := by decide +kernel
theorem dTk_begin_114 : decode cTk_begin 114 = .ok (.invokevirtual 52, 3) := by decide +kernel
theorem dTk_begin_117 : decode cTk_begin 117 = .ok (.return_, 1) := by decide +kernel
theorem dTk_behindBlanks_0 : decode cTk_behindBlanks 0 = .ok (.iconst 0, 1) := by decide +kernel
theorem dTk_behindBlanks_1 : decode cTk_behindBlanks 1 = .ok (.istore_n 2, 1) := by decide +kernel
theorem dTk_behindBlanks_2 : decode cTk_behindBlanks 2 = .ok (.iload_n 1, 1) := by decide +kernel
theorem dTk_behindBlanks_3 : decode cTk_behindBlanks 3 = .ok (.istore_n 3, 1) := by decide +kernel
theorem dTk_behindBlanks_4 : decode cTk_behindBlanks 4 = .ok (.iload_n 3, 1) := by decide +kernel
theorem dTk_behindBlanks_5 : decode cTk_behindBlanks 5 = .ok (.aload_n 0, 1) := by decide +kernel
theorem dTk_behindBlanks_6 : decode cTk_behindBlanks 6 = .ok (.getfield 29, 3) := by decide +kernel
theorem dTk_behindBlanks_9 : decode cTk_behindBlanks 9 = .ok (.if_icmp .ge 79, 3) := by decide +kernel
theorem dTk_behindBlanks_12 : decode cTk_behindBlanks 12 = .ok (.aload_n 0, 1) := by decide +kernel
theorem dTk_behindBlanks_13 : decode cTk_behindBlanks 13 = .ok (.getfield 19, 3) := by decide +kernel
theorem dTk_behindBlanks_16 : decode cTk_behindBlanks 16 = .ok (.iload_n 3, 1) := by decide +kernel
theorem dTk_behindBlanks_17 : decode cTk_behindBlanks 17 = .ok (.baload, 1) := by decide +kernel
theorem dTk_behindBlanks_18 : decode cTk_behindBlanks 18 = .ok (.istore 4, 2) := by decide +kernel
theorem dTk_behindBlanks_20 : decode cTk_behindBlanks 20 = .ok (.iload_n 2, 1) := by decide +kernel
theorem dTk_behindBlanks_21 : decode cTk_behindBlanks 21 = .ok (.ifCond .eq 19, 3) := by decide +kernel
theorem dTk_behindBlanks_24 : decode cTk_behindBlanks 24 = .ok (.iload 4, 2) := by decide +kernel
theorem dTk_behindBlanks_26 : decode cTk_behindBlanks 26 = .ok (.bipush 10, 2) := by decide +kernel
theorem dTk_behindBlanks_28 : decode cTk_behindBlanks 28 = .ok (.if_icmp .eq 7, 3) := by decide +kernel
theorem dTk_behindBlanks_31 : decode cTk_behindBlanks 31 = .ok (.iconst 1, 1) := by decide +kernel
theorem dTk_behindBlanks_32 : decode cTk_behindBlanks 32 = .ok (.goto 4, 3) := by decide +kernel
theorem dTk_behindBlanks_35 : decode cTk_behindBlanks 35 = .ok (.iconst 0, 1) := by decide +kernel
theorem dTk_behindBlanks_36 : decode cTk_behindBlanks 36 = .ok (.istore_n 2, 1) := by decide +kernel
theorem dTk_behindBlanks_37 : decode cTk_behindBlanks 37 = .ok (.goto 45, 3) := by decide +kernel
theorem dTk_behindBlanks_40 : decode cTk_behindBlanks 40 = .ok (.iload 4, 2) := by decide +kernel
theorem dTk_behindBlanks_42 : decode cTk_behindBlanks 42 = .ok (.bipush 35, 2) := by decide +kernel
theorem dTk_behindBlanks_44 : decode cTk_behindBlanks 44 = .ok (.if_icmp .ne 8, 3) := by decide +kernel
theorem dTk_behindBlanks_47 : decode cTk_behindBlanks 47 = .ok (.iconst 1, 1) := by decide +kernel
theorem dTk_behindBlanks_48 : decode cTk_behindBlanks 48 = .ok (.istore_n 2, 1) := by decide +kernel
theorem dTk_behindBlanks_49 : decode cTk_behindBlanks 49 = .ok (.goto 33, 3) := by decide +kernel
theorem dTk_behindBlanks_52 : decode cTk_behindBlanks 52 = .ok (.iload 4, 2) := by decide +kernel
theorem dTk_behindBlanks_54 : decode cTk_behindBlanks 54 = .ok (.bipush 32, 2) := by decide +kernel
theorem dTk_behindBlanks_56 : decode cTk_behindBlanks 56 = .ok (.if_icmp .eq 26, 3) := by decide +kernel
theorem dTk_behindBlanks_59 : decode cTk_behindBlanks 59 = .ok (.iload 4, 2) := by decide +kernel
theorem dTk_behindBlanks_61 : decode cTk_behindBlanks 61 = .ok (.bipush 9, 2) := by decide +kernel
theorem dTk_behindBlanks_63 : decode cTk_behindBlanks 63 = .ok (.if_icmp .eq 19, 3) := by decide +kernel
theorem dTk_behindBlanks_66 : decode cTk_behindBlanks 66 = .ok (.iload 4, 2) := by decide +kernel
theorem dTk_behindBlanks_68 : decode cTk_behindBlanks 68 = .ok (.bipush 10, 2) := by decide +kernel
theorem dTk_behindBlanks_70 : decode cTk_behindBlanks 70 = .ok (.if_icmp .eq 12, 3) := by decide +kernel
theorem dTk_behindBlanks_73 : decode cTk_behindBlanks 73 = .ok (.iload 4, 2) := by decide +kernel
theorem dTk_behindBlanks_75 : decode cTk_behindBlanks 75 = .ok (.bipush 13, 2) := by decide +kernel
theorem dTk_behindBlanks_77 : decode cTk_behindBlanks 77 = .ok (.if_icmp .eq 5, 3) := by decide +kernel
theorem dTk_behindBlanks_80 : decode cTk_behindBlanks 80 = .ok (.iload_n 3, 1) := by decide +kernel
theorem dTk_behindBlanks_81 : decode cTk_behindBlanks 81 = .ok (.ireturn, 1) := by decide +kernel
theorem dTk_behindBlanks_82 : decode cTk_behindBlanks 82 = .ok (.iinc 3 1, 3) := by decide +kernel
theorem dTk_behindBlanks_85 : decode cTk_behindBlanks 85 = .ok (.goto (-81), 3) := by decide +kernel
theorem dTk_behindBlanks_88 : decode cTk_behindBlanks 88 = .ok (.aload_n 0, 1) := by decide +kernel
theorem dTk_behindBlanks_89 : decode cTk_behindBlanks 89 = .ok (.getfield 29, 3) := by decide +kernel
theorem dTk_behindBlanks_92 : decode cTk_behindBlanks 92 = .ok (.ireturn, 1) := by decide +kernel
theorem dTk_advance_0 : decode cTk_advance 0 = .ok (.aload_n 0, 1) := by decide +kernel
theorem dTk_advance_1 : decode cTk_advance 1 = .ok (.getfield 36, 3) := by decide +kernel
theorem dTk_advance_4 : decode cTk_advance 4 = .ok (.ifCond .ne 63, 3) := by decide +kernel
theorem dTk_advance_7 : decode cTk_advance 7 = .ok (.aload_n 0, 1) := by decide +kernel
theorem dTk_advance_8 : decode cTk_advance 8 = .ok (.getfield 49, 3) := by decide +kernel
theorem dTk_advance_11 : decode cTk_advance 11 = .ok (.aload_n 0, 1) := by decide +kernel
theorem dTk_advance_12 : decode cTk_advance 12 = .ok (.getfield 33, 3) := by decide +kernel
theorem dTk_advance_15 : decode cTk_advance 15 = .ok (.if_icmp .ge 52, 3) := by decide +kernel
theorem dTk_advance_18 : decode cTk_advance 18 = .ok (.aload_n 0, 1) := by decide +kernel
theorem dTk_advance_19 : decode cTk_advance 19 = .ok (.dup, 1) := by decide +kernel
theorem dTk_advance_20 : decode cTk_advance 20 = .ok (.getfield 49, 3) := by decide +kernel
theorem dTk_advance_23 : decode cTk_advance 23 = .ok (.iconst 1, 1) := by decide +kernel
theorem dTk_advance_24 : decode cTk_advance 24 = .ok (.iadd, 1) := by decide +kernel
theorem dTk_advance_25 : decode cTk_advance 25 = .ok (.putfield 49, 3) := by decide +kernel
theorem dTk_advance_28 : decode cTk_advance 28 = .ok (.aload_n 0, 1) := by decide +kernel
theorem dTk_advance_29 : decode cTk_advance 29 = .ok (.aload_n 0, 1) := by decide +kernel
theorem dTk_advance_30 : decode cTk_advance 30 = .ok (.getfield 9, 3) := by decide +kernel
theorem dTk_advance_33 : decode cTk_advance 33 = .ok (.aload_n 0, 1) := by decide +kernel
theorem dTk_advance_34 : decode cTk_advance 34 = .ok (.getfield 49, 3) := by decide +kernel
theorem dTk_advance_37 : decode cTk_advance 37 = .ok (.iaload, 1) := by decide +kernel
theorem dTk_advance_38 : decode cTk_advance 38 = .ok (.putfield 55, 3) := by decide +kernel
theorem dTk_advance_41 : decode cTk_advance 41 = .ok (.aload_n 0, 1) := by decide +kernel
theorem dTk_advance_42 : decode cTk_advance 42 = .ok (.aload_n 0, 1) := by decide +kernel
theorem dTk_advance_43 : decode cTk_advance 43 = .ok (.getfield 13, 3) := by decide +kernel
theorem dTk_advance_46 : decode cTk_advance 46 = .ok (.aload_n 0, 1) := by decide +kernel
theorem dTk_advance_47 : decode cTk_advance 47 = .ok (.getfield 49, 3) := by decide +kernel
theorem dTk_advance_50 : decode cTk_advance 50 = .ok (.iaload, 1) := by decide +kernel
theorem dTk_advance_51 : decode cTk_advance 51 = .ok (.putfield 58, 3) := by decide +kernel
theorem dTk_advance_54 : decode cTk_advance 54 = .ok (.aload_n 0, 1) := by decide +kernel
theorem dTk_advance_55 : decode cTk_advance 55 = .ok (.aload_n 0, 1) := by decide +kernel
theorem dTk_advance_56 : decode cTk_advance 56 = .ok (.getfield 16, 3) := by decide +kernel
theorem dTk_advance_59 : decode cTk_advance 59 = .ok (.aload_n 0, 1) := by decide +kernel
theorem dTk_advance_60 : decode cTk_advance 60 = .ok (.getfield 49, 3) := by decide +kernel
theorem dTk_advance_63 : decode cTk_advance 63 = .ok (.iaload, 1) := by decide +kernel
theorem dTk_advance_64 : decode cTk_advance 64 = .ok (.putfield 61, 3) := by decide +kernel
theorem dTk_advance_67 : decode cTk_advance 67 = .ok (.return_, 1) := by decide +kernel
theorem dTk_take_0 : decode cTk_take 0 = .ok (.aload_n 0, 1) := by decide +kernel
theorem dTk_take_1 : decode cTk_take 1 = .ok (.getfield 55, 3) := by decide +kernel
theorem dTk_take_4 : decode cTk_take 4 = .ok (.iload_n 1, 1) := by decide +kernel
theorem dTk_take_5 : decode cTk_take 5 = .ok (.if_icmp .ne 10, 3) := by decide +kernel
theorem dTk_take_8 : decode cTk_take 8 = .ok (.aload_n 0, 1) := by decide +kernel
theorem dTk_take_9 : decode cTk_take 9 = .ok (.invokevirtual 52, 3) := by decide +kernel
theorem dTk_take_12 : decode cTk_take 12 = .ok (.goto 15, 3) := by decide +kernel
theorem dTk_take_15 : decode cTk_take 15 = .ok (.aload_n 0, 1) := by decide +kernel
theorem dTk_take_16 : decode cTk_take 16 = .ok (.aload_n 0, 1) := by decide +kernel
theorem dTk_take_17 : decode cTk_take 17 = .ok (.invokevirtual 64, 3) := by decide +kernel
theorem dTk_take_20 : decode cTk_take 20 = .ok (.aload_n 0, 1) := by decide +kernel
theorem dTk_take_21 : decode cTk_take 21 = .ok (.getfield 58, 3) := by decide +kernel
theorem dTk_take_24 : decode cTk_take 24 = .ok (.invokevirtual 68, 3) := by decide +kernel
theorem dTk_take_27 : decode cTk_take 27 = .ok (.return_, 1) := by decide +kernel
theorem dTk_misfit_0 : decode cTk_misfit 0 = .ok (.aload_n 0, 1) := by decide +kernel
theorem dTk_misfit_1 : decode cTk_misfit 1 = .ok (.getfield 55, 3) := by decide +kernel
theorem dTk_misfit_4 : decode cTk_misfit 4 = .ok (.bipush 47, 2) := by decide +kernel
theorem dTk_misfit_6 : decode cTk_misfit 6 = .ok (.if_icmp .ne 7, 3) := by decide +kernel
theorem dTk_misfit_9 : decode cTk_misfit 9 = .ok (.iconst 4, 1) := by decide +kernel
theorem dTk_misfit_10 : decode cTk_misfit 10 = .ok (.goto 4, 3) := by decide +kernel
theorem dTk_misfit_13 : decode cTk_misfit 13 = .ok (.iconst 1, 1) := by decide +kernel
theorem dTk_misfit_14 : decode cTk_misfit 14 = .ok (.ireturn, 1) := by decide +kernel
theorem dTk_fail_0 : decode cTk_fail 0 = .ok (.aload_n 0, 1) := by decide +kernel
theorem dTk_fail_1 : decode cTk_fail 1 = .ok (.getfield 36, 3) := by decide +kernel
theorem dTk_fail_4 : decode cTk_fail 4 = .ok (.ifCond .ne 13, 3) := by decide +kernel
theorem dTk_fail_7 : decode cTk_fail 7 = .ok (.aload_n 0, 1) := by decide +kernel
theorem dTk_fail_8 : decode cTk_fail 8 = .ok (.iload_n 1, 1) := by decide +kernel
theorem dTk_fail_9 : decode cTk_fail 9 = .ok (.putfield 36, 3) := by decide +kernel
theorem dTk_fail_12 : decode cTk_fail 12 = .ok (.aload_n 0, 1) := by decide +kernel
theorem dTk_fail_13 : decode cTk_fail 13 = .ok (.iload_n 2, 1) := by decide +kernel
theorem dTk_fail_14 : decode cTk_fail 14 = .ok (.putfield 39, 3) := by decide +kernel
theorem dTk_fail_17 : decode cTk_fail 17 = .ok (.aload_n 0, 1) := by decide +kernel
theorem dTk_fail_18 : decode cTk_fail 18 = .ok (.iconst 0, 1) := by decide +kernel
theorem dTk_fail_19 : decode cTk_fail 19 = .ok (.putfield 55, 3) := by decide +kernel
theorem dTk_fail_22 : decode cTk_fail 22 = .ok (.return_, 1) := by decide +kernel
theorem dTk_takeNumber_0 : decode cTk_takeNumber 0 = .ok (.aload_n 0, 1) := by decide +kernel
theorem dTk_takeNumber_1 : decode cTk_takeNumber 1 = .ok (.getfield 61, 3) := by decide +kernel
theorem dTk_takeNumber_4 : decode cTk_takeNumber 4 = .ok (.istore_n 3, 1) := by decide +kernel
theorem dTk_takeNumber_5 : decode cTk_takeNumber 5 = .ok (.aload_n 0, 1) := by decide +kernel
theorem dTk_takeNumber_6 : decode cTk_takeNumber 6 = .ok (.getfield 55, 3) := by decide +kernel
theorem dTk_takeNumber_9 : decode cTk_takeNumber 9 = .ok (.iconst 4, 1) := by decide +kernel
theorem dTk_takeNumber_10 : decode cTk_takeNumber 10 = .ok (.if_icmp .eq 18, 3) := by decide +kernel
theorem dTk_takeNumber_13 : decode cTk_takeNumber 13 = .ok (.aload_n 0, 1) := by decide +kernel
theorem dTk_takeNumber_14 : decode cTk_takeNumber 14 = .ok (.aload_n 0, 1) := by decide +kernel
theorem dTk_takeNumber_15 : decode cTk_takeNumber 15 = .ok (.invokevirtual 64, 3) := by decide +kernel
theorem dTk_takeNumber_18 : decode cTk_takeNumber 18 = .ok (.aload_n 0, 1) := by decide +kernel
theorem dTk_takeNumber_19 : decode cTk_takeNumber 19 = .ok (.getfield 58, 3) := by decide +kernel
theorem dTk_takeNumber_22 : decode cTk_takeNumber 22 = .ok (.invokevirtual 68, 3) := by decide +kernel
theorem dTk_takeNumber_25 : decode cTk_takeNumber 25 = .ok (.goto 31, 3) := by decide +kernel
theorem dTk_takeNumber_28 : decode cTk_takeNumber 28 = .ok (.iload_n 3, 1) := by decide +kernel
theorem dTk_takeNumber_29 : decode cTk_takeNumber 29 = .ok (.iload_n 1, 1) := by decide +kernel
theorem dTk_takeNumber_30 : decode cTk_takeNumber 30 = .ok (.if_icmp .lt 8, 3) := by decide +kernel
theorem dTk_takeNumber_33 : decode cTk_takeNumber 33 = .ok (.iload_n 3, 1) := by decide +kernel
theorem dTk_takeNumber_34 : decode cTk_takeNumber 34 = .ok (.iload_n 2, 1) := by decide +kernel
theorem dTk_takeNumber_35 : decode cTk_takeNumber 35 = .ok (.if_icmp .le 15, 3) := by decide +kernel
theorem dTk_takeNumber_38 : decode cTk_takeNumber 38 = .ok (.aload_n 0, 1) := by decide +kernel
theorem dTk_takeNumber_39 : decode cTk_takeNumber 39 = .ok (.iconst 3, 1) := by decide +kernel
theorem dTk_takeNumber_40 : decode cTk_takeNumber 40 = .ok (.aload_n 0, 1) := by decide +kernel
theorem dTk_takeNumber_41 : decode cTk_takeNumber 41 = .ok (.getfield 58, 3) := by decide +kernel
theorem dTk_takeNumber_44 : decode cTk_takeNumber 44 = .ok (.invokevirtual 68, 3) := by decide +kernel
theorem dTk_takeNumber_47 : decode cTk_takeNumber 47 = .ok (.goto 9, 3) := by decide +kernel
theorem dTk_takeNumber_50 : decode cTk_takeNumber 50 = .ok (.aload_n 0, 1) := by decide +kernel
theorem dTk_takeNumber_51 : decode cTk_takeNumber 51 = .ok (.invokevirtual 52, 3) := by decide +kernel
theorem dTk_takeNumber_54 : decode cTk_takeNumber 54 = .ok (.iload_n 3, 1) := by decide +kernel
theorem dTk_takeNumber_55 : decode cTk_takeNumber 55 = .ok (.ireturn, 1) := by decide +kernel
theorem dTk_takeNumber_56 : decode cTk_takeNumber 56 = .ok (.iload_n 1, 1) := by decide +kernel
theorem dTk_takeNumber_57 : decode cTk_takeNumber 57 = .ok (.ireturn, 1) := by decide +kernel
theorem dPa_declarations_0 : decode cPa_declarations 0 = .ok (.iconst 0, 1) := by decide +kernel
theorem dPa_declarations_1 : decode cPa_declarations 1 = .ok (.istore_n 1, 1) := by decide +kernel
theorem dPa_declarations_2 : decode cPa_declarations 2 = .ok (.iload_n 1, 1) := by decide +kernel
theorem dPa_declarations_3 : decode cPa_declarations 3 = .ok (.sipush 8000, 3) := by decide +kernel
theorem dPa_declarations_6 : decode cPa_declarations 6 = .ok (.if_icmp .ge 48, 3) := by decide +kernel
theorem dPa_declarations_9 : decode cPa_declarations 9 = .ok (.aload_n 0, 1) := by decide +kernel
theorem dPa_declarations_10 : decode cPa_declarations 10 = .ok (.getfield 25, 3) := by decide +kernel
theorem dPa_declarations_13 : decode cPa_declarations 13 = .ok (.getfield 78, 3) := by decide +kernel
theorem dPa_declarations_16 : decode cPa_declarations 16 = .ok (.bipush 6, 2) := by decide +kernel
theorem dPa_declarations_18 : decode cPa_declarations 18 = .ok (.if_icmp .ne 10, 3) := by decide +kernel
theorem dPa_declarations_21 : decode cPa_declarations 21 = .ok (.aload_n 0, 1) := by decide +kernel
theorem dPa_declarations_22 : decode cPa_declarations 22 = .ok (.invokevirtual 99, 3) := by decide +kernel
theorem dPa_declarations_25 : decode cPa_declarations 25 = .ok (.goto 23, 3) := by decide +kernel
theorem dPa_declarations_28 : decode cPa_declarations 28 = .ok (.aload_n 0, 1) := by decide +kernel
theorem dPa_declarations_29 : decode cPa_declarations 29 = .ok (.getfield 25, 3) := by decide +kernel
theorem dPa_declarations_32 : decode cPa_declarations 32 = .ok (.getfield 78, 3) := by decide +kernel
theorem dPa_declarations_35 : decode cPa_declarations 35 = .ok (.bipush 7, 2) := by decide +kernel
theorem dPa_declarations_37 : decode cPa_declarations 37 = .ok (.if_icmp .ne 10, 3) := by decide +kernel
theorem dPa_declarations_40 : decode cPa_declarations 40 = .ok (.aload_n 0, 1) := by decide +kernel
theorem dPa_declarations_41 : decode cPa_declarations 41 = .ok (.invokevirtual 102, 3) := by decide +kernel
theorem dPa_declarations_44 : decode cPa_declarations 44 = .ok (.goto 4, 3) := by decide +kernel
theorem dPa_declarations_47 : decode cPa_declarations 47 = .ok (.return_, 1) := by decide +kernel
theorem dPa_declarations_48 : decode cPa_declarations 48 = .ok (.iinc 1 1, 3) := by decide +kernel
theorem dPa_declarations_51 : decode cPa_declarations 51 = .ok (.goto (-49), 3) := by decide +kernel
theorem dPa_declarations_54 : decode cPa_declarations 54 = .ok (.return_, 1) := by decide +kernel
theorem dPa_statements_0 : decode cPa_statements 0 = .ok (.aload_n 0, 1) := by decide +kernel
theorem dPa_statements_1 : decode cPa_statements 1 = .ok (.getfield 25, 3) := by decide +kernel
theorem dPa_statements_4 : decode cPa_statements 4 = .ok (.getfield 78, 3) := by decide +kernel
theorem dPa_statements_7 : decode cPa_statements 7 = .ok (.bipush 25, 2) := by decide +kernel
theorem dPa_statements_9 : decode cPa_statements 9 = .ok (.if_icmp .eq 14, 3) := by decide +kernel
theorem dPa_statements_12 : decode cPa_statements 12 = .ok (.aload_n 0, 1) := by decide +kernel
theorem dPa_statements_13 : decode cPa_statements 13 = .ok (.getfield 25, 3) := by decide +kernel
theorem dPa_statements_16 : decode cPa_statements 16 = .ok (.iload_n 1, 1) := by decide +kernel
theorem dPa_statements_17 : decode cPa_statements 17 = .ok (.invokevirtual 140, 3) := by decide +kernel
theorem dPa_statements_20 : decode cPa_statements 20 = .ok (.ifCond .eq 5, 3) := by decide +kernel
theorem dPa_statements_23 : decode cPa_statements 23 = .ok (.iconst (-1), 1) := by decide +kernel
theorem dPa_statements_24 : decode cPa_statements 24 = .ok (.ireturn, 1) := by decide +kernel
theorem dPa_statements_25 : decode cPa_statements 25 = .ok (.iconst (-1), 1) := by decide +kernel
theorem dPa_statements_26 : decode cPa_statements 26 = .ok (.istore_n 2, 1) := by decide +kernel
theorem dPa_statements_27 : decode cPa_statements 27 = .ok (.iconst (-1), 1) := by decide +kernel
theorem dPa_statements_28 : decode cPa_statements 28 = .ok (.istore_n 3, 1) := by decide +kernel
theorem dPa_statements_29 : decode cPa_statements 29 = .ok (.iconst 0, 1) := by decide +kernel
theorem dPa_statements_30 : decode cPa_statements 30 = .ok (.istore 4, 2) := by decide +kernel
theorem dPa_statements_32 : decode cPa_statements 32 = .ok (.iload 4, 2) := by decide +kernel
theorem dPa_statements_34 : decode cPa_statements 34 = .ok (.sipush 8000, 3) := by decide +kernel
theorem dPa_statements_37 : decode cPa_statements 37 = .ok (.if_icmp .ge 45, 3) := by decide +kernel
theorem dPa_statements_40 : decode cPa_statements 40 = .ok (.aload_n 0, 1) := by decide +kernel
theorem dPa_statements_41 : decode cPa_statements 41 = .ok (.invokevirtual 144, 3) := by decide +kernel
theorem dPa_statements_44 : decode cPa_statements 44 = .ok (.ifCond .eq 38, 3) := by decide +kernel
theorem dPa_statements_47 : decode cPa_statements 47 = .ok (.aload_n 0, 1) := by decide +kernel
theorem dPa_statements_48 : decode cPa_statements 48 = .ok (.iload_n 1, 1) := by decide +kernel
theorem dPa_statements_49 : decode cPa_statements 49 = .ok (.invokevirtual 148, 3) := by decide +kernel
theorem dPa_statements_52 : decode cPa_statements 52 = .ok (.istore 5, 2) := by decide +kernel
theorem dPa_statements_54 : decode cPa_statements 54 = .ok (.iload_n 2, 1) := by decide +kernel
theorem dPa_statements_55 : decode cPa_statements 55 = .ok (.ifCond .ge 6, 3) := by decide +kernel
theorem dPa_statements_58 : decode cPa_statements 58 = .ok (.iload 5, 2) := by decide +kernel
theorem dPa_statements_60 : decode cPa_statements 60 = .ok (.istore_n 2, 1) := by decide +kernel
theorem dPa_statements_61 : decode cPa_statements 61 = .ok (.aload_n 0, 1) := by decide +kernel
theorem dPa_statements_62 : decode cPa_statements 62 = .ok (.getfield 16, 3) := by decide +kernel
theorem dPa_statements_65 : decode cPa_statements 65 = .ok (.iload_n 3, 1) := by decide +kernel
theorem dPa_statements_66 : decode cPa_statements 66 = .ok (.bipush 9, 2) := by decide +kernel
theorem dPa_statements_68 : decode cPa_statements 68 = .ok (.iload 5, 2) := by decide +kernel
theorem dPa_statements_70 : decode cPa_statements 70 = .ok (.invokevirtual 151, 3) := by decide +kernel
theorem dPa_statements_73 : decode cPa_statements 73 = .ok (.iload 5, 2) := by decide +kernel
theorem dPa_statements_75 : decode cPa_statements 75 = .ok (.istore_n 3, 1) := by decide +kernel
theorem dPa_statements_76 : decode cPa_statements 76 = .ok (.iinc 4 1, 3) := by decide +kernel
theorem dPa_statements_79 : decode cPa_statements 79 = .ok (.goto (-47), 3) := by decide +kernel
theorem dPa_statements_82 : decode cPa_statements 82 = .ok (.iload_n 2, 1) := by decide +kernel
theorem dPa_statements_83 : decode cPa_statements 83 = .ok (.ireturn, 1) := by decide +kernel
theorem dTk_tooDeep_0 : decode cTk_tooDeep 0 = .ok (.iload_n 1, 1) := by decide +kernel
theorem dTk_tooDeep_1 : decode cTk_tooDeep 1 = .ok (.bipush 50, 2) := by decide +kernel
theorem dTk_tooDeep_3 : decode cTk_tooDeep 3 = .ok (.if_icmp .le 12, 3) := by decide +kernel
theorem dTk_tooDeep_6 : decode cTk_tooDeep 6 = .ok (.aload_n 0, 1) := by decide +kernel
theorem dTk_tooDeep_7 : decode cTk_tooDeep 7 = .ok (.iconst 4, 1) := by decide +kernel
theorem dTk_tooDeep_8 : decode cTk_tooDeep 8 = .ok (.aload_n 0, 1) := by decide +kernel
theorem dTk_tooDeep_9 : decode cTk_tooDeep 9 = .ok (.getfield 58, 3) := by decide +kernel
theorem dTk_tooDeep_12 : decode cTk_tooDeep 12 = .ok (.invokevirtual 68, 3) := by decide +kernel
theorem dTk_tooDeep_15 : decode cTk_tooDeep 15 = .ok (.iload_n 1, 1) := by decide +kernel
theorem dTk_tooDeep_16 : decode cTk_tooDeep 16 = .ok (.bipush 50, 2) := by decide +kernel
theorem dTk_tooDeep_18 : decode cTk_tooDeep 18 = .ok (.if_icmp .le 7, 3) := by decide +kernel
theorem dTk_tooDeep_21 : decode cTk_tooDeep 21 = .ok (.iconst 1, 1) := by decide +kernel
theorem dTk_tooDeep_22 : decode cTk_tooDeep 22 = .ok (.goto 4, 3) := by decide +kernel
theorem dTk_tooDeep_25 : decode cTk_tooDeep 25 = .ok (.iconst 0, 1) := by decide +kernel
theorem dTk_tooDeep_26 : decode cTk_tooDeep 26 = .ok (.ireturn, 1) := by decide +kernel
theorem dPa_goesOn_0 : decode cPa_goesOn 0 = .ok (.aload_n 0, 1) := by decide +kernel
theorem dPa_goesOn_1 : decode cPa_goesOn 1 = .ok (.getfield 25, 3) := by decide +kernel
theorem dPa_goesOn_4 : decode cPa_goesOn 4 = .ok (.getfield 78, 3) := by decide +kernel
theorem dPa_goesOn_7 : decode cPa_goesOn 7 = .ok (.bipush 25, 2) := by decide +kernel
theorem dPa_goesOn_9 : decode cPa_goesOn 9 = .ok (.if_icmp .eq 28, 3) := by decide +kernel
theorem dPa_goesOn_12 : decode cPa_goesOn 12 = .ok (.aload_n 0, 1) := by decide +kernel
theorem dPa_goesOn_13 : decode cPa_goesOn 13 = .ok (.getfield 25, 3) := by decide +kernel
theorem dPa_goesOn_16 : decode cPa_goesOn 16 = .ok (.getfield 78, 3) := by decide +kernel
theorem dPa_goesOn_19 : decode cPa_goesOn 19 = .ok (.iconst 1, 1) := by decide +kernel
theorem dPa_goesOn_20 : decode cPa_goesOn 20 = .ok (.if_icmp .eq 17, 3) := by decide +kernel
theorem dPa_goesOn_23 : decode cPa_goesOn 23 = .ok (.aload_n 0, 1) := by decide +kernel
theorem dPa_goesOn_24 : decode cPa_goesOn 24 = .ok (.getfield 25, 3) := by decide +kernel
theorem dPa_goesOn_27 : decode cPa_goesOn 27 = .ok (.getfield 78, 3) := by decide +kernel
theorem dPa_goesOn_30 : decode cPa_goesOn 30 = .ok (.ifCond .eq 7, 3) := by decide +kernel
theorem dPa_goesOn_33 : decode cPa_goesOn 33 = .ok (.iconst 1, 1) := by decide +kernel
theorem dPa_goesOn_34 : decode cPa_goesOn 34 = .ok (.goto 4, 3) := by decide +kernel
theorem dPa_goesOn_37 : decode cPa_goesOn 37 = .ok (.iconst 0, 1) := by decide +kernel
theorem dPa_goesOn_38 : decode cPa_goesOn 38 = .ok (.ireturn, 1) := by decide +kernel
theorem dTk_refuse_0 : decode cTk_refuse 0 = .ok (.aload_n 0, 1) := by decide +kernel
theorem dTk_refuse_1 : decode cTk_refuse 1 = .ok (.aload_n 0, 1) := by decide +kernel
theorem dTk_refuse_2 : decode cTk_refuse 2 = .ok (.invokevirtual 64, 3) := by decide +kernel
theorem dTk_refuse_5 : decode cTk_refuse 5 = .ok (.aload_n 0, 1) := by decide +kernel
theorem dTk_refuse_6 : decode cTk_refuse 6 = .ok (.getfield 58, 3) := by decide +kernel
theorem dTk_refuse_9 : decode cTk_refuse 9 = .ok (.invokevirtual 68, 3) := by decide +kernel
theorem dTk_refuse_12 : decode cTk_refuse 12 = .ok (.return_, 1) := by decide +kernel
theorem dUn_begin_0 : decode cUn_begin 0 = .ok (.aload_n 0, 1) := by decide +kernel
theorem dUn_begin_1 : decode cUn_begin 1 = .ok (.getfield 44, 3) := by decide +kernel
theorem dUn_begin_4 : decode cUn_begin 4 = .ok (.invokevirtual 55, 3) := by decide +kernel
theorem dUn_begin_7 : decode cUn_begin 7 = .ok (.aload_n 0, 1) := by decide +kernel
theorem dUn_begin_8 : decode cUn_begin 8 = .ok (.getfield 51, 3) := by decide +kernel
theorem dUn_begin_11 : decode cUn_begin 11 = .ok (.aload_n 0, 1) := by decide +kernel
theorem dUn_begin_12 : decode cUn_begin 12 = .ok (.getfield 40, 3) := by decide +kernel
theorem dUn_begin_15 : decode cUn_begin 15 = .ok (.getfield 60, 3) := by decide +kernel
theorem dUn_begin_18 : decode cUn_begin 18 = .ok (.invokevirtual 64, 3) := by decide +kernel
theorem dUn_begin_21 : decode cUn_begin 21 = .ok (.aload_n 0, 1) := by decide +kernel
theorem dUn_begin_22 : decode cUn_begin 22 = .ok (.getfield 25, 3) := by decide +kernel
theorem dUn_begin_25 : decode cUn_begin 25 = .ok (.iconst 0, 1) := by decide +kernel
theorem dUn_begin_26 : decode cUn_begin 26 = .ok (.aload_n 0, 1) := by decide +kernel
theorem dUn_begin_27 : decode cUn_begin 27 = .ok (.getfield 40, 3) := by decide +kernel
theorem dUn_begin_30 : decode cUn_begin 30 = .ok (.getfield 68, 3) := by decide +kernel
theorem dUn_begin_33 : decode cUn_begin 33 = .ok (.bipush 8, 2) := by decide +kernel
theorem dUn_begin_35 : decode cUn_begin 35 = .ok (.imul, 1) := by decide +kernel
theorem dUn_begin_36 : decode cUn_begin 36 = .ok (.iconst 0, 1) := by decide +kernel
theorem dUn_begin_37 : decode cUn_begin 37 = .ok (.invokestatic 71, 3) := by decide +kernel
theorem dUn_begin_40 : decode cUn_begin 40 = .ok (.aload_n 0, 1) := by decide +kernel
theorem dUn_begin_41 : decode cUn_begin 41 = .ok (.getfield 28, 3) := by decide +kernel
theorem dUn_begin_44 : decode cUn_begin 44 = .ok (.iconst 0, 1) := by decide +kernel
theorem dUn_begin_45 : decode cUn_begin 45 = .ok (.invokestatic 77, 3) := by decide +kernel
theorem dUn_begin_48 : decode cUn_begin 48 = .ok (.aload_n 0, 1) := by decide +kernel
theorem dUn_begin_49 : decode cUn_begin 49 = .ok (.getfield 31, 3) := by decide +kernel
theorem dUn_begin_52 : decode cUn_begin 52 = .ok (.iconst 0, 1) := by decide +kernel
theorem dUn_begin_53 : decode cUn_begin 53 = .ok (.invokestatic 77, 3) := by decide +kernel
theorem dUn_begin_56 : decode cUn_begin 56 = .ok (.aload_n 0, 1) := by decide +kernel
theorem dUn_begin_57 : decode cUn_begin 57 = .ok (.iconst 1, 1) := by decide +kernel
theorem dUn_begin_58 : decode cUn_begin 58 = .ok (.putfield 80, 3) := by decide +kernel
theorem dUn_begin_61 : decode cUn_begin 61 = .ok (.aload_n 0, 1) := by decide +kernel
theorem dUn_begin_62 : decode cUn_begin 62 = .ok (.iconst 0, 1) := by decide +kernel
theorem dUn_begin_63 : decode cUn_begin 63 = .ok (.putfield 83, 3) := by decide +kernel
theorem dUn_begin_66 : decode cUn_begin 66 = .ok (.aload_n 0, 1) := by decide +kernel
theorem dUn_begin_67 : decode cUn_begin 67 = .ok (.iconst 0, 1) := by decide +kernel
theorem dUn_begin_68 : decode cUn_begin 68 = .ok (.putfield 86, 3) := by decide +kernel
theorem dUn_begin_71 : decode cUn_begin 71 = .ok (.return_, 1) := by decide +kernel
theorem dGa_clear_0 : decode cGa_clear 0 = .ok (.aload_n 0, 1) := by decide +kernel
theorem dGa_clear_1 : decode cGa_clear 1 = .ok (.getfield 31, 3) := by decide +kernel
theorem dGa_clear_4 : decode cGa_clear 4 = .ok (.iconst 0, 1) := by decide +kernel
theorem dGa_clear_5 : decode cGa_clear 5 = .ok (.invokestatic 41, 3) := by decide +kernel
theorem dGa_clear_8 : decode cGa_clear 8 = .ok (.aload_n 0, 1) := by decide +kernel
theorem dGa_clear_9 : decode cGa_clear 9 = .ok (.iconst 1, 1) := by decide +kernel
theorem dGa_clear_10 : decode cGa_clear 10 = .ok (.putfield 37, 3) := by decide +kernel
theorem dGa_clear_13 : decode cGa_clear 13 = .ok (.return_, 1) := by decide +kernel
theorem dWo_begin_0 : decode cWo_begin 0 = .ok (.aload_n 0, 1) := by decide +kernel
theorem dWo_begin_1 : decode cWo_begin 1 = .ok (.iload_n 1, 1) := by decide +kernel
theorem dWo_begin_2 : decode cWo_begin 2 = .ok (.putfield 28, 3) := by decide +kernel
theorem dWo_begin_5 : decode cWo_begin 5 = .ok (.aload_n 0, 1) := by decide +kernel
theorem dWo_begin_6 : decode cWo_begin 6 = .ok (.iconst 0, 1) := by decide +kernel
theorem dWo_begin_7 : decode cWo_begin 7 = .ok (.putfield 32, 3) := by decide +kernel
theorem dWo_begin_10 : decode cWo_begin 10 = .ok (.return_, 1) := by decide +kernel
theorem dAr_fill2_0 : decode cAr_fill2 0 = .ok (.aload_n 0, 1) := by decide +kernel
theorem dAr_fill2_1 : decode cAr_fill2 1 = .ok (.arraylength, 1) := by decide +kernel
theorem dAr_fill2_2 : decode cAr_fill2 2 = .ok (.iload_n 1, 1) := by decide +kernel
theorem dAr_fill2_3 : decode cAr_fill2 3 = .ok (.iload_n 2, 1) := by decide +kernel
theorem dAr_fill2_4 : decode cAr_fill2 4 = .ok (.invokestatic 13, 3) := by decide +kernel
theorem dAr_fill2_7 : decode cAr_fill2 7 = .ok (.iload_n 1, 1) := by decide +kernel
theorem dAr_fill2_8 : decode cAr_fill2 8 = .ok (.istore 4, 2) := by decide +kernel
theorem dAr_fill2_10 : decode cAr_fill2 10 = .ok (.iload 4, 2) := by decide +kernel
theorem dAr_fill2_12 : decode cAr_fill2 12 = .ok (.iload_n 2, 1) := by decide +kernel
theorem dAr_fill2_13 : decode cAr_fill2 13 = .ok (.if_icmp .ge 14, 3) := by decide +kernel
theorem dAr_fill2_16 : decode cAr_fill2 16 = .ok (.aload_n 0, 1) := by decide +kernel
theorem dAr_fill2_17 : decode cAr_fill2 17 = .ok (.iload 4, 2) := by decide +kernel
theorem dAr_fill2_19 : decode cAr_fill2 19 = .ok (.iload_n 3, 1) := by decide +kernel
theorem dAr_fill2_20 : decode cAr_fill2 20 = .ok (.iastore, 1) := by decide +kernel
theorem dAr_fill2_21 : decode cAr_fill2 21 = .ok (.iinc 4 1, 3) := by decide +kernel
theorem dAr_fill2_24 : decode cAr_fill2 24 = .ok (.goto (-14), 3) := by decide +kernel
theorem dAr_fill2_27 : decode cAr_fill2 27 = .ok (.return_, 1) := by decide +kernel
theorem dAr_rangeCheck_0 : decode cAr_rangeCheck 0 = .ok (.iload_n 1, 1) := by decide +kernel
theorem dAr_rangeCheck_1 : decode cAr_rangeCheck 1 = .ok (.iload_n 2, 1) := by decide +kernel
theorem dAr_rangeCheck_2 : decode cAr_rangeCheck 2 = .ok (.if_icmp .le 44, 3) := by decide +kernel
theorem dAr_rangeCheck_5 : decode cAr_rangeCheck 5 = .ok (.new 43, 3) := by decide +kernel
theorem dAr_rangeCheck_8 : decode cAr_rangeCheck 8 = .ok (.dup, 1) := by decide +kernel
theorem dAr_rangeCheck_9 : decode cAr_rangeCheck 9 = .ok (.new 45, 3) := by decide +kernel
theorem dAr_rangeCheck_12 : decode cAr_rangeCheck 12 = .ok (.dup, 1) := by decide +kernel
theorem dAr_rangeCheck_13 : decode cAr_rangeCheck 13 = .ok (.invokespecial 47, 3) := by decide +kernel
theorem dAr_rangeCheck_16 : decode cAr_rangeCheck 16 = .ok (.ldc 48, 2) := by decide +kernel
theorem dAr_rangeCheck_18 : decode cAr_rangeCheck 18 = .ok (.invokevirtual 50, 3) := by decide +kernel
theorem dAr_rangeCheck_21 : decode cAr_rangeCheck 21 = .ok (.iload_n 1, 1) := by decide +kernel
theorem dAr_rangeCheck_22 : decode cAr_rangeCheck 22 = .ok (.invokevirtual 54, 3) := by decide +kernel
theorem dAr_rangeCheck_25 : decode cAr_rangeCheck 25 = .ok (.ldc 57, 2) := by decide +kernel
theorem dAr_rangeCheck_27 : decode cAr_rangeCheck 27 = .ok (.invokevirtual 50, 3) := by decide +kernel
theorem dAr_rangeCheck_30 : decode cAr_rangeCheck 30 = .ok (.iload_n 2, 1) := by decide +kernel
theorem dAr_rangeCheck_31 : decode cAr_rangeCheck 31 = .ok (.invokevirtual 54, 3) := by decide +kernel
theorem dAr_rangeCheck_34 : decode cAr_rangeCheck 34 = .ok (.ldc 59, 2) := by decide +kernel
theorem dAr_rangeCheck_36 : decode cAr_rangeCheck 36 = .ok (.invokevirtual 50, 3) := by decide +kernel
theorem dAr_rangeCheck_39 : decode cAr_rangeCheck 39 = .ok (.invokevirtual 61, 3) := by decide +kernel
theorem dAr_rangeCheck_42 : decode cAr_rangeCheck 42 = .ok (.invokespecial 65, 3) := by decide +kernel
theorem dAr_rangeCheck_45 : decode cAr_rangeCheck 45 = .ok (.athrow, 1) := by decide +kernel
theorem dAr_rangeCheck_46 : decode cAr_rangeCheck 46 = .ok (.iload_n 1, 1) := by decide +kernel
theorem dAr_rangeCheck_47 : decode cAr_rangeCheck 47 = .ok (.ifCond .ge 12, 3) := by decide +kernel
theorem dAr_rangeCheck_50 : decode cAr_rangeCheck 50 = .ok (.new 68, 3) := by decide +kernel
theorem dAr_rangeCheck_53 : decode cAr_rangeCheck 53 = .ok (.dup, 1) := by decide +kernel
theorem dAr_rangeCheck_54 : decode cAr_rangeCheck 54 = .ok (.iload_n 1, 1) := by decide +kernel
theorem dAr_rangeCheck_55 : decode cAr_rangeCheck 55 = .ok (.invokespecial 70, 3) := by decide +kernel
theorem dAr_rangeCheck_58 : decode cAr_rangeCheck 58 = .ok (.athrow, 1) := by decide +kernel
theorem dAr_rangeCheck_59 : decode cAr_rangeCheck 59 = .ok (.iload_n 2, 1) := by decide +kernel
theorem dAr_rangeCheck_60 : decode cAr_rangeCheck 60 = .ok (.iload_n 0, 1) := by decide +kernel
theorem dAr_rangeCheck_61 : decode cAr_rangeCheck 61 = .ok (.if_icmp .le 12, 3) := by decide +kernel
theorem dAr_rangeCheck_64 : decode cAr_rangeCheck 64 = .ok (.new 68, 3) := by decide +kernel
theorem dAr_rangeCheck_67 : decode cAr_rangeCheck 67 = .ok (.dup, 1) := by decide +kernel
theorem dAr_rangeCheck_68 : decode cAr_rangeCheck 68 = .ok (.iload_n 2, 1) := by decide +kernel
theorem dAr_rangeCheck_69 : decode cAr_rangeCheck 69 = .ok (.invokespecial 70, 3) := by decide +kernel
theorem dAr_rangeCheck_72 : decode cAr_rangeCheck 72 = .ok (.athrow, 1) := by decide +kernel
theorem dAr_rangeCheck_73 : decode cAr_rangeCheck 73 = .ok (.return_, 1) := by decide +kernel
theorem dUn_walk_0 : decode cUn_walk 0 = .ok (.iload_n 2, 1) := by decide +kernel
theorem dUn_walk_1 : decode cUn_walk 1 = .ok (.bipush 50, 2) := by decide +kernel
theorem dUn_walk_3 : decode cUn_walk 3 = .ok (.if_icmp .le 7, 3) := by decide +kernel
theorem dUn_walk_6 : decode cUn_walk 6 = .ok (.iconst (-1), 1) := by decide +kernel
theorem dUn_walk_7 : decode cUn_walk 7 = .ok (.goto 4, 3) := by decide +kernel
theorem dUn_walk_10 : decode cUn_walk 10 = .ok (.iload_n 1, 1) := by decide +kernel
theorem dUn_walk_11 : decode cUn_walk 11 = .ok (.istore_n 3, 1) := by decide +kernel
theorem dUn_walk_12 : decode cUn_walk 12 = .ok (.iconst 0, 1) := by decide +kernel
theorem dUn_walk_13 : decode cUn_walk 13 = .ok (.istore 4, 2) := by decide +kernel
theorem dUn_walk_15 : decode cUn_walk 15 = .ok (.iload_n 3, 1) := by decide +kernel
theorem dUn_walk_16 : decode cUn_walk 16 = .ok (.ifCond .lt 99, 3) := by decide +kernel
theorem dUn_walk_19 : decode cUn_walk 19 = .ok (.iload 4, 2) := by decide +kernel
theorem dUn_walk_21 : decode cUn_walk 21 = .ok (.sipush 2700, 3) := by decide +kernel
theorem dUn_walk_24 : decode cUn_walk 24 = .ok (.if_icmp .ge 91, 3) := by decide +kernel
theorem dUn_walk_27 : decode cUn_walk 27 = .ok (.aload_n 0, 1) := by decide +kernel
theorem dUn_walk_28 : decode cUn_walk 28 = .ok (.getfield 40, 3) := by decide +kernel
theorem dUn_walk_31 : decode cUn_walk 31 = .ok (.iload_n 3, 1) := by decide +kernel
theorem dUn_walk_32 : decode cUn_walk 32 = .ok (.iconst 0, 1) := by decide +kernel
theorem dUn_walk_33 : decode cUn_walk 33 = .ok (.invokevirtual 91, 3) := by decide +kernel
theorem dUn_walk_36 : decode cUn_walk 36 = .ok (.bipush 7, 2) := by decide +kernel
theorem dUn_walk_38 : decode cUn_walk 38 = .ok (.if_icmp .ne 12, 3) := by decide +kernel
theorem dUn_walk_41 : decode cUn_walk 41 = .ok (.aload_n 0, 1) := by decide +kernel
theorem dUn_walk_42 : decode cUn_walk 42 = .ok (.iload_n 3, 1) := by decide +kernel
theorem dUn_walk_43 : decode cUn_walk 43 = .ok (.iload_n 2, 1) := by decide +kernel
theorem dUn_walk_44 : decode cUn_walk 44 = .ok (.invokevirtual 95, 3) := by decide +kernel
theorem dUn_walk_47 : decode cUn_walk 47 = .ok (.goto 51, 3) := by decide +kernel
theorem dUn_walk_50 : decode cUn_walk 50 = .ok (.aload_n 0, 1) := by decide +kernel
theorem dUn_walk_51 : decode cUn_walk 51 = .ok (.getfield 40, 3) := by decide +kernel
theorem dUn_walk_54 : decode cUn_walk 54 = .ok (.iload_n 3, 1) := by decide +kernel
theorem dUn_walk_55 : decode cUn_walk 55 = .ok (.iconst 5, 1) := by decide +kernel
theorem dUn_walk_56 : decode cUn_walk 56 = .ok (.invokevirtual 91, 3) := by decide +kernel
theorem dUn_walk_59 : decode cUn_walk 59 = .ok (.istore 5, 2) := by decide +kernel
theorem dUn_walk_61 : decode cUn_walk 61 = .ok (.aload_n 0, 1) := by decide +kernel
theorem dUn_walk_62 : decode cUn_walk 62 = .ok (.aload_n 0, 1) := by decide +kernel
theorem dUn_walk_63 : decode cUn_walk 63 = .ok (.getfield 40, 3) := by decide +kernel
theorem dUn_walk_66 : decode cUn_walk 66 = .ok (.iload_n 3, 1) := by decide +kernel
theorem dUn_walk_67 : decode cUn_walk 67 = .ok (.iconst 4, 1) := by decide +kernel
theorem dUn_walk_68 : decode cUn_walk 68 = .ok (.invokevirtual 91, 3) := by decide +kernel
theorem dUn_walk_71 : decode cUn_walk 71 = .ok (.iload 5, 2) := by decide +kernel
theorem dUn_walk_73 : decode cUn_walk 73 = .ok (.invokevirtual 99, 3) := by decide +kernel
theorem dUn_walk_76 : decode cUn_walk 76 = .ok (.aload_n 0, 1) := by decide +kernel
theorem dUn_walk_77 : decode cUn_walk 77 = .ok (.iload 5, 2) := by decide +kernel
theorem dUn_walk_79 : decode cUn_walk 79 = .ok (.aload_n 0, 1) := by decide +kernel
theorem dUn_walk_80 : decode cUn_walk 80 = .ok (.getfield 40, 3) := by decide +kernel
theorem dUn_walk_83 : decode cUn_walk 83 = .ok (.iload_n 3, 1) := by decide +kernel
theorem dUn_walk_84 : decode cUn_walk 84 = .ok (.bipush 6, 2) := by decide +kernel
theorem dUn_walk_86 : decode cUn_walk 86 = .ok (.invokevirtual 91, 3) := by decide +kernel
theorem dUn_walk_89 : decode cUn_walk 89 = .ok (.invokevirtual 99, 3) := by decide +kernel
theorem dUn_walk_92 : decode cUn_walk 92 = .ok (.aload_n 0, 1) := by decide +kernel
theorem dUn_walk_93 : decode cUn_walk 93 = .ok (.iload_n 3, 1) := by decide +kernel
theorem dUn_walk_94 : decode cUn_walk 94 = .ok (.iload_n 2, 1) := by decide +kernel
theorem dUn_walk_95 : decode cUn_walk 95 = .ok (.invokevirtual 102, 3) := by decide +kernel
theorem dUn_walk_98 : decode cUn_walk 98 = .ok (.aload_n 0, 1) := by decide +kernel
theorem dUn_walk_99 : decode cUn_walk 99 = .ok (.getfield 40, 3) := by decide +kernel
theorem dUn_walk_102 : decode cUn_walk 102 = .ok (.iload_n 3, 1) := by decide +kernel
theorem dUn_walk_103 : decode cUn_walk 103 = .ok (.bipush 9, 2) := by decide +kernel
theorem dUn_walk_105 : decode cUn_walk 105 = .ok (.invokevirtual 91, 3) := by decide +kernel
theorem dUn_walk_108 : decode cUn_walk 108 = .ok (.istore_n 3, 1) := by decide +kernel
theorem dUn_walk_109 : decode cUn_walk 109 = .ok (.iinc 4 1, 3) := by decide +kernel
theorem dUn_walk_112 : decode cUn_walk 112 = .ok (.goto (-97), 3) := by decide +kernel
theorem dUn_walk_115 : decode cUn_walk 115 = .ok (.return_, 1) := by decide +kernel
theorem dRp_prove_0 : decode cRp_prove 0 = .ok (.aload_n 0, 1) := by decide +kernel
theorem dRp_prove_1 : decode cRp_prove 1 = .ok (.getfield 125, 3) := by decide +kernel
theorem dRp_prove_4 : decode cRp_prove 4 = .ok (.ifCond .ne 5, 3) := by decide +kernel
theorem dRp_prove_7 : decode cRp_prove 7 = .ok (.iconst (-1), 1) := by decide +kernel
theorem dRp_prove_8 : decode cRp_prove 8 = .ok (.ireturn, 1) := by decide +kernel
theorem dRp_prove_9 : decode cRp_prove 9 = .ok (.aload_n 0, 1) := by decide +kernel
theorem dRp_prove_10 : decode cRp_prove 10 = .ok (.iconst 0, 1) := by decide +kernel
theorem dRp_prove_11 : decode cRp_prove 11 = .ok (.putfield 145, 3) := by decide +kernel
theorem dRp_prove_14 : decode cRp_prove 14 = .ok (.iconst 0, 1) := by decide +kernel
theorem dRp_prove_15 : decode cRp_prove 15 = .ok (.istore_n 1, 1) := by decide +kernel
theorem dRp_prove_16 : decode cRp_prove 16 = .ok (.iload_n 1, 1) := by decide +kernel
theorem dRp_prove_17 : decode cRp_prove 17 = .ok (.aload_n 0, 1) := by decide +kernel
theorem dRp_prove_18 : decode cRp_prove 18 = .ok (.getfield 17, 3) := by decide +kernel
theorem dRp_prove_21 : decode cRp_prove 21 = .ok (.getfield 142, 3) := by decide +kernel
theorem dRp_prove_24 : decode cRp_prove 24 = .ok (.if_icmp .ge 22, 3) := by decide +kernel
theorem dRp_prove_27 : decode cRp_prove 27 = .ok (.aload_n 0, 1) := by decide +kernel
theorem dRp_prove_28 : decode cRp_prove 28 = .ok (.aload_n 0, 1) := by decide +kernel
theorem dRp_prove_29 : decode cRp_prove 29 = .ok (.getfield 42, 3) := by decide +kernel
theorem dRp_prove_32 : decode cRp_prove 32 = .ok (.getfield 148, 3) := by decide +kernel
theorem dRp_prove_35 : decode cRp_prove 35 = .ok (.iload_n 1, 1) := by decide +kernel
theorem dRp_prove_36 : decode cRp_prove 36 = .ok (.iaload, 1) := by decide +kernel
theorem dRp_prove_37 : decode cRp_prove 37 = .ok (.invokevirtual 151, 3) := by decide +kernel
theorem dRp_prove_40 : decode cRp_prove 40 = .ok (.iinc 1 1, 3) := by decide +kernel
theorem dRp_prove_43 : decode cRp_prove 43 = .ok (.goto (-27), 3) := by decide +kernel
theorem dRp_prove_46 : decode cRp_prove 46 = .ok (.aload_n 0, 1) := by decide +kernel
theorem dRp_prove_47 : decode cRp_prove 47 = .ok (.iconst 0, 1) := by decide +kernel
theorem dRp_prove_48 : decode cRp_prove 48 = .ok (.invokevirtual 154, 3) := by decide +kernel
theorem dRp_prove_51 : decode cRp_prove 51 = .ok (.ifCond .eq 10, 3) := by decide +kernel
theorem dRp_prove_54 : decode cRp_prove 54 = .ok (.aload_n 0, 1) := by decide +kernel
theorem dRp_prove_55 : decode cRp_prove 55 = .ok (.invokevirtual 158, 3) := by decide +kernel
theorem dRp_prove_58 : decode cRp_prove 58 = .ok (.goto 4, 3) := by decide +kernel
theorem dRp_prove_61 : decode cRp_prove 61 = .ok (.iconst (-1), 1) := by decide +kernel
theorem dRp_prove_62 : decode cRp_prove 62 = .ok (.ireturn, 1) := by decide +kernel
theorem dRp_run_0 : decode cRp_run 0 = .ok (.aload_n 0, 1) := by decide +kernel
theorem dRp_run_1 : decode cRp_run 1 = .ok (.getfield 125, 3) := by decide +kernel
theorem dRp_run_4 : decode cRp_run 4 = .ok (.ifCond .ne 6, 3) := by decide +kernel
theorem dRp_run_7 : decode cRp_run 7 = .ok (.bipush (-3), 2) := by decide +kernel
theorem dRp_run_9 : decode cRp_run 9 = .ok (.ireturn, 1) := by decide +kernel
theorem dRp_run_10 : decode cRp_run 10 = .ok (.aload_n 0, 1) := by decide +kernel
theorem dRp_run_11 : decode cRp_run 11 = .ok (.invokevirtual 158, 3) := by decide +kernel
theorem dRp_run_14 : decode cRp_run 14 = .ok (.istore_n 1, 1) := by decide +kernel
theorem dRp_run_15 : decode cRp_run 15 = .ok (.iload_n 1, 1) := by decide +kernel
theorem dRp_run_16 : decode cRp_run 16 = .ok (.ifCond .lt 5, 3) := by decide +kernel
theorem dRp_run_19 : decode cRp_run 19 = .ok (.iload_n 1, 1) := by decide +kernel
theorem dRp_run_20 : decode cRp_run 20 = .ok (.ireturn, 1) := by decide +kernel
theorem dRp_run_21 : decode cRp_run 21 = .ok (.aload_n 0, 1) := by decide +kernel
theorem dRp_run_22 : decode cRp_run 22 = .ok (.getfield 33, 3) := by decide +kernel
theorem dRp_run_25 : decode cRp_run 25 = .ok (.aload_n 0, 1) := by decide +kernel
theorem dRp_run_26 : decode cRp_run 26 = .ok (.getfield 42, 3) := by decide +kernel
theorem dRp_run_29 : decode cRp_run 29 = .ok (.getfield 179, 3) := by decide +kernel
theorem dRp_run_32 : decode cRp_run 32 = .ok (.invokevirtual 208, 3) := by decide +kernel
theorem dRp_run_35 : decode cRp_run 35 = .ok (.ifCond .eq 7, 3) := by decide +kernel
theorem dRp_run_38 : decode cRp_run 38 = .ok (.iconst (-1), 1) := by decide +kernel
theorem dRp_run_39 : decode cRp_run 39 = .ok (.goto 5, 3) := by decide +kernel
theorem dRp_run_42 : decode cRp_run 42 = .ok (.bipush (-2), 2) := by decide +kernel
theorem dRp_run_44 : decode cRp_run 44 = .ok (.ireturn, 1) := by decide +kernel
theorem dRp_doubts_0 : decode cRp_doubts 0 = .ok (.aload_n 0, 1) := by decide +kernel
theorem dRp_doubts_1 : decode cRp_doubts 1 = .ok (.getfield 105, 3) := by decide +kernel
theorem dRp_doubts_4 : decode cRp_doubts 4 = .ok (.ireturn, 1) := by decide +kernel
theorem dRp_feed_0 : decode cRp_feed 0 = .ok (.aload_n 0, 1) := by decide +kernel
theorem dRp_feed_1 : decode cRp_feed 1 = .ok (.getfield 78, 3) := by decide +kernel
theorem dRp_feed_4 : decode cRp_feed 4 = .ok (.ldc 82, 2) := by decide +kernel
theorem dRp_feed_6 : decode cRp_feed 6 = .ok (.if_icmp .le 13, 3) := by decide +kernel
theorem dRp_feed_9 : decode cRp_feed 9 = .ok (.new 83, 3) := by decide +kernel
theorem dRp_feed_12 : decode cRp_feed 12 = .ok (.dup, 1) := by decide +kernel
theorem dRp_feed_13 : decode cRp_feed 13 = .ok (.ldc 85, 2) := by decide +kernel
theorem dRp_feed_15 : decode cRp_feed 15 = .ok (.invokespecial 87, 3) := by decide +kernel
theorem dRp_feed_18 : decode cRp_feed 18 = .ok (.athrow, 1) := by decide +kernel
theorem dRp_feed_19 : decode cRp_feed 19 = .ok (.aload_n 0, 1) := by decide +kernel
theorem dRp_feed_20 : decode cRp_feed 20 = .ok (.iload_n 1, 1) := by decide +kernel
theorem dRp_feed_21 : decode cRp_feed 21 = .ok (.invokevirtual 90, 3) := by decide +kernel
theorem dRp_feed_24 : decode cRp_feed 24 = .ok (.aload_n 0, 1) := by decide +kernel
theorem dRp_feed_25 : decode cRp_feed 25 = .ok (.iload_n 2, 1) := by decide +kernel
theorem dRp_feed_26 : decode cRp_feed 26 = .ok (.invokevirtual 90, 3) := by decide +kernel
theorem dRp_feed_29 : decode cRp_feed 29 = .ok (.aload_n 0, 1) := by decide +kernel
theorem dRp_feed_30 : decode cRp_feed 30 = .ok (.iload_n 3, 1) := by decide +kernel
theorem dRp_feed_31 : decode cRp_feed 31 = .ok (.invokevirtual 90, 3) := by decide +kernel
theorem dRp_feed_34 : decode cRp_feed 34 = .ok (.aload_n 0, 1) := by decide +kernel
theorem dRp_feed_35 : decode cRp_feed 35 = .ok (.iload 4, 2) := by decide +kernel
theorem dRp_feed_37 : decode cRp_feed 37 = .ok (.invokevirtual 90, 3) := by decide +kernel
theorem dRp_feed_40 : decode cRp_feed 40 = .ok (.aload_n 0, 1) := by decide +kernel
theorem dRp_feed_41 : decode cRp_feed 41 = .ok (.iload 5, 2) := by decide +kernel
theorem dRp_feed_43 : decode cRp_feed 43 = .ok (.invokevirtual 90, 3) := by decide +kernel
theorem dRp_feed_46 : decode cRp_feed 46 = .ok (.aload_n 0, 1) := by decide +kernel
theorem dRp_feed_47 : decode cRp_feed 47 = .ok (.getfield 78, 3) := by decide +kernel
theorem dRp_feed_50 : decode cRp_feed 50 = .ok (.ireturn, 1) := by decide +kernel
theorem dRp_store_0 : decode cRp_store 0 = .ok (.bipush 24, 2) := by decide +kernel
theorem dRp_store_2 : decode cRp_store 2 = .ok (.istore_n 2, 1) := by decide +kernel
theorem dRp_store_3 : decode cRp_store 3 = .ok (.iload_n 2, 1) := by decide +kernel
theorem dRp_store_4 : decode cRp_store 4 = .ok (.ifCond .lt 32, 3) := by decide +kernel
theorem dRp_store_7 : decode cRp_store 7 = .ok (.aload_n 0, 1) := by decide +kernel
theorem dRp_store_8 : decode cRp_store 8 = .ok (.getfield 10, 3) := by decide +kernel
theorem dRp_store_11 : decode cRp_store 11 = .ok (.aload_n 0, 1) := by decide +kernel
theorem dRp_store_12 : decode cRp_store 12 = .ok (.getfield 78, 3) := by decide +kernel
theorem dRp_store_15 : decode cRp_store 15 = .ok (.iload_n 1, 1) := by decide +kernel
theorem dRp_store_16 : decode cRp_store 16 = .ok (.iload_n 2, 1) := by decide +kernel
theorem dRp_store_17 : decode cRp_store 17 = .ok (.ishr, 1) := by decide +kernel
theorem dRp_store_18 : decode cRp_store 18 = .ok (.i2b, 1) := by decide +kernel
theorem dRp_store_19 : decode cRp_store 19 = .ok (.bastore, 1) := by decide +kernel
theorem dRp_store_20 : decode cRp_store 20 = .ok (.aload_n 0, 1) := by decide +kernel
theorem dRp_store_21 : decode cRp_store 21 = .ok (.dup, 1) := by decide +kernel
theorem dRp_store_22 : decode cRp_store 22 = .ok (.getfield 78, 3) := by decide +kernel
theorem dRp_store_25 : decode cRp_store 25 = .ok (.iconst 1, 1) := by decide +kernel
theorem dRp_store_26 : decode cRp_store 26 = .ok (.iadd, 1) := by decide +kernel
theorem dRp_store_27 : decode cRp_store 27 = .ok (.putfield 78, 3) := by decide +kernel
theorem dRp_store_30 : decode cRp_store 30 = .ok (.iinc 2 (-8), 3) := by decide +kernel
theorem dRp_store_33 : decode cRp_store 33 = .ok (.goto (-30), 3) := by decide +kernel
theorem dRp_store_36 : decode cRp_store 36 = .ok (.return_, 1) := by decide +kernel
end
section
set_option maxHeartbeats 4000000 in
set_option maxRecDepth 100000 in
theorem c_Pg_init (l : Launch) (dC : Nat → ClassId) (dI : Nat → Nat → Nat) (sz : Nat) (h0 : Nat) : Met l yPg_init wsPg_init ({ frames := 1, cells := 8, slots := 44460, locals := 12 }) (va_Pc [.ref h0] (fun U => U.heap.size = sz ∧ va_P (dC, dI) vwCl [(h0, .inr (1, [.null, .null, .null, .null, .null, .null, .null, .null, .int 0, .int 0, .int 0, .int 0, .int 0, .int 0, .int 0, .int 0, .int 0]))] U.heap ∧ va_K (dC, dI) vwCl [] U ∧ va_D (fun _ => True) [(h0, .inr (1, [.null, .null, .null, .null, .null, .null, .null, .null, .int 0, .int 0, .int 0, .int 0, .int 0, .int 0, .int 0, .int 0, .int 0]))])) (va_Qv (fun _ : Unit => True) (fun (_ : Unit) (t : State) => ∃ (q_1 : Nat) (q_3 : Nat) (q_5 : Nat) (q_7 : Nat) (q_9 : Nat) (q_11 : Nat) (q_13 : Nat) (q_15 : Nat), va_P (dC, dI) vwCl [(h0, .inr (1, [.ref q_1, .ref q_3, .ref q_5, .ref q_7, .ref q_9, .ref q_11, .ref q_13, .ref q_15, .int 0, .int 0, .int 0, .int 0, .int 0, .int 0, .int 0, .int 0, .int (-1)]))] t.heap ∧ va_K (dC, dI) vwCl [] t ∧ va_D (va_A [(h0, .inr (1, [.null, .null, .null, .null, .null, .null, .null, .null, .int 0, .int 0, .int 0, .int 0, .int 0, .int 0, .int 0, .int 0, .int 0]))] sz) [(h0, .inr (1, [.ref q_1, .ref q_3, .ref q_5, .ref q_7, .ref q_9, .ref q_11, .ref q_13, .ref q_15, .int 0, .int 0, .int 0, .int 0, .int 0, .int 0, .int 0, .int 0, .int (-1)]))]) (va_A [(h0, .inr (1, [.null, .null, .null, .null, .null, .null, .null, .null, .int 0, .int 0, .int 0, .int 0, .int 0, .int 0, .int 0, .int 0, .int 0]))] sz)) 8 44460 (va_A [(h0, .inr (1, [.null, .null, .null, .null, .null, .null, .null, .null, .int 0, .int 0, .int 0, .int 0, .int 0, .int 0, .int 0, .int 0, .int 0]))] sz) := by
  refine Met.ofW (cc := cPg_init) (maxL := 1) (ret := none) (by decide) rfl ?_
  intro p e s m args below meth c s₁ B hml hv
  obtain ⟨rfl, hsz, hP, hK, hD0⟩ := hv
  have hx := B.exec
  have hb := B.bytes
  have hr := B.returns
  have hts := atoms_spec (ws := wsPg_init) B.pre
  have hown : s.vm.findClass "RunProver$Program" = some m.cls := findClass_of_methodNamed B.named
  have hlocks := B.notSynchronized
  have hin : meth.name = "<init>" := (name_of_methodNamed B.named B.method).1
  subst hsz
  have hD := hD0.self (sz := s.heap.size)
  generalize hAe : va_A [(h0, .inr (1, [.null, .null, .null, .null, .null, .null, .null, .null, .int 0, .int 0, .int 0, .int 0, .int 0, .int 0, .int 0, .int 0, .int 0]))] s.heap.size = A at hD ⊢
  have hA : ∀ q : Nat, s.heap.size ≤ q → A q := fun q h => by rw [← hAe]; exact Or.inr h
  have hS : va_S A s.heap s.heap [] := va_S.rf
  have hP : va_P (dC, dI) vwCl [(h0, .inr (1, [.null, .null, .null, .null, .null, .null, .null, .null, .int 0, .int 0, .int 0, .int 0, .int 0, .int 0, .int 0, .int 0, .int 0]))] s.heap := hP
  have hl := lv_entry ([.ref h0]) (n := 1) (Nat.le_of_ble_eq_true rfl)
  rw [lg_entry_eq]
  generalize (lg_sl ([.ref h0]) ++ List.replicate (1 - (lg_sl ([.ref h0])).length) Slot.unset).toArray = ls at hl ⊢
  have hl : lv_has ls 1 [(0, .ref h0)] := hl
  refine lv_aload_n hx hb dPg_init_0 rfl (lv_at hl 0 rfl) ?_
  refine W.objInit hx hb hown (hts (.methodLink "RunProver$Program" 1 objectInit) (wam0 9 rfl)) (hts (.instanceMethod objectInit) (wam0 1 rfl)) (hts (.code objectInit ⟨#[0xb1]⟩ 1 none) (wam0 2 rfl)) rfl (by rw [hml]; exact hl.1) rfl dPg_init_1 (Nat.le_of_ble_eq_true rfl) (Nat.le_of_ble_eq_true rfl) ?_
  refine W.eq (g2 := F0 m 4 ls []) rfl ?_
  refine lv_aload_n hx hb dPg_init_4 rfl (lv_at hl 0 rfl) ?_
  refine lv_sipush (v := 27000) hx hb dPg_init_5 (by decide) ?_
  refine va_newa (atype := .int) (N' := 27000) (a0 := (27000, .inl (fun _ => 0))) (ty := .int) (n := 27000) hx hb (hts (.arrayClass .int) (wam0 10 rfl)) rfl hK hP hD hS hA (fun _ => rfl) (by decide) (by decide +kernel) (by decide +kernel) (Nat.le_of_ble_eq_true rfl) (Nat.le_of_ble_eq_true rfl) dPg_init_8 (fun q_1 cA_2 H hK hP hD hS => ?_)
  have hP : va_P (dC, dI) vwCl [(h0, .inr (1, [.null, .null, .null, .null, .null, .null, .null, .null, .int 0, .int 0, .int 0, .int 0, .int 0, .int 0, .int 0, .int 0, .int 0])), (q_1, .inl (cA_2, 27000, .inl (fun _ => 0)))] H := hP
  have hD : va_D A [(h0, .inr (1, [.null, .null, .null, .null, .null, .null, .null, .null, .int 0, .int 0, .int 0, .int 0, .int 0, .int 0, .int 0, .int 0, .int 0])), (q_1, .inl (cA_2, 27000, .inl (fun _ => 0)))] := hD
  have hK : va_K (dC, dI) vwCl [(cA_2, .int)] s := hK
  refine W.widen (k := 1) (n := 27000) (by omega) (by omega) ?_
  refine va_putF (D := (dC, dI)) (ci := 1) (v := .ref q_1) (ty := .array .int) (C := "RunProver$Program") (T := TPg) (N := 17) hx hb hts (inPg _) tyPg tyPg_ok nmPg hown hK hP hD hS 0 rfl rfl 0 (by decide) (hts (.fieldLink "RunProver$Program" 9 "RunProver$Program" "rows" "[I") (wam0 11 rfl)) (fun _ h9 => h9) rfl hin rfl (by decide +kernel) rfl rfl (Nat.le_of_ble_eq_true rfl) dPg_init_10 (fun H locs hP hD hS => ?_)
  have hP : va_P (dC, dI) vwCl [(h0, .inr (1, [.ref q_1, .null, .null, .null, .null, .null, .null, .null, .int 0, .int 0, .int 0, .int 0, .int 0, .int 0, .int 0, .int 0, .int 0])), (q_1, .inl (cA_2, 27000, .inl (fun _ => 0)))] H := hP
  have hD : va_D A [(h0, .inr (1, [.ref q_1, .null, .null, .null, .null, .null, .null, .null, .int 0, .int 0, .int 0, .int 0, .int 0, .int 0, .int 0, .int 0, .int 0])), (q_1, .inl (cA_2, 27000, .inl (fun _ => 0)))] := hD
  have hP := hP.sub (ws' := [(h0, .inr (1, [.ref q_1, .null, .null, .null, .null, .null, .null, .null, .int 0, .int 0, .int 0, .int 0, .int 0, .int 0, .int 0, .int 0, .int 0]))]) [0] rfl
  have hD := hD.sub (ws' := [(h0, .inr (1, [.ref q_1, .null, .null, .null, .null, .null, .null, .null, .int 0, .int 0, .int 0, .int 0, .int 0, .int 0, .int 0, .int 0, .int 0]))]) [0] (by decide) rfl
  have hK := hK.sub (tys' := []) [] rfl
  refine lv_aload_n hx hb dPg_init_13 rfl (lv_at hl 0 rfl) ?_
  refine lv_sipush (v := 1000) hx hb dPg_init_14 (by decide) ?_
  refine va_newa (atype := .int) (N' := 1000) (a0 := (1000, .inl (fun _ => 0))) (ty := .int) (n := 1000) hx hb (hts (.arrayClass .int) (wam0 10 rfl)) rfl hK hP hD hS hA (fun _ => rfl) (by decide) (by decide +kernel) (by decide +kernel) (Nat.le_of_ble_eq_true rfl) (Nat.le_of_ble_eq_true rfl) dPg_init_17 (fun q_3 cA_4 H hK hP hD hS => ?_)
  have hP : va_P (dC, dI) vwCl [(h0, .inr (1, [.ref q_1, .null, .null, .null, .null, .null, .null, .null, .int 0, .int 0, .int 0, .int 0, .int 0, .int 0, .int 0, .int 0, .int 0])), (q_3, .inl (cA_4, 1000, .inl (fun _ => 0)))] H := hP
  have hD : va_D A [(h0, .inr (1, [.ref q_1, .null, .null, .null, .null, .null, .null, .null, .int 0, .int 0, .int 0, .int 0, .int 0, .int 0, .int 0, .int 0, .int 0])), (q_3, .inl (cA_4, 1000, .inl (fun _ => 0)))] := hD
  have hK : va_K (dC, dI) vwCl [(cA_4, .int)] s := hK
  refine W.widen (k := 2) (n := 28000) (by omega) (by omega) ?_
  refine va_putF (D := (dC, dI)) (ci := 1) (v := .ref q_3) (ty := .array .int) (C := "RunProver$Program") (T := TPg) (N := 17) hx hb hts (inPg _) tyPg tyPg_ok nmPg hown hK hP hD hS 0 rfl rfl 1 (by decide) (hts (.fieldLink "RunProver$Program" 15 "RunProver$Program" "functions" "[I") (wam0 12 rfl)) (fun _ h9 => h9) rfl hin rfl (by decide +kernel) rfl rfl (Nat.le_of_ble_eq_true rfl) dPg_init_19 (fun H locs hP hD hS => ?_)
  have hP : va_P (dC, dI) vwCl [(h0, .inr (1, [.ref q_1, .ref q_3, .null, .null, .null, .null, .null, .null, .int 0, .int 0, .int 0, .int 0, .int 0, .int 0, .int 0, .int 0, .int 0])), (q_3, .inl (cA_4, 1000, .inl (fun _ => 0)))] H := hP
  have hD : va_D A [(h0, .inr (1, [.ref q_1, .ref q_3, .null, .null, .null, .null, .null, .null, .int 0, .int 0, .int 0, .int 0, .int 0, .int 0, .int 0, .int 0, .int 0])), (q_3, .inl (cA_4, 1000, .inl (fun _ => 0)))] := hD
  have hP := hP.sub (ws' := [(h0, .inr (1, [.ref q_1, .ref q_3, .null, .null, .null, .null, .null, .null, .int 0, .int 0, .int 0, .int 0, .int 0, .int 0, .int 0, .int 0, .int 0]))]) [0] rfl
  have hD := hD.sub (ws' := [(h0, .inr (1, [.ref q_1, .ref q_3, .null, .null, .null, .null, .null, .null, .int 0, .int 0, .int 0, .int 0, .int 0, .int 0, .int 0, .int 0, .int 0]))]) [0] (by decide) rfl
  have hK := hK.sub (tys' := []) [] rfl
  refine lv_aload_n hx hb dPg_init_22 rfl (lv_at hl 0 rfl) ?_
  refine lv_sipush (v := 8000) hx hb dPg_init_23 (by decide) ?_
  refine va_newa (atype := .int) (N' := 8000) (a0 := (8000, .inl (fun _ => 0))) (ty := .int) (n := 8000) hx hb (hts (.arrayClass .int) (wam0 10 rfl)) rfl hK hP hD hS hA (fun _ => rfl) (by decide) (by decide +kernel) (by decide +kernel) (Nat.le_of_ble_eq_true rfl) (Nat.le_of_ble_eq_true rfl) dPg_init_26 (fun q_5 cA_6 H hK hP hD hS => ?_)
  have hP : va_P (dC, dI) vwCl [(h0, .inr (1, [.ref q_1, .ref q_3, .null, .null, .null, .null, .null, .null, .int 0, .int 0, .int 0, .int 0, .int 0, .int 0, .int 0, .int 0, .int 0])), (q_5, .inl (cA_6, 8000, .inl (fun _ => 0)))] H := hP
  have hD : va_D A [(h0, .inr (1, [.ref q_1, .ref q_3, .null, .null, .null, .null, .null, .null, .int 0, .int 0, .int 0, .int 0, .int 0, .int 0, .int 0, .int 0, .int 0])), (q_5, .inl (cA_6, 8000, .inl (fun _ => 0)))] := hD
  have hK : va_K (dC, dI) vwCl [(cA_6, .int)] s := hK
  refine W.widen (k := 3) (n := 36000) (by omega) (by omega) ?_
  refine va_putF (D := (dC, dI)) (ci := 1) (v := .ref q_5) (ty := .array .int) (C := "RunProver$Program") (T := TPg) (N := 17) hx hb hts (inPg _) tyPg tyPg_ok nmPg hown hK hP hD hS 0 rfl rfl 2 (by decide) (hts (.fieldLink "RunProver$Program" 20 "RunProver$Program" "codes" "[I") (wam0 13 rfl)) (fun _ h9 => h9) rfl hin rfl (by decide +kernel) rfl rfl (Nat.le_of_ble_eq_true rfl) dPg_init_28 (fun H locs hP hD hS => ?_)
  have hP : va_P (dC, dI) vwCl [(h0, .inr (1, [.ref q_1, .ref q_3, .ref q_5, .null, .null, .null, .null, .null, .int 0, .int 0, .int 0, .int 0, .int 0, .int 0, .int 0, .int 0, .int 0])), (q_5, .inl (cA_6, 8000, .inl (fun _ => 0)))] H := hP
  have hD : va_D A [(h0, .inr (1, [.ref q_1, .ref q_3, .ref q_5, .null, .null, .null, .null, .null, .int 0, .int 0, .int 0, .int 0, .int 0, .int 0, .int 0, .int 0, .int 0])), (q_5, .inl (cA_6, 8000, .inl (fun _ => 0)))] := hD
  have hP := hP.sub (ws' := [(h0, .inr (1, [.ref q_1, .ref q_3, .ref q_5, .null, .null, .null, .null, .null, .int 0, .int 0, .int 0, .int 0, .int 0, .int 0, .int 0, .int 0, .int 0]))]) [0] rfl
  have hD := hD.sub (ws' := [(h0, .inr (1, [.ref q_1, .ref q_3, .ref q_5, .null, .null, .null, .null, .null, .int 0, .int 0, .int 0, .int 0, .int 0, .int 0, .int 0, .int 0, .int 0]))]) [0] (by decide) rfl
  have hK := hK.sub (tys' := []) [] rfl
  refine lv_aload_n hx hb dPg_init_31 rfl (lv_at hl 0 rfl) ?_
  refine lv_sipush (v := 8000) hx hb dPg_init_32 (by decide) ?_
  refine va_newa (atype := .int) (N' := 8000) (a0 := (8000, .inl (fun _ => 0))) (ty := .int) (n := 8000) hx hb (hts (.arrayClass .int) (wam0 10 rfl)) rfl hK hP hD hS hA (fun _ => rfl) (by decide) (by decide +kernel) (by decide +kernel) (Nat.le_of_ble_eq_true rfl) (Nat.le_of_ble_eq_true rfl) dPg_init_35 (fun q_7 cA_8 H hK hP hD hS => ?_)
  have hP : va_P (dC, dI) vwCl [(h0, .inr (1, [.ref q_1, .ref q_3, .ref q_5, .null, .null, .null, .null, .null, .int 0, .int 0, .int 0, .int 0, .int 0, .int 0, .int 0, .int 0, .int 0])), (q_7, .inl (cA_8, 8000, .inl (fun _ => 0)))] H := hP
  have hD : va_D A [(h0, .inr (1, [.ref q_1, .ref q_3, .ref q_5, .null, .null, .null, .null, .null, .int 0, .int 0, .int 0, .int 0, .int 0, .int 0, .int 0, .int 0, .int 0])), (q_7, .inl (cA_8, 8000, .inl (fun _ => 0)))] := hD
  have hK : va_K (dC, dI) vwCl [(cA_8, .int)] s := hK
  refine W.widen (k := 4) (n := 44000) (by omega) (by omega) ?_
  refine va_putF (D := (dC, dI)) (ci := 1) (v := .ref q_7) (ty := .array .int) (C := "RunProver$Program") (T := TPg) (N := 17) hx hb hts (inPg _) tyPg tyPg_ok nmPg hown hK hP hD hS 0 rfl rfl 3 (by decide) (hts (.fieldLink "RunProver$Program" 23 "RunProver$Program" "operands" "[I") (wam0 14 rfl)) (fun _ h9 => h9) rfl hin rfl (by decide +kernel) rfl rfl (Nat.le_of_ble_eq_true rfl) dPg_init_37 (fun H locs hP hD hS => ?_)
  have hP : va_P (dC, dI) vwCl [(h0, .inr (1, [.ref q_1, .ref q_3, .ref q_5, .ref q_7, .null, .null, .null, .null, .int 0, .int 0, .int 0, .int 0, .int 0, .int 0, .int 0, .int 0, .int 0])), (q_7, .inl (cA_8, 8000, .inl (fun _ => 0)))] H := hP
  have hD : va_D A [(h0, .inr (1, [.ref q_1, .ref q_3, .ref q_5, .ref q_7, .null, .null, .null, .null, .int 0, .int 0, .int 0, .int 0, .int 0, .int 0, .int 0, .int 0, .int 0])), (q_7, .inl (cA_8, 8000, .inl (fun _ => 0)))] := hD
  have hP := hP.sub (ws' := [(h0, .inr (1, [.ref q_1, .ref q_3, .ref q_5, .ref q_7, .null, .null, .null, .null, .int 0, .int 0, .int 0, .int 0, .int 0, .int 0, .int 0, .int 0, .int 0]))]) [0] rfl
  have hD := hD.sub (ws' := [(h0, .inr (1, [.ref q_1, .ref q_3, .ref q_5, .ref q_7, .null, .null, .null, .null, .int 0, .int 0, .int 0, .int 0, .int 0, .int 0, .int 0, .int 0, .int 0]))]) [0] (by decide) rfl
  have hK := hK.sub (tys' := []) [] rfl
  refine lv_aload_n hx hb dPg_init_40 rfl (lv_at hl 0 rfl) ?_
  refine lv_sipush (v := 200) hx hb dPg_init_41 (by decide) ?_
  refine va_newa (atype := .int) (N' := 200) (a0 := (200, .inl (fun _ => 0))) (ty := .int) (n := 200) hx hb (hts (.arrayClass .int) (wam0 10 rfl)) rfl hK hP hD hS hA (fun _ => rfl) (by decide) (by decide +kernel) (by decide +kernel) (Nat.le_of_ble_eq_true rfl) (Nat.le_of_ble_eq_true rfl) dPg_init_44 (fun q_9 cA_10 H hK hP hD hS => ?_)
  have hP : va_P (dC, dI) vwCl [(h0, .inr (1, [.ref q_1, .ref q_3, .ref q_5, .ref q_7, .null, .null, .null, .null, .int 0, .int 0, .int 0, .int 0, .int 0, .int 0, .int 0, .int 0, .int 0])), (q_9, .inl (cA_10, 200, .inl (fun _ => 0)))] H := hP
  have hD : va_D A [(h0, .inr (1, [.ref q_1, .ref q_3, .ref q_5, .ref q_7, .null, .null, .null, .null, .int 0, .int 0, .int 0, .int 0, .int 0, .int 0, .int 0, .int 0, .int 0])), (q_9, .inl (cA_10, 200, .inl (fun _ => 0)))] := hD
  have hK : va_K (dC, dI) vwCl [(cA_10, .int)] s := hK
  refine W.widen (k := 5) (n := 44200) (by omega) (by omega) ?_
  refine va_putF (D := (dC, dI)) (ci := 1) (v := .ref q_9) (ty := .array .int) (C := "RunProver$Program") (T := TPg) (N := 17) hx hb hts (inPg _) tyPg tyPg_ok nmPg hown hK hP hD hS 0 rfl rfl 4 (by decide) (hts (.fieldLink "RunProver$Program" 26 "RunProver$Program" "slotFirst" "[I") (wam0 15 rfl)) (fun _ h9 => h9) rfl hin rfl (by decide +kernel) rfl rfl (Nat.le_of_ble_eq_true rfl) dPg_init_46 (fun H locs hP hD hS => ?_)
  have hP : va_P (dC, dI) vwCl [(h0, .inr (1, [.ref q_1, .ref q_3, .ref q_5, .ref q_7, .ref q_9, .null, .null, .null, .int 0, .int 0, .int 0, .int 0, .int 0, .int 0, .int 0, .int 0, .int 0])), (q_9, .inl (cA_10, 200, .inl (fun _ => 0)))] H := hP
  have hD : va_D A [(h0, .inr (1, [.ref q_1, .ref q_3, .ref q_5, .ref q_7, .ref q_9, .null, .null, .null, .int 0, .int 0, .int 0, .int 0, .int 0, .int 0, .int 0, .int 0, .int 0])), (q_9, .inl (cA_10, 200, .inl (fun _ => 0)))] := hD
  have hP := hP.sub (ws' := [(h0, .inr (1, [.ref q_1, .ref q_3, .ref q_5, .ref q_7, .ref q_9, .null, .null, .null, .int 0, .int 0, .int 0, .int 0, .int 0, .int 0, .int 0, .int 0, .int 0]))]) [0] rfl
  have hD := hD.sub (ws' := [(h0, .inr (1, [.ref q_1, .ref q_3, .ref q_5, .ref q_7, .ref q_9, .null, .null, .null, .int 0, .int 0, .int 0, .int 0, .int 0, .int 0, .int 0, .int 0, .int 0]))]) [0] (by decide) rfl
  have hK := hK.sub (tys' := []) [] rfl
  refine lv_aload_n hx hb dPg_init_49 rfl (lv_at hl 0 rfl) ?_
  refine lv_sipush (v := 200) hx hb dPg_init_50 (by decide) ?_
  refine va_newa (atype := .int) (N' := 200) (a0 := (200, .inl (fun _ => 0))) (ty := .int) (n := 200) hx hb (hts (.arrayClass .int) (wam0 10 rfl)) rfl hK hP hD hS hA (fun _ => rfl) (by decide) (by decide +kernel) (by decide +kernel) (Nat.le_of_ble_eq_true rfl) (Nat.le_of_ble_eq_true rfl) dPg_init_53 (fun q_11 cA_12 H hK hP hD hS => ?_)
  have hP : va_P (dC, dI) vwCl [(h0, .inr (1, [.ref q_1, .ref q_3, .ref q_5, .ref q_7, .ref q_9, .null, .null, .null, .int 0, .int 0, .int 0, .int 0, .int 0, .int 0, .int 0, .int 0, .int 0])), (q_11, .inl (cA_12, 200, .inl (fun _ => 0)))] H := hP
  have hD : va_D A [(h0, .inr (1, [.ref q_1, .ref q_3, .ref q_5, .ref q_7, .ref q_9, .null, .null, .null, .int 0, .int 0, .int 0, .int 0, .int 0, .int 0, .int 0, .int 0, .int 0])), (q_11, .inl (cA_12, 200, .inl (fun _ => 0)))] := hD
  have hK : va_K (dC, dI) vwCl [(cA_12, .int)] s := hK
  refine W.widen (k := 6) (n := 44400) (by omega) (by omega) ?_
  refine va_putF (D := (dC, dI)) (ci := 1) (v := .ref q_11) (ty := .array .int) (C := "RunProver$Program") (T := TPg) (N := 17) hx hb hts (inPg _) tyPg tyPg_ok nmPg hown hK hP hD hS 0 rfl rfl 5 (by decide) (hts (.fieldLink "RunProver$Program" 29 "RunProver$Program" "slotSize" "[I") (wam0 16 rfl)) (fun _ h9 => h9) rfl hin rfl (by decide +kernel) rfl rfl (Nat.le_of_ble_eq_true rfl) dPg_init_55 (fun H locs hP hD hS => ?_)
  have hP : va_P (dC, dI) vwCl [(h0, .inr (1, [.ref q_1, .ref q_3, .ref q_5, .ref q_7, .ref q_9, .ref q_11, .null, .null, .int 0, .int 0, .int 0, .int 0, .int 0, .int 0, .int 0, .int 0, .int 0])), (q_11, .inl (cA_12, 200, .inl (fun _ => 0)))] H := hP
  have hD : va_D A [(h0, .inr (1, [.ref q_1, .ref q_3, .ref q_5, .ref q_7, .ref q_9, .ref q_11, .null, .null, .int 0, .int 0, .int 0, .int 0, .int 0, .int 0, .int 0, .int 0, .int 0])), (q_11, .inl (cA_12, 200, .inl (fun _ => 0)))] := hD
  have hP := hP.sub (ws' := [(h0, .inr (1, [.ref q_1, .ref q_3, .ref q_5, .ref q_7, .ref q_9, .ref q_11, .null, .null, .int 0, .int 0, .int 0, .int 0, .int 0, .int 0, .int 0, .int 0, .int 0]))]) [0] rfl
  have hD := hD.sub (ws' := [(h0, .inr (1, [.ref q_1, .ref q_3, .ref q_5, .ref q_7, .ref q_9, .ref q_11, .null, .null, .int 0, .int 0, .int 0, .int 0, .int 0, .int 0, .int 0, .int 0, .int 0]))]) [0] (by decide) rfl
  have hK := hK.sub (tys' := []) [] rfl
  refine lv_aload_n hx hb dPg_init_58 rfl (lv_at hl 0 rfl) ?_
  refine lv_bipush (v := 30) hx hb dPg_init_59 (by decide) ?_
  refine va_newa (atype := .int) (N' := 30) (a0 := (30, .inl (fun _ => 0))) (ty := .int) (n := 30) hx hb (hts (.arrayClass .int) (wam0 10 rfl)) rfl hK hP hD hS hA (fun _ => rfl) (by decide) (by decide +kernel) (by decide +kernel) (Nat.le_of_ble_eq_true rfl) (Nat.le_of_ble_eq_true rfl) dPg_init_61 (fun q_13 cA_14 H hK hP hD hS => ?_)
  have hP : va_P (dC, dI) vwCl [(h0, .inr (1, [.ref q_1, .ref q_3, .ref q_5, .ref q_7, .ref q_9, .ref q_11, .null, .null, .int 0, .int 0, .int 0, .int 0, .int 0, .int 0, .int 0, .int 0, .int 0])), (q_13, .inl (cA_14, 30, .inl (fun _ => 0)))] H := hP
  have hD : va_D A [(h0, .inr (1, [.ref q_1, .ref q_3, .ref q_5, .ref q_7, .ref q_9, .ref q_11, .null, .null, .int 0, .int 0, .int 0, .int 0, .int 0, .int 0, .int 0, .int 0, .int 0])), (q_13, .inl (cA_14, 30, .inl (fun _ => 0)))] := hD
  have hK : va_K (dC, dI) vwCl [(cA_14, .int)] s := hK
  refine W.widen (k := 7) (n := 44430) (by omega) (by omega) ?_
  refine va_putF (D := (dC, dI)) (ci := 1) (v := .ref q_13) (ty := .array .int) (C := "RunProver$Program") (T := TPg) (N := 17) hx hb hts (inPg _) tyPg tyPg_ok nmPg hown hK hP hD hS 0 rfl rfl 6 (by decide) (hts (.fieldLink "RunProver$Program" 32 "RunProver$Program" "checkKinds" "[I") (wam0 17 rfl)) (fun _ h9 => h9) rfl hin rfl (by decide +kernel) rfl rfl (Nat.le_of_ble_eq_true rfl) dPg_init_63 (fun H locs hP hD hS => ?_)
  have hP : va_P (dC, dI) vwCl [(h0, .inr (1, [.ref q_1, .ref q_3, .ref q_5, .ref q_7, .ref q_9, .ref q_11, .ref q_13, .null, .int 0, .int 0, .int 0, .int 0, .int 0, .int 0, .int 0, .int 0, .int 0])), (q_13, .inl (cA_14, 30, .inl (fun _ => 0)))] H := hP
  have hD : va_D A [(h0, .inr (1, [.ref q_1, .ref q_3, .ref q_5, .ref q_7, .ref q_9, .ref q_11, .ref q_13, .null, .int 0, .int 0, .int 0, .int 0, .int 0, .int 0, .int 0, .int 0, .int 0])), (q_13, .inl (cA_14, 30, .inl (fun _ => 0)))] := hD
  have hP := hP.sub (ws' := [(h0, .inr (1, [.ref q_1, .ref q_3, .ref q_5, .ref q_7, .ref q_9, .ref q_11, .ref q_13, .null, .int 0, .int 0, .int 0, .int 0, .int 0, .int 0, .int 0, .int 0, .int 0]))]) [0] rfl
  have hD := hD.sub (ws' := [(h0, .inr (1, [.ref q_1, .ref q_3, .ref q_5, .ref q_7, .ref q_9, .ref q_11, .ref q_13, .null, .int 0, .int 0, .int 0, .int 0, .int 0, .int 0, .int 0, .int 0, .int 0]))]) [0] (by decide) rfl
  have hK := hK.sub (tys' := []) [] rfl
  refine lv_aload_n hx hb dPg_init_66 rfl (lv_at hl 0 rfl) ?_
  refine lv_bipush (v := 30) hx hb dPg_init_67 (by decide) ?_
  refine va_newa (atype := .int) (N' := 30) (a0 := (30, .inl (fun _ => 0))) (ty := .int) (n := 30) hx hb (hts (.arrayClass .int) (wam0 10 rfl)) rfl hK hP hD hS hA (fun _ => rfl) (by decide) (by decide +kernel) (by decide +kernel) (Nat.le_of_ble_eq_true rfl) (Nat.le_of_ble_eq_true rfl) dPg_init_69 (fun q_15 cA_16 H hK hP hD hS => ?_)
  have hP : va_P (dC, dI) vwCl [(h0, .inr (1, [.ref q_1, .ref q_3, .ref q_5, .ref q_7, .ref q_9, .ref q_11, .ref q_13, .null, .int 0, .int 0, .int 0, .int 0, .int 0, .int 0, .int 0, .int 0, .int 0])), (q_15, .inl (cA_16, 30, .inl (fun _ => 0)))] H := hP
  have hD : va_D A [(h0, .inr (1, [.ref q_1, .ref q_3, .ref q_5, .ref q_7, .ref q_9, .ref q_11, .ref q_13, .null, .int 0, .int 0, .int 0, .int 0, .int 0, .int 0, .int 0, .int 0, .int 0])), (q_15, .inl (cA_16, 30, .inl (fun _ => 0)))] := hD
  have hK : va_K (dC, dI) vwCl [(cA_16, .int)] s := hK
  refine W.widen (k := 8) (n := 44460) (by omega) (by omega) ?_
  refine va_putF (D := (dC, dI)) (ci := 1) (v := .ref q_15) (ty := .array .int) (C := "RunProver$Program") (T := TPg) (N := 17) hx hb hts (inPg _) tyPg tyPg_ok nmPg hown hK hP hD hS 0 rfl rfl 7 (by decide) (hts (.fieldLink "RunProver$Program" 35 "RunProver$Program" "checkPlaces" "[I") (wam0 18 rfl)) (fun _ h9 => h9) rfl hin rfl (by decide +kernel) rfl rfl (Nat.le_of_ble_eq_true rfl) dPg_init_71 (fun H locs hP hD hS => ?_)
  have hP : va_P (dC, dI) vwCl [(h0, .inr (1, [.ref q_1, .ref q_3, .ref q_5, .ref q_7, .ref q_9, .ref q_11, .ref q_13, .ref q_15, .int 0, .int 0, .int 0, .int 0, .int 0, .int 0, .int 0, .int 0, .int 0])), (q_15, .inl (cA_16, 30, .inl (fun _ => 0)))] H := hP
  have hD : va_D A [(h0, .inr (1, [.ref q_1, .ref q_3, .ref q_5, .ref q_7, .ref q_9, .ref q_11, .ref q_13, .ref q_15, .int 0, .int 0, .int 0, .int 0, .int 0, .int 0, .int 0, .int 0, .int 0])), (q_15, .inl (cA_16, 30, .inl (fun _ => 0)))] := hD
  have hP := hP.sub (ws' := [(h0, .inr (1, [.ref q_1, .ref q_3, .ref q_5, .ref q_7, .ref q_9, .ref q_11, .ref q_13, .ref q_15, .int 0, .int 0, .int 0, .int 0, .int 0, .int 0, .int 0, .int 0, .int 0]))]) [0] rfl
  have hD := hD.sub (ws' := [(h0, .inr (1, [.ref q_1, .ref q_3, .ref q_5, .ref q_7, .ref q_9, .ref q_11, .ref q_13, .ref q_15, .int 0, .int 0, .int 0, .int 0, .int 0, .int 0, .int 0, .int 0, .int 0]))]) [0] (by decide) rfl
  have hK := hK.sub (tys' := []) [] rfl
  refine lv_aload_n hx hb dPg_init_74 rfl (lv_at hl 0 rfl) ?_
  refine lv_iconst (v := (-1)) hx hb dPg_init_75 (by decide) ?_
  refine va_put (D := (dC, dI)) (ci := 1) (v := .int (-1)) (ty := .int) (C := "RunProver$Program") (T := TPg) (N := 17) hx hb hts (inPg _) tyPg tyPg_ok nmPg hown hK hP hD hS 0 rfl rfl 16 (by decide) (hts (.fieldLink "RunProver$Program" 38 "RunProver$Program" "first" "I") (wam0 19 rfl)) (fun _ h9 => h9) rfl (by decide +kernel) rfl rfl (Nat.le_of_ble_eq_true rfl) dPg_init_76 (fun H locs hP hD hS => ?_)
  have hP : va_P (dC, dI) vwCl [(h0, .inr (1, [.ref q_1, .ref q_3, .ref q_5, .ref q_7, .ref q_9, .ref q_11, .ref q_13, .ref q_15, .int 0, .int 0, .int 0, .int 0, .int 0, .int 0, .int 0, .int 0, .int (-1)]))] H := hP
  have hD : va_D A [(h0, .inr (1, [.ref q_1, .ref q_3, .ref q_5, .ref q_7, .ref q_9, .ref q_11, .ref q_13, .ref q_15, .int 0, .int 0, .int 0, .int 0, .int 0, .int 0, .int 0, .int 0, .int (-1)]))] := hD
  have hP9 := hP.sub (ws' := [(h0, .inr (1, [.ref q_1, .ref q_3, .ref q_5, .ref q_7, .ref q_9, .ref q_11, .ref q_13, .ref q_15, .int 0, .int 0, .int 0, .int 0, .int 0, .int 0, .int 0, .int 0, .int (-1)]))]) [0] rfl
  have hD9 := hD.sub (ws' := [(h0, .inr (1, [.ref q_1, .ref q_3, .ref q_5, .ref q_7, .ref q_9, .ref q_11, .ref q_13, .ref q_15, .int 0, .int 0, .int 0, .int 0, .int 0, .int 0, .int 0, .int 0, .int (-1)]))]) [0] (by decide) rfl
  have hK9 := hK.sub (tys' := []) [] rfl
  exact W.vret hx hb hr (fun t ht hW => ⟨⟨(), rfl, trivial, q_1, q_3, q_5, q_7, q_9, q_11, q_13, q_15, by rw [ht]; exact hP9, va_K.moved hW.alike hK9, hD9⟩, hS.F ht⟩) hS.2.2 dPg_init_79
set_option maxHeartbeats 4000000 in
set_option maxRecDepth 100000 in
theorem c_Nm_init (l : Launch) (dC : Nat → ClassId) (dI : Nat → Nat → Nat) (sz : Nat) (h0 : Nat) : Met l yNm_init wsNm_init ({ frames := 1, cells := 4, slots := 800, locals := 12 }) (va_Pc [.ref h0] (fun U => U.heap.size = sz ∧ va_P (dC, dI) vwCl [(h0, .inr (3, [.null, .null, .null, .null, .int 0]))] U.heap ∧ va_K (dC, dI) vwCl [] U ∧ va_D (fun _ => True) [(h0, .inr (3, [.null, .null, .null, .null, .int 0]))])) (va_Qv (fun _ : Unit => True) (fun (_ : Unit) (t : State) => ∃ (q_1 : Nat) (q_3 : Nat) (q_5 : Nat) (q_7 : Nat), va_P (dC, dI) vwCl [(h0, .inr (3, [.ref q_1, .ref q_3, .ref q_5, .ref q_7, .int 0]))] t.heap ∧ va_K (dC, dI) vwCl [] t ∧ va_D (va_A [(h0, .inr (3, [.null, .null, .null, .null, .int 0]))] sz) [(h0, .inr (3, [.ref q_1, .ref q_3, .ref q_5, .ref q_7, .int 0]))]) (va_A [(h0, .inr (3, [.null, .null, .null, .null, .int 0]))] sz)) 4 800 (va_A [(h0, .inr (3, [.null, .null, .null, .null, .int 0]))] sz) := by
  refine Met.ofW (cc := cNm_init) (maxL := 1) (ret := none) (by decide) rfl ?_
  intro p e s m args below meth c s₁ B hml hv
  obtain ⟨rfl, hsz, hP, hK, hD0⟩ := hv
  have hx := B.exec
  have hb := B.bytes
  have hr := B.returns
  have hts := atoms_spec (ws := wsNm_init) B.pre
  have hown : s.vm.findClass "RunProver$Names" = some m.cls := findClass_of_methodNamed B.named
  have hlocks := B.notSynchronized
  have hin : meth.name = "<init>" := (name_of_methodNamed B.named B.method).1
  subst hsz
  have hD := hD0.self (sz := s.heap.size)
  generalize hAe : va_A [(h0, .inr (3, [.null, .null, .null, .null, .int 0]))] s.heap.size = A at hD ⊢
  have hA : ∀ q : Nat, s.heap.size ≤ q → A q := fun q h => by rw [← hAe]; exact Or.inr h
  have hS : va_S A s.heap s.heap [] := va_S.rf
  have hP : va_P (dC, dI) vwCl [(h0, .inr (3, [.null, .null, .null, .null, .int 0]))] s.heap := hP
  have hl := lv_entry ([.ref h0]) (n := 1) (Nat.le_of_ble_eq_true rfl)
  rw [lg_entry_eq]
  generalize (lg_sl ([.ref h0]) ++ List.replicate (1 - (lg_sl ([.ref h0])).length) Slot.unset).toArray = ls at hl ⊢
  have hl : lv_has ls 1 [(0, .ref h0)] := hl
  refine lv_aload_n hx hb dNm_init_0 rfl (lv_at hl 0 rfl) ?_
  refine W.objInit hx hb hown (hts (.methodLink "RunProver$Names" 1 objectInit) (wam0 31 rfl)) (hts (.instanceMethod objectInit) (wam0 1 rfl)) (hts (.code objectInit ⟨#[0xb1]⟩ 1 none) (wam0 2 rfl)) rfl (by rw [hml]; exact hl.1) rfl dNm_init_1 (Nat.le_of_ble_eq_true rfl) (Nat.le_of_ble_eq_true rfl) ?_
  refine W.eq (g2 := F0 m 4 ls []) rfl ?_
  refine lv_aload_n hx hb dNm_init_4 rfl (lv_at hl 0 rfl) ?_
  refine lv_sipush (v := 200) hx hb dNm_init_5 (by decide) ?_
  refine va_newa (atype := .int) (N' := 200) (a0 := (200, .inl (fun _ => 0))) (ty := .int) (n := 200) hx hb (hts (.arrayClass .int) (wam0 10 rfl)) rfl hK hP hD hS hA (fun _ => rfl) (by decide) (by decide +kernel) (by decide +kernel) (Nat.le_of_ble_eq_true rfl) (Nat.le_of_ble_eq_true rfl) dNm_init_8 (fun q_1 cA_2 H hK hP hD hS => ?_)
  have hP : va_P (dC, dI) vwCl [(h0, .inr (3, [.null, .null, .null, .null, .int 0])), (q_1, .inl (cA_2, 200, .inl (fun _ => 0)))] H := hP
  have hD : va_D A [(h0, .inr (3, [.null, .null, .null, .null, .int 0])), (q_1, .inl (cA_2, 200, .inl (fun _ => 0)))] := hD
  have hK : va_K (dC, dI) vwCl [(cA_2, .int)] s := hK
  refine W.widen (k := 1) (n := 200) (by omega) (by omega) ?_
  refine va_putF (D := (dC, dI)) (ci := 3) (v := .ref q_1) (ty := .array .int) (C := "RunProver$Names") (T := TNm) (N := 5) hx hb hts (inNm _) tyNm tyNm_ok nmNm hown hK hP hD hS 0 rfl rfl 0 (by decide) (hts (.fieldLink "RunProver$Names" 9 "RunProver$Names" "places" "[I") (wam0 32 rfl)) (fun _ h9 => h9) rfl hin rfl (by decide +kernel) rfl rfl (Nat.le_of_ble_eq_true rfl) dNm_init_10 (fun H locs hP hD hS => ?_)
  have hP : va_P (dC, dI) vwCl [(h0, .inr (3, [.ref q_1, .null, .null, .null, .int 0])), (q_1, .inl (cA_2, 200, .inl (fun _ => 0)))] H := hP
  have hD : va_D A [(h0, .inr (3, [.ref q_1, .null, .null, .null, .int 0])), (q_1, .inl (cA_2, 200, .inl (fun _ => 0)))] := hD
  have hP := hP.sub (ws' := [(h0, .inr (3, [.ref q_1, .null, .null, .null, .int 0]))]) [0] rfl
  have hD := hD.sub (ws' := [(h0, .inr (3, [.ref q_1, .null, .null, .null, .int 0]))]) [0] (by decide) rfl
  have hK := hK.sub (tys' := []) [] rfl
  refine lv_aload_n hx hb dNm_init_13 rfl (lv_at hl 0 rfl) ?_
  refine lv_sipush (v := 200) hx hb dNm_init_14 (by decide) ?_
  refine va_newa (atype := .int) (N' := 200) (a0 := (200, .inl (fun _ => 0))) (ty := .int) (n := 200) hx hb (hts (.arrayClass .int) (wam0 10 rfl)) rfl hK hP hD hS hA (fun _ => rfl) (by decide) (by decide +kernel) (by decide +kernel) (Nat.le_of_ble_eq_true rfl) (Nat.le_of_ble_eq_true rfl) dNm_init_17 (fun q_3 cA_4 H hK hP hD hS => ?_)
  have hP : va_P (dC, dI) vwCl [(h0, .inr (3, [.ref q_1, .null, .null, .null, .int 0])), (q_3, .inl (cA_4, 200, .inl (fun _ => 0)))] H := hP
  have hD : va_D A [(h0, .inr (3, [.ref q_1, .null, .null, .null, .int 0])), (q_3, .inl (cA_4, 200, .inl (fun _ => 0)))] := hD
  have hK : va_K (dC, dI) vwCl [(cA_4, .int)] s := hK
  refine W.widen (k := 2) (n := 400) (by omega) (by omega) ?_
  refine va_putF (D := (dC, dI)) (ci := 3) (v := .ref q_3) (ty := .array .int) (C := "RunProver$Names") (T := TNm) (N := 5) hx hb hts (inNm _) tyNm tyNm_ok nmNm hown hK hP hD hS 0 rfl rfl 1 (by decide) (hts (.fieldLink "RunProver$Names" 13 "RunProver$Names" "sizes" "[I") (wam0 33 rfl)) (fun _ h9 => h9) rfl hin rfl (by decide +kernel) rfl rfl (Nat.le_of_ble_eq_true rfl) dNm_init_19 (fun H locs hP hD hS => ?_)
  have hP : va_P (dC, dI) vwCl [(h0, .inr (3, [.ref q_1, .ref q_3, .null, .null, .int 0])), (q_3, .inl (cA_4, 200, .inl (fun _ => 0)))] H := hP
  have hD : va_D A [(h0, .inr (3, [.ref q_1, .ref q_3, .null, .null, .int 0])), (q_3, .inl (cA_4, 200, .inl (fun _ => 0)))] := hD
  have hP := hP.sub (ws' := [(h0, .inr (3, [.ref q_1, .ref q_3, .null, .null, .int 0]))]) [0] rfl
  have hD := hD.sub (ws' := [(h0, .inr (3, [.ref q_1, .ref q_3, .null, .null, .int 0]))]) [0] (by decide) rfl
  have hK := hK.sub (tys' := []) [] rfl
  refine lv_aload_n hx hb dNm_init_22 rfl (lv_at hl 0 rfl) ?_
  refine lv_sipush (v := 200) hx hb dNm_init_23 (by decide) ?_
  refine va_newa (atype := .int) (N' := 200) (a0 := (200, .inl (fun _ => 0))) (ty := .int) (n := 200) hx hb (hts (.arrayClass .int) (wam0 10 rfl)) rfl hK hP hD hS hA (fun _ => rfl) (by decide) (by decide +kernel) (by decide +kernel) (Nat.le_of_ble_eq_true rfl) (Nat.le_of_ble_eq_true rfl) dNm_init_26 (fun q_5 cA_6 H hK hP hD hS => ?_)
  have hP : va_P (dC, dI) vwCl [(h0, .inr (3, [.ref q_1, .ref q_3, .null, .null, .int 0])), (q_5, .inl (cA_6, 200, .inl (fun _ => 0)))] H := hP
  have hD : va_D A [(h0, .inr (3, [.ref q_1, .ref q_3, .null, .null, .int 0])), (q_5, .inl (cA_6, 200, .inl (fun _ => 0)))] := hD
  have hK : va_K (dC, dI) vwCl [(cA_6, .int)] s := hK
  refine W.widen (k := 3) (n := 600) (by omega) (by omega) ?_
  refine va_putF (D := (dC, dI)) (ci := 3) (v := .ref q_5) (ty := .array .int) (C := "RunProver$Names") (T := TNm) (N := 5) hx hb hts (inNm _) tyNm tyNm_ok nmNm hown hK hP hD hS 0 rfl rfl 2 (by decide) (hts (.fieldLink "RunProver$Names" 16 "RunProver$Names" "kinds" "[I") (wam0 34 rfl)) (fun _ h9 => h9) rfl hin rfl (by decide +kernel) rfl rfl (Nat.le_of_ble_eq_true rfl) dNm_init_28 (fun H locs hP hD hS => ?_)
  have hP : va_P (dC, dI) vwCl [(h0, .inr (3, [.ref q_1, .ref q_3, .ref q_5, .null, .int 0])), (q_5, .inl (cA_6, 200, .inl (fun _ => 0)))] H := hP
  have hD : va_D A [(h0, .inr (3, [.ref q_1, .ref q_3, .ref q_5, .null, .int 0])), (q_5, .inl (cA_6, 200, .inl (fun _ => 0)))] := hD
  have hP := hP.sub (ws' := [(h0, .inr (3, [.ref q_1, .ref q_3, .ref q_5, .null, .int 0]))]) [0] rfl
  have hD := hD.sub (ws' := [(h0, .inr (3, [.ref q_1, .ref q_3, .ref q_5, .null, .int 0]))]) [0] (by decide) rfl
  have hK := hK.sub (tys' := []) [] rfl
  refine lv_aload_n hx hb dNm_init_31 rfl (lv_at hl 0 rfl) ?_
  refine lv_sipush (v := 200) hx hb dNm_init_32 (by decide) ?_
  refine va_newa (atype := .int) (N' := 200) (a0 := (200, .inl (fun _ => 0))) (ty := .int) (n := 200) hx hb (hts (.arrayClass .int) (wam0 10 rfl)) rfl hK hP hD hS hA (fun _ => rfl) (by decide) (by decide +kernel) (by decide +kernel) (Nat.le_of_ble_eq_true rfl) (Nat.le_of_ble_eq_true rfl) dNm_init_35 (fun q_7 cA_8 H hK hP hD hS => ?_)
  have hP : va_P (dC, dI) vwCl [(h0, .inr (3, [.ref q_1, .ref q_3, .ref q_5, .null, .int 0])), (q_7, .inl (cA_8, 200, .inl (fun _ => 0)))] H := hP
  have hD : va_D A [(h0, .inr (3, [.ref q_1, .ref q_3, .ref q_5, .null, .int 0])), (q_7, .inl (cA_8, 200, .inl (fun _ => 0)))] := hD
  have hK : va_K (dC, dI) vwCl [(cA_8, .int)] s := hK
  refine W.widen (k := 4) (n := 800) (by omega) (by omega) ?_
  refine va_putF (D := (dC, dI)) (ci := 3) (v := .ref q_7) (ty := .array .int) (C := "RunProver$Names") (T := TNm) (N := 5) hx hb hts (inNm _) tyNm tyNm_ok nmNm hown hK hP hD hS 0 rfl rfl 3 (by decide) (hts (.fieldLink "RunProver$Names" 19 "RunProver$Names" "numbers" "[I") (wam0 35 rfl)) (fun _ h9 => h9) rfl hin rfl (by decide +kernel) rfl rfl (Nat.le_of_ble_eq_true rfl) dNm_init_37 (fun H locs hP hD hS => ?_)
  have hP : va_P (dC, dI) vwCl [(h0, .inr (3, [.ref q_1, .ref q_3, .ref q_5, .ref q_7, .int 0])), (q_7, .inl (cA_8, 200, .inl (fun _ => 0)))] H := hP
  have hD : va_D A [(h0, .inr (3, [.ref q_1, .ref q_3, .ref q_5, .ref q_7, .int 0])), (q_7, .inl (cA_8, 200, .inl (fun _ => 0)))] := hD
  have hP := hP.sub (ws' := [(h0, .inr (3, [.ref q_1, .ref q_3, .ref q_5, .ref q_7, .int 0]))]) [0] rfl
  have hD := hD.sub (ws' := [(h0, .inr (3, [.ref q_1, .ref q_3, .ref q_5, .ref q_7, .int 0]))]) [0] (by decide) rfl
  have hK := hK.sub (tys' := []) [] rfl
  have hP9 := hP.sub (ws' := [(h0, .inr (3, [.ref q_1, .ref q_3, .ref q_5, .ref q_7, .int 0]))]) [0] rfl
  have hD9 := hD.sub (ws' := [(h0, .inr (3, [.ref q_1, .ref q_3, .ref q_5, .ref q_7, .int 0]))]) [0] (by decide) rfl
  have hK9 := hK.sub (tys' := []) [] rfl
  exact W.vret hx hb hr (fun t ht hW => ⟨⟨(), rfl, trivial, q_1, q_3, q_5, q_7, by rw [ht]; exact hP9, va_K.moved hW.alike hK9, hD9⟩, hS.F ht⟩) hS.2.2 dNm_init_40
set_option maxHeartbeats 4000000 in
set_option maxRecDepth 100000 in
theorem c_Tk_init (l : Launch) (dC : Nat → ClassId) (dI : Nat → Nat → Nat) (sz : Nat) (h0 : Nat) (h1 : Nat) : Met l yTk_init wsTk_init ({ frames := 1, cells := 3, slots := 24006, locals := 12 }) (va_Pc [.ref h0, .ref h1] (fun U => U.heap.size = sz ∧ va_P (dC, dI) vwCl [(h0, .inr (4, [.null, .null, .null, .null, .int 0, .int 0, .int 0, .int 0, .int 0, .int 0, .int 0, .int 0]))] U.heap ∧ va_K (dC, dI) vwCl [] U ∧ va_D (fun _ => True) [(h0, .inr (4, [.null, .null, .null, .null, .int 0, .int 0, .int 0, .int 0, .int 0, .int 0, .int 0, .int 0]))])) (va_Qv (fun _ : Unit => True) (fun (_ : Unit) (t : State) => ∃ (q_1 : Nat) (q_3 : Nat) (q_5 : Nat) (cA_2 : ClassId) (cA_4 : ClassId) (cA_6 : ClassId), va_P (dC, dI) vwCl [(h0, .inr (4, [.ref q_1, .ref q_3, .ref q_5, .ref h1, .int 0, .int 0, .int 0, .int 0, .int 0, .int 0, .int 0, .int 0])), (q_1, .inl (cA_2, 8002, .inl (fun _ => 0))), (q_3, .inl (cA_4, 8002, .inl (fun _ => 0))), (q_5, .inl (cA_6, 8002, .inl (fun _ => 0)))] t.heap ∧ va_K (dC, dI) vwCl [(cA_2, .int), (cA_4, .int), (cA_6, .int)] t ∧ va_D (va_A [(h0, .inr (4, [.null, .null, .null, .null, .int 0, .int 0, .int 0, .int 0, .int 0, .int 0, .int 0, .int 0]))] sz) [(h0, .inr (4, [.ref q_1, .ref q_3, .ref q_5, .ref h1, .int 0, .int 0, .int 0, .int 0, .int 0, .int 0, .int 0, .int 0])), (q_1, .inl (cA_2, 8002, .inl (fun _ => 0))), (q_3, .inl (cA_4, 8002, .inl (fun _ => 0))), (q_5, .inl (cA_6, 8002, .inl (fun _ => 0)))]) (va_A [(h0, .inr (4, [.null, .null, .null, .null, .int 0, .int 0, .int 0, .int 0, .int 0, .int 0, .int 0, .int 0]))] sz)) 3 24006 (va_A [(h0, .inr (4, [.null, .null, .null, .null, .int 0, .int 0, .int 0, .int 0, .int 0, .int 0, .int 0, .int 0]))] sz) := by
  refine Met.ofW (cc := cTk_init) (maxL := 2) (ret := none) (by decide) rfl ?_
  intro p e s m args below meth c s₁ B hml hv
  obtain ⟨rfl, hsz, hP, hK, hD0⟩ := hv
  have hx := B.exec
  have hb := B.bytes
  have hr := B.returns
  have hts := atoms_spec (ws := wsTk_init) B.pre
  have hown : s.vm.findClass "RunProver$Tokens" = some m.cls := findClass_of_methodNamed B.named
  have hlocks := B.notSynchronized
  have hin : meth.name = "<init>" := (name_of_methodNamed B.named B.method).1
  subst hsz
  have hD := hD0.self (sz := s.heap.size)
  generalize hAe : va_A [(h0, .inr (4, [.null, .null, .null, .null, .int 0, .int 0, .int 0, .int 0, .int 0, .int 0, .int 0, .int 0]))] s.heap.size = A at hD ⊢
  have hA : ∀ q : Nat, s.heap.size ≤ q → A q := fun q h => by rw [← hAe]; exact Or.inr h
  have hS : va_S A s.heap s.heap [] := va_S.rf
  have hP : va_P (dC, dI) vwCl [(h0, .inr (4, [.null, .null, .null, .null, .int 0, .int 0, .int 0, .int 0, .int 0, .int 0, .int 0, .int 0]))] s.heap := hP
  have hl := lv_entry ([.ref h0, .ref h1]) (n := 2) (Nat.le_of_ble_eq_true rfl)
  rw [lg_entry_eq]
  generalize (lg_sl ([.ref h0, .ref h1]) ++ List.replicate (2 - (lg_sl ([.ref h0, .ref h1])).length) Slot.unset).toArray = ls at hl ⊢
  have hl : lv_has ls 2 [(0, .ref h0), (1, .ref h1)] := hl
  refine lv_aload_n hx hb dTk_init_0 rfl (lv_at hl 0 rfl) ?_
  refine W.objInit hx hb hown (hts (.methodLink "RunProver$Tokens" 1 objectInit) (wam1 4 rfl)) (hts (.instanceMethod objectInit) (wam0 1 rfl)) (hts (.code objectInit ⟨#[0xb1]⟩ 1 none) (wam0 2 rfl)) rfl (by rw [hml]; exact hl.1) rfl dTk_init_1 (Nat.le_of_ble_eq_true rfl) (Nat.le_of_ble_eq_true rfl) ?_
  refine W.eq (g2 := F0 m 4 ls []) rfl ?_
  refine lv_aload_n hx hb dTk_init_4 rfl (lv_at hl 0 rfl) ?_
  refine lv_sipush (v := 8002) hx hb dTk_init_5 (by decide) ?_
  refine va_newa (atype := .int) (N' := 8002) (a0 := (8002, .inl (fun _ => 0))) (ty := .int) (n := 8002) hx hb (hts (.arrayClass .int) (wam0 10 rfl)) rfl hK hP hD hS hA (fun _ => rfl) (by decide) (by decide +kernel) (by decide +kernel) (Nat.le_of_ble_eq_true rfl) (Nat.le_of_ble_eq_true rfl) dTk_init_8 (fun q_1 cA_2 H hK hP hD hS => ?_)
  have hP : va_P (dC, dI) vwCl [(h0, .inr (4, [.null, .null, .null, .null, .int 0, .int 0, .int 0, .int 0, .int 0, .int 0, .int 0, .int 0])), (q_1, .inl (cA_2, 8002, .inl (fun _ => 0)))] H := hP
  have hD : va_D A [(h0, .inr (4, [.null, .null, .null, .null, .int 0, .int 0, .int 0, .int 0, .int 0, .int 0, .int 0, .int 0])), (q_1, .inl (cA_2, 8002, .inl (fun _ => 0)))] := hD
  have hK : va_K (dC, dI) vwCl [(cA_2, .int)] s := hK
  refine W.widen (k := 1) (n := 8002) (by omega) (by omega) ?_
  refine va_putF (D := (dC, dI)) (ci := 4) (v := .ref q_1) (ty := .array .int) (C := "RunProver$Tokens") (T := TTk) (N := 12) hx hb hts (inTk _) tyTk tyTk_ok nmTk hown hK hP hD hS 0 rfl rfl 0 (by decide) (hts (.fieldLink "RunProver$Tokens" 9 "RunProver$Tokens" "kinds" "[I") (wam1 5 rfl)) (fun _ h9 => h9) rfl hin rfl (by decide +kernel) rfl rfl (Nat.le_of_ble_eq_true rfl) dTk_init_10 (fun H locs hP hD hS => ?_)
  have hP : va_P (dC, dI) vwCl [(h0, .inr (4, [.ref q_1, .null, .null, .null, .int 0, .int 0, .int 0, .int 0, .int 0, .int 0, .int 0, .int 0])), (q_1, .inl (cA_2, 8002, .inl (fun _ => 0)))] H := hP
  have hD : va_D A [(h0, .inr (4, [.ref q_1, .null, .null, .null, .int 0, .int 0, .int 0, .int 0, .int 0, .int 0, .int 0, .int 0])), (q_1, .inl (cA_2, 8002, .inl (fun _ => 0)))] := hD
  refine lv_aload_n hx hb dTk_init_13 rfl (lv_at hl 0 rfl) ?_
  refine lv_sipush (v := 8002) hx hb dTk_init_14 (by decide) ?_
  refine va_newa (atype := .int) (N' := 8002) (a0 := (8002, .inl (fun _ => 0))) (ty := .int) (n := 8002) hx hb (hts (.arrayClass .int) (wam0 10 rfl)) rfl hK hP hD hS hA (fun _ => rfl) (by decide) (by decide +kernel) (by decide +kernel) (Nat.le_of_ble_eq_true rfl) (Nat.le_of_ble_eq_true rfl) dTk_init_17 (fun q_3 cA_4 H hK hP hD hS => ?_)
  have hP : va_P (dC, dI) vwCl [(h0, .inr (4, [.ref q_1, .null, .null, .null, .int 0, .int 0, .int 0, .int 0, .int 0, .int 0, .int 0, .int 0])), (q_1, .inl (cA_2, 8002, .inl (fun _ => 0))), (q_3, .inl (cA_4, 8002, .inl (fun _ => 0)))] H := hP
  have hD : va_D A [(h0, .inr (4, [.ref q_1, .null, .null, .null, .int 0, .int 0, .int 0, .int 0, .int 0, .int 0, .int 0, .int 0])), (q_1, .inl (cA_2, 8002, .inl (fun _ => 0))), (q_3, .inl (cA_4, 8002, .inl (fun _ => 0)))] := hD
  have hK : va_K (dC, dI) vwCl [(cA_2, .int), (cA_4, .int)] s := hK
  refine W.widen (k := 2) (n := 16004) (by omega) (by omega) ?_
  refine va_putF (D := (dC, dI)) (ci := 4) (v := .ref q_3) (ty := .array .int) (C := "RunProver$Tokens") (T := TTk) (N := 12) hx hb hts (inTk _) tyTk tyTk_ok nmTk hown hK hP hD hS 0 rfl rfl 1 (by decide) (hts (.fieldLink "RunProver$Tokens" 13 "RunProver$Tokens" "places" "[I") (wam1 6 rfl)) (fun _ h9 => h9) rfl hin rfl (by decide +kernel) rfl rfl (Nat.le_of_ble_eq_true rfl) dTk_init_19 (fun H locs hP hD hS => ?_)
  have hP : va_P (dC, dI) vwCl [(h0, .inr (4, [.ref q_1, .ref q_3, .null, .null, .int 0, .int 0, .int 0, .int 0, .int 0, .int 0, .int 0, .int 0])), (q_1, .inl (cA_2, 8002, .inl (fun _ => 0))), (q_3, .inl (cA_4, 8002, .inl (fun _ => 0)))] H := hP
  have hD : va_D A [(h0, .inr (4, [.ref q_1, .ref q_3, .null, .null, .int 0, .int 0, .int 0, .int 0, .int 0, .int 0, .int 0, .int 0])), (q_1, .inl (cA_2, 8002, .inl (fun _ => 0))), (q_3, .inl (cA_4, 8002, .inl (fun _ => 0)))] := hD
  refine lv_aload_n hx hb dTk_init_22 rfl (lv_at hl 0 rfl) ?_
  refine lv_sipush (v := 8002) hx hb dTk_init_23 (by decide) ?_
  refine va_newa (atype := .int) (N' := 8002) (a0 := (8002, .inl (fun _ => 0))) (ty := .int) (n := 8002) hx hb (hts (.arrayClass .int) (wam0 10 rfl)) rfl hK hP hD hS hA (fun _ => rfl) (by decide) (by decide +kernel) (by decide +kernel) (Nat.le_of_ble_eq_true rfl) (Nat.le_of_ble_eq_true rfl) dTk_init_26 (fun q_5 cA_6 H hK hP hD hS => ?_)
  have hP : va_P (dC, dI) vwCl [(h0, .inr (4, [.ref q_1, .ref q_3, .null, .null, .int 0, .int 0, .int 0, .int 0, .int 0, .int 0, .int 0, .int 0])), (q_1, .inl (cA_2, 8002, .inl (fun _ => 0))), (q_3, .inl (cA_4, 8002, .inl (fun _ => 0))), (q_5, .inl (cA_6, 8002, .inl (fun _ => 0)))] H := hP
  have hD : va_D A [(h0, .inr (4, [.ref q_1, .ref q_3, .null, .null, .int 0, .int 0, .int 0, .int 0, .int 0, .int 0, .int 0, .int 0])), (q_1, .inl (cA_2, 8002, .inl (fun _ => 0))), (q_3, .inl (cA_4, 8002, .inl (fun _ => 0))), (q_5, .inl (cA_6, 8002, .inl (fun _ => 0)))] := hD
  have hK : va_K (dC, dI) vwCl [(cA_2, .int), (cA_4, .int), (cA_6, .int)] s := hK
  refine W.widen (k := 3) (n := 24006) (by omega) (by omega) ?_
  refine va_putF (D := (dC, dI)) (ci := 4) (v := .ref q_5) (ty := .array .int) (C := "RunProver$Tokens") (T := TTk) (N := 12) hx hb hts (inTk _) tyTk tyTk_ok nmTk hown hK hP hD hS 0 rfl rfl 2 (by decide) (hts (.fieldLink "RunProver$Tokens" 16 "RunProver$Tokens" "details" "[I") (wam1 7 rfl)) (fun _ h9 => h9) rfl hin rfl (by decide +kernel) rfl rfl (Nat.le_of_ble_eq_true rfl) dTk_init_28 (fun H locs hP hD hS => ?_)
  have hP : va_P (dC, dI) vwCl [(h0, .inr (4, [.ref q_1, .ref q_3, .ref q_5, .null, .int 0, .int 0, .int 0, .int 0, .int 0, .int 0, .int 0, .int 0])), (q_1, .inl (cA_2, 8002, .inl (fun _ => 0))), (q_3, .inl (cA_4, 8002, .inl (fun _ => 0))), (q_5, .inl (cA_6, 8002, .inl (fun _ => 0)))] H := hP
  have hD : va_D A [(h0, .inr (4, [.ref q_1, .ref q_3, .ref q_5, .null, .int 0, .int 0, .int 0, .int 0, .int 0, .int 0, .int 0, .int 0])), (q_1, .inl (cA_2, 8002, .inl (fun _ => 0))), (q_3, .inl (cA_4, 8002, .inl (fun _ => 0))), (q_5, .inl (cA_6, 8002, .inl (fun _ => 0)))] := hD
  refine lv_aload_n hx hb dTk_init_31 rfl (lv_at hl 0 rfl) ?_
  refine lv_aload_n hx hb dTk_init_32 rfl (lv_at hl 1 rfl) ?_
  refine va_putF (D := (dC, dI)) (ci := 4) (v := .ref h1) (ty := .array .byte) (C := "RunProver$Tokens") (T := TTk) (N := 12) hx hb hts (inTk _) tyTk tyTk_ok nmTk hown hK hP hD hS 0 rfl rfl 3 (by decide) (hts (.fieldLink "RunProver$Tokens" 19 "RunProver$Tokens" "text" "[B") (wam1 8 rfl)) (fun _ h9 => h9) rfl hin rfl (by decide +kernel) rfl rfl (Nat.le_of_ble_eq_true rfl) dTk_init_33 (fun H locs hP hD hS => ?_)
  have hP : va_P (dC, dI) vwCl [(h0, .inr (4, [.ref q_1, .ref q_3, .ref q_5, .ref h1, .int 0, .int 0, .int 0, .int 0, .int 0, .int 0, .int 0, .int 0])), (q_1, .inl (cA_2, 8002, .inl (fun _ => 0))), (q_3, .inl (cA_4, 8002, .inl (fun _ => 0))), (q_5, .inl (cA_6, 8002, .inl (fun _ => 0)))] H := hP
  have hD : va_D A [(h0, .inr (4, [.ref q_1, .ref q_3, .ref q_5, .ref h1, .int 0, .int 0, .int 0, .int 0, .int 0, .int 0, .int 0, .int 0])), (q_1, .inl (cA_2, 8002, .inl (fun _ => 0))), (q_3, .inl (cA_4, 8002, .inl (fun _ => 0))), (q_5, .inl (cA_6, 8002, .inl (fun _ => 0)))] := hD
  have hP9 := hP.sub (ws' := [(h0, .inr (4, [.ref q_1, .ref q_3, .ref q_5, .ref h1, .int 0, .int 0, .int 0, .int 0, .int 0, .int 0, .int 0, .int 0])), (q_1, .inl (cA_2, 8002, .inl (fun _ => 0))), (q_3, .inl (cA_4, 8002, .inl (fun _ => 0))), (q_5, .inl (cA_6, 8002, .inl (fun _ => 0)))]) [0, 1, 2, 3] rfl
  have hD9 := hD.sub (ws' := [(h0, .inr (4, [.ref q_1, .ref q_3, .ref q_5, .ref h1, .int 0, .int 0, .int 0, .int 0, .int 0, .int 0, .int 0, .int 0])), (q_1, .inl (cA_2, 8002, .inl (fun _ => 0))), (q_3, .inl (cA_4, 8002, .inl (fun _ => 0))), (q_5, .inl (cA_6, 8002, .inl (fun _ => 0)))]) [0, 1, 2, 3] (by decide) rfl
  have hK9 := hK.sub (tys' := [(cA_2, .int), (cA_4, .int), (cA_6, .int)]) [0, 1, 2] rfl
  exact W.vret hx hb hr (fun t ht hW => ⟨⟨(), rfl, trivial, q_1, q_3, q_5, cA_2, cA_4, cA_6, by rw [ht]; exact hP9, va_K.moved hW.alike hK9, hD9⟩, hS.F ht⟩) hS.2.2 dTk_init_36
end
