def TRp : u_T := fun k => match k with
  | 0 => ("RunProver", "tape", "[B", true)
  | 1 => ("RunProver", "program", "LRunProver$Program;", true)
  | 2 => ("RunProver", "parser", "LRunProver$Parser;", true)
  | 3 => ("RunProver", "gates", "LRunProver$Gates;", true)
  | 4 => ("RunProver", "unroller", "LRunProver$Unroller;", true)
  | 5 => ("RunProver", "clauses", "LRunProver$Clauses;", true)
  | 6 => ("RunProver", "checker", "LRunProver$Checker;", true)
  | 7 => ("RunProver", "search", "LRunProver$Search;", true)
  | 8 => ("RunProver", "inputs", "[I", true)
  | 9 => ("RunProver", "goals", "[I", true)
  | 10 => ("RunProver", "goalCount", "I", false)
  | 11 => ("RunProver", "tapeLength", "I", false)
  | 12 => ("RunProver", "faultKind", "I", false)
  | 13 => ("RunProver", "faultPlace", "I", false)
  | 14 => ("RunProver", "hasText", "Z", false)
  | _ => ("RunProver", "unproved", "I", false)
def tyRp : Nat → FieldType := fun k => match k with
  | 0 => .array .byte
  | 1 => .object "RunProver$Program"
  | 2 => .object "RunProver$Parser"
  | 3 => .object "RunProver$Gates"
  | 4 => .object "RunProver$Unroller"
  | 5 => .object "RunProver$Clauses"
  | 6 => .object "RunProver$Checker"
  | 7 => .object "RunProver$Search"
  | 8 => .array .int
  | 9 => .array .int
  | 10 => .int
  | 11 => .int
  | 12 => .int
  | 13 => .int
  | 14 => .boolean
  | _ => .int
theorem nmRp : ∀ a, a < 16 → ∀ b, b < 16 → a ≠ b → (TRp a).2.1 ≠ (TRp b).2.1 := by decide +kernel
theorem tyRp_ok : ∀ k, k < 16 → parseFieldDescriptor (TRp k).2.2.1 = some (tyRp k) := by decide +kernel
def TPg : u_T := fun k => match k with
  | 0 => ("RunProver$Program", "rows", "[I", true)
  | 1 => ("RunProver$Program", "functions", "[I", true)
  | 2 => ("RunProver$Program", "codes", "[I", true)
  | 3 => ("RunProver$Program", "operands", "[I", true)
  | 4 => ("RunProver$Program", "slotFirst", "[I", true)
  | 5 => ("RunProver$Program", "slotSize", "[I", true)
  | 6 => ("RunProver$Program", "checkKinds", "[I", true)
  | 7 => ("RunProver$Program", "checkPlaces", "[I", true)
  | 8 => ("RunProver$Program", "statements", "I", false)
  | 9 => ("RunProver$Program", "functionCount", "I", false)
  | 10 => ("RunProver$Program", "codeSize", "I", false)
  | 11 => ("RunProver$Program", "slots", "I", false)
  | 12 => ("RunProver$Program", "elements", "I", false)
  | 13 => ("RunProver$Program", "checks", "I", false)
  | 14 => ("RunProver$Program", "width", "I", false)
  | 15 => ("RunProver$Program", "costs", "I", false)
  | _ => ("RunProver$Program", "first", "I", false)
def tyPg : Nat → FieldType := fun k => match k with
  | 0 => .array .int
  | 1 => .array .int
  | 2 => .array .int
  | 3 => .array .int
  | 4 => .array .int
  | 5 => .array .int
  | 6 => .array .int
  | 7 => .array .int
  | 8 => .int
  | 9 => .int
  | 10 => .int
  | 11 => .int
  | 12 => .int
  | 13 => .int
  | 14 => .int
  | 15 => .int
  | _ => .int
theorem nmPg : ∀ a, a < 17 → ∀ b, b < 17 → a ≠ b → (TPg a).2.1 ≠ (TPg b).2.1 := by decide +kernel
theorem tyPg_ok : ∀ k, k < 17 → parseFieldDescriptor (TPg k).2.2.1 = some (tyPg k) := by decide +kernel
def TPa : u_T := fun k => match k with
  | 0 => ("RunProver$Parser", "tokens", "LRunProver$Tokens;", true)
  | 1 => ("RunProver$Parser", "names", "LRunProver$Names;", true)
  | 2 => ("RunProver$Parser", "program", "LRunProver$Program;", true)
  | 3 => ("RunProver$Parser", "expressions", "LRunProver$Expressions;", true)
  | _ => ("RunProver$Parser", "bits", "I", false)
def tyPa : Nat → FieldType := fun k => match k with
  | 0 => .object "RunProver$Tokens"
  | 1 => .object "RunProver$Names"
  | 2 => .object "RunProver$Program"
  | 3 => .object "RunProver$Expressions"
  | _ => .int
theorem nmPa : ∀ a, a < 5 → ∀ b, b < 5 → a ≠ b → (TPa a).2.1 ≠ (TPa b).2.1 := by decide +kernel
theorem tyPa_ok : ∀ k, k < 5 → parseFieldDescriptor (TPa k).2.2.1 = some (tyPa k) := by decide +kernel
def TNm : u_T := fun k => match k with
  | 0 => ("RunProver$Names", "places", "[I", true)
  | 1 => ("RunProver$Names", "sizes", "[I", true)
  | 2 => ("RunProver$Names", "kinds", "[I", true)
  | 3 => ("RunProver$Names", "numbers", "[I", true)
  | _ => ("RunProver$Names", "amount", "I", false)
def tyNm : Nat → FieldType := fun k => match k with
  | 0 => .array .int
  | 1 => .array .int
  | 2 => .array .int
  | 3 => .array .int
  | _ => .int
theorem nmNm : ∀ a, a < 5 → ∀ b, b < 5 → a ≠ b → (TNm a).2.1 ≠ (TNm b).2.1 := by decide +kernel
theorem tyNm_ok : ∀ k, k < 5 → parseFieldDescriptor (TNm k).2.2.1 = some (tyNm k) := by decide +kernel
def TTk : u_T := fun k => match k with
  | 0 => ("RunProver$Tokens", "kinds", "[I", true)
  | 1 => ("RunProver$Tokens", "places", "[I", true)
  | 2 => ("RunProver$Tokens", "details", "[I", true)
  | 3 => ("RunProver$Tokens", "text", "[B", true)
  | 4 => ("RunProver$Tokens", "length", "I", false)
  | 5 => ("RunProver$Tokens", "amount", "I", false)
  | 6 => ("RunProver$Tokens", "at", "I", false)
  | 7 => ("RunProver$Tokens", "kind", "I", false)
  | 8 => ("RunProver$Tokens", "place", "I", false)
  | 9 => ("RunProver$Tokens", "detail", "I", false)
  | 10 => ("RunProver$Tokens", "faultKind", "I", false)
  | _ => ("RunProver$Tokens", "faultPlace", "I", false)
def tyTk : Nat → FieldType := fun k => match k with
  | 0 => .array .int
  | 1 => .array .int
  | 2 => .array .int
  | 3 => .array .byte
  | 4 => .int
  | 5 => .int
  | 6 => .int
  | 7 => .int
  | 8 => .int
  | 9 => .int
  | 10 => .int
  | _ => .int
theorem nmTk : ∀ a, a < 12 → ∀ b, b < 12 → a ≠ b → (TTk a).2.1 ≠ (TTk b).2.1 := by decide +kernel
theorem tyTk_ok : ∀ k, k < 12 → parseFieldDescriptor (TTk k).2.2.1 = some (tyTk k) := by decide +kernel
def TEx : u_T := fun k => match k with
  | 0 => ("RunProver$Expressions", "tokens", "LRunProver$Tokens;", true)
  | 1 => ("RunProver$Expressions", "names", "LRunProver$Names;", true)
  | 2 => ("RunProver$Expressions", "program", "LRunProver$Program;", true)
  | 3 => ("RunProver$Expressions", "waiting", "[I", true)
  | 4 => ("RunProver$Expressions", "waitingDepth", "[I", true)
  | 5 => ("RunProver$Expressions", "waitingCount", "I", false)
  | 6 => ("RunProver$Expressions", "inFunction", "Z", false)
  | 7 => ("RunProver$Expressions", "cost", "I", false)
  | _ => ("RunProver$Expressions", "deepest", "I", false)
def tyEx : Nat → FieldType := fun k => match k with
  | 0 => .object "RunProver$Tokens"
  | 1 => .object "RunProver$Names"
  | 2 => .object "RunProver$Program"
  | 3 => .array .int
  | 4 => .array .int
  | 5 => .int
  | 6 => .boolean
  | 7 => .int
  | _ => .int
theorem nmEx : ∀ a, a < 9 → ∀ b, b < 9 → a ≠ b → (TEx a).2.1 ≠ (TEx b).2.1 := by decide +kernel
theorem tyEx_ok : ∀ k, k < 9 → parseFieldDescriptor (TEx k).2.2.1 = some (tyEx k) := by decide +kernel
def TGa : u_T := fun k => match k with
  | 0 => ("RunProver$Gates", "kinds", "[B", true)
  | 1 => ("RunProver$Gates", "first", "[I", true)
  | 2 => ("RunProver$Gates", "second", "[I", true)
  | 3 => ("RunProver$Gates", "third", "[I", true)
  | 4 => ("RunProver$Gates", "truth", "[B", true)
  | 5 => ("RunProver$Gates", "wanted", "[B", true)
  | 6 => ("RunProver$Gates", "table", "[I", true)
  | 7 => ("RunProver$Gates", "behind", "[I", true)
  | _ => ("RunProver$Gates", "size", "I", false)
def tyGa : Nat → FieldType := fun k => match k with
  | 0 => .array .byte
  | 1 => .array .int
  | 2 => .array .int
  | 3 => .array .int
  | 4 => .array .byte
  | 5 => .array .byte
  | 6 => .array .int
  | 7 => .array .int
  | _ => .int
theorem nmGa : ∀ a, a < 9 → ∀ b, b < 9 → a ≠ b → (TGa a).2.1 ≠ (TGa b).2.1 := by decide +kernel
theorem tyGa_ok : ∀ k, k < 9 → parseFieldDescriptor (TGa k).2.2.1 = some (tyGa k) := by decide +kernel
def TUn : u_T := fun k => match k with
  | 0 => ("RunProver$Unroller", "program", "LRunProver$Program;", true)
  | 1 => ("RunProver$Unroller", "gates", "LRunProver$Gates;", true)
  | 2 => ("RunProver$Unroller", "words", "LRunProver$Words;", true)
  | 3 => ("RunProver$Unroller", "callAt", "[I", true)
  | 4 => ("RunProver$Unroller", "callStop", "[I", true)
  | 5 => ("RunProver$Unroller", "callFrame", "[I", true)
  | 6 => ("RunProver$Unroller", "cells", "[I", true)
  | 7 => ("RunProver$Unroller", "on", "I", false)
  | 8 => ("RunProver$Unroller", "broken", "[I", true)
  | 9 => ("RunProver$Unroller", "reached", "[I", true)
  | 10 => ("RunProver$Unroller", "inputSizes", "[I", true)
  | 11 => ("RunProver$Unroller", "inputCount", "I", false)
  | 12 => ("RunProver$Unroller", "bitNodes", "[I", true)
  | _ => ("RunProver$Unroller", "bitCount", "I", false)
def tyUn : Nat → FieldType := fun k => match k with
  | 0 => .object "RunProver$Program"
  | 1 => .object "RunProver$Gates"
  | 2 => .object "RunProver$Words"
  | 3 => .array .int
  | 4 => .array .int
  | 5 => .array .int
  | 6 => .array .int
  | 7 => .int
  | 8 => .array .int
  | 9 => .array .int
  | 10 => .array .int
  | 11 => .int
  | 12 => .array .int
  | _ => .int
theorem nmUn : ∀ a, a < 14 → ∀ b, b < 14 → a ≠ b → (TUn a).2.1 ≠ (TUn b).2.1 := by decide +kernel
theorem tyUn_ok : ∀ k, k < 14 → parseFieldDescriptor (TUn k).2.2.1 = some (tyUn k) := by decide +kernel
def TWo : u_T := fun k => match k with
  | 0 => ("RunProver$Words", "gates", "LRunProver$Gates;", true)
  | 1 => ("RunProver$Words", "rows", "[I", true)
  | 2 => ("RunProver$Words", "result", "[I", true)
  | 3 => ("RunProver$Words", "difference", "[I", true)
  | 4 => ("RunProver$Words", "tree", "[I", true)
  | 5 => ("RunProver$Words", "width", "I", false)
  | _ => ("RunProver$Words", "top", "I", false)
def tyWo : Nat → FieldType := fun k => match k with
  | 0 => .object "RunProver$Gates"
  | 1 => .array .int
  | 2 => .array .int
  | 3 => .array .int
  | 4 => .array .int
  | 5 => .int
  | _ => .int
theorem nmWo : ∀ a, a < 7 → ∀ b, b < 7 → a ≠ b → (TWo a).2.1 ≠ (TWo b).2.1 := by decide +kernel
theorem tyWo_ok : ∀ k, k < 7 → parseFieldDescriptor (TWo k).2.2.1 = some (tyWo k) := by decide +kernel
def TCl : u_T := fun k => match k with
  | 0 => ("RunProver$Clauses", "literals", "[I", true)
  | 1 => ("RunProver$Clauses", "starts", "[I", true)
  | 2 => ("RunProver$Clauses", "amount", "I", false)
  | _ => ("RunProver$Clauses", "given", "I", false)
def tyCl : Nat → FieldType := fun k => match k with
  | 0 => .array .int
  | 1 => .array .int
  | 2 => .int
  | _ => .int
theorem nmCl : ∀ a, a < 4 → ∀ b, b < 4 → a ≠ b → (TCl a).2.1 ≠ (TCl b).2.1 := by decide +kernel
theorem tyCl_ok : ∀ k, k < 4 → parseFieldDescriptor (TCl k).2.2.1 = some (tyCl k) := by decide +kernel
def TCk : u_T := fun k => match k with
  | 0 => ("RunProver$Checker", "clauses", "LRunProver$Clauses;", true)
  | 1 => ("RunProver$Checker", "truth", "[B", true)
  | 2 => ("RunProver$Checker", "assumed", "[I", true)
  | 3 => ("RunProver$Checker", "assumedCount", "I", false)
  | 4 => ("RunProver$Checker", "refusedOne", "Z", false)
  | _ => ("RunProver$Checker", "refuted", "Z", false)
def tyCk : Nat → FieldType := fun k => match k with
  | 0 => .object "RunProver$Clauses"
  | 1 => .array .byte
  | 2 => .array .int
  | 3 => .int
  | 4 => .boolean
  | _ => .boolean
theorem nmCk : ∀ a, a < 6 → ∀ b, b < 6 → a ≠ b → (TCk a).2.1 ≠ (TCk b).2.1 := by decide +kernel
theorem tyCk_ok : ∀ k, k < 6 → parseFieldDescriptor (TCk k).2.2.1 = some (tyCk k) := by decide +kernel
def TSe : u_T := fun k => match k with
  | 0 => ("RunProver$Search", "clauses", "LRunProver$Clauses;", true)
  | 1 => ("RunProver$Search", "checker", "LRunProver$Checker;", true)
  | 2 => ("RunProver$Search", "watched", "[I", true)
  | 3 => ("RunProver$Search", "nextWatch", "[I", true)
  | 4 => ("RunProver$Search", "firstWatch", "[I", true)
  | 5 => ("RunProver$Search", "truth", "[B", true)
  | 6 => ("RunProver$Search", "level", "[B", true)
  | 7 => ("RunProver$Search", "reason", "[I", true)
  | 8 => ("RunProver$Search", "trail", "[I", true)
  | 9 => ("RunProver$Search", "levelStart", "[I", true)
  | 10 => ("RunProver$Search", "seen", "[B", true)
  | 11 => ("RunProver$Search", "learnt", "[I", true)
  | 12 => ("RunProver$Search", "chain", "[I", true)
  | 13 => ("RunProver$Search", "trailSize", "I", false)
  | 14 => ("RunProver$Search", "done", "I", false)
  | 15 => ("RunProver$Search", "depth", "I", false)
  | 16 => ("RunProver$Search", "learntSize", "I", false)
  | 17 => ("RunProver$Search", "chainSize", "I", false)
  | 18 => ("RunProver$Search", "seenCount", "I", false)
  | 19 => ("RunProver$Search", "seenHere", "I", false)
  | _ => ("RunProver$Search", "decisionsAlone", "Z", false)
def tySe : Nat → FieldType := fun k => match k with
  | 0 => .object "RunProver$Clauses"
  | 1 => .object "RunProver$Checker"
  | 2 => .array .int
  | 3 => .array .int
  | 4 => .array .int
  | 5 => .array .byte
  | 6 => .array .byte
  | 7 => .array .int
  | 8 => .array .int
  | 9 => .array .int
  | 10 => .array .byte
  | 11 => .array .int
  | 12 => .array .int
  | 13 => .int
  | 14 => .int
  | 15 => .int
  | 16 => .int
  | 17 => .int
  | 18 => .int
  | 19 => .int
  | _ => .boolean
theorem nmSe : ∀ a, a < 21 → ∀ b, b < 21 → a ≠ b → (TSe a).2.1 ≠ (TSe b).2.1 := by decide +kernel
theorem tySe_ok : ∀ k, k < 21 → parseFieldDescriptor (TSe k).2.2.1 = some (tySe k) := by decide +kernel
def TMo : u_T := fun k => match k with
  | 0 => ("RunProverModel", "tape", "[B", true)
  | 1 => ("RunProverModel", "size", "I", false)
  | 2 => ("RunProverModel", "thrown", "I", false)
  | 3 => ("RunProverModel", "faultKind", "I", false)
  | 4 => ("RunProverModel", "faultPlace", "I", false)
  | 5 => ("RunProverModel", "there", "Z", false)
  | 6 => ("RunProverModel", "pos", "I", false)
  | 7 => ("RunProverModel", "token", "I", false)
  | 8 => ("RunProverModel", "tokenAt", "I", false)
  | 9 => ("RunProverModel", "tokenEnd", "I", false)
  | 10 => ("RunProverModel", "tokens", "I", false)
  | 11 => ("RunProverModel", "seen", "Z", false)
  | 12 => ("RunProverModel", "wordAt", "[I", true)
  | 13 => ("RunProverModel", "wordSize", "[I", true)
  | 14 => ("RunProverModel", "nameKind", "[I", true)
  | 15 => ("RunProverModel", "nameNumber", "[I", true)
  | 16 => ("RunProverModel", "names", "I", false)
  | 17 => ("RunProverModel", "declared", "I", false)
  | 18 => ("RunProverModel", "width", "I", false)
  | 19 => ("RunProverModel", "elements", "[I", true)
  | 20 => ("RunProverModel", "cellAt", "[I", true)
  | 21 => ("RunProverModel", "things", "I", false)
  | 22 => ("RunProverModel", "cells", "I", false)
  | 23 => ("RunProverModel", "parameters", "[I", true)
  | 24 => ("RunProverModel", "body", "[I", true)
  | 25 => ("RunProverModel", "functions", "I", false)
  | 26 => ("RunProverModel", "sort", "[I", true)
  | 27 => ("RunProverModel", "of", "[I", true)
  | 28 => ("RunProverModel", "kid", "[I", true)
  | 29 => ("RunProverModel", "beside", "[I", true)
  | 30 => ("RunProverModel", "by", "[I", true)
  | 31 => ("RunProverModel", "deep", "[I", true)
  | 32 => ("RunProverModel", "cost", "[I", true)
  | 33 => ("RunProverModel", "nodes", "I", false)
  | 34 => ("RunProverModel", "deepest", "I", false)
  | 35 => ("RunProverModel", "inFunction", "Z", false)
  | 36 => ("RunProverModel", "checks", "I", false)
  | 37 => ("RunProverModel", "program", "I", false)
  | 38 => ("RunProverModel", "bits", "I", false)
  | 39 => ("RunProverModel", "inputs", "I", false)
  | 40 => ("RunProverModel", "checkKind", "[I", true)
  | 41 => ("RunProverModel", "checkAt", "[I", true)
  | 42 => ("RunProverModel", "taken", "[I", true)
  | 43 => ("RunProverModel", "takenBits", "[I", true)
  | 44 => ("RunProverModel", "limitOf", "[I", true)
  | 45 => ("RunProverModel", "bitsOf", "[I", true)
  | 46 => ("RunProverModel", "in", "[I", true)
  | 47 => ("RunProverModel", "read", "[Z", true)
  | 48 => ("RunProverModel", "cell", "[I", true)
  | 49 => ("RunProverModel", "given", "[I", true)
  | 50 => ("RunProverModel", "top", "I", false)
  | 51 => ("RunProverModel", "base", "I", false)
  | 52 => ("RunProverModel", "over", "I", false)
  | 53 => ("RunProverModel", "broken", "I", false)
  | 54 => ("RunProverModel", "came", "[Z", true)
  | _ => ("RunProverModel", "before", "[I", true)
def tyMo : Nat → FieldType := fun k => match k with
  | 0 => .array .byte
  | 1 => .int
  | 2 => .int
  | 3 => .int
  | 4 => .int
  | 5 => .boolean
  | 6 => .int
  | 7 => .int
  | 8 => .int
  | 9 => .int
  | 10 => .int
  | 11 => .boolean
  | 12 => .array .int
  | 13 => .array .int
  | 14 => .array .int
  | 15 => .array .int
  | 16 => .int
  | 17 => .int
  | 18 => .int
  | 19 => .array .int
  | 20 => .array .int
  | 21 => .int
  | 22 => .int
  | 23 => .array .int
  | 24 => .array .int
  | 25 => .int
  | 26 => .array .int
  | 27 => .array .int
  | 28 => .array .int
  | 29 => .array .int
  | 30 => .array .int
  | 31 => .array .int
  | 32 => .array .int
  | 33 => .int
  | 34 => .int
  | 35 => .boolean
  | 36 => .int
  | 37 => .int
  | 38 => .int
  | 39 => .int
  | 40 => .array .int
  | 41 => .array .int
  | 42 => .array .int
  | 43 => .array .int
  | 44 => .array .int
  | 45 => .array .int
  | 46 => .array .int
  | 47 => .array .boolean
  | 48 => .array .int
  | 49 => .array .int
  | 50 => .int
  | 51 => .int
  | 52 => .int
  | 53 => .int
  | 54 => .array .boolean
  | _ => .array .int
theorem nmMo : ∀ a, a < 56 → ∀ b, b < 56 → a ≠ b → (TMo a).2.1 ≠ (TMo b).2.1 := by decide +kernel
theorem tyMo_ok : ∀ k, k < 56 → parseFieldDescriptor (TMo k).2.2.1 = some (tyMo k) := by decide +kernel
def TWr : u_T := fun k => match k with
  | 0 => ("java/lang/Throwable", "cause", "Ljava/lang/Throwable;", false)
  | 1 => ("java/lang/Throwable", "stackTrace", "[Ljava/lang/StackTraceElement;", false)
  | 2 => ("java/lang/Throwable", "suppressedExceptions", "Ljava/util/List;", false)
  | 3 => ("java/lang/Throwable", "detailMessage", "Ljava/lang/String;", false)
  | 4 => ("java/lang/Throwable", "backtrace", "Ljava/lang/Object;", false)
  | 5 => ("RunProverModel$Wrong", "kind", "I", true)
  | 6 => ("RunProverModel$Wrong", "place", "I", true)
  | _ => ("java/lang/Throwable", "depth", "I", false)
def tyWr : Nat → FieldType := fun k => match k with
  | 0 => .object "java/lang/Throwable"
  | 1 => .array (.object "java/lang/StackTraceElement")
  | 2 => .object "java/util/List"
  | 3 => .object "java/lang/String"
  | 4 => .object "java/lang/Object"
  | 5 => .int
  | 6 => .int
  | _ => .int
theorem nmWr : ∀ a, a < 8 → ∀ b, b < 8 → a ≠ b → (TWr a).2.1 ≠ (TWr b).2.1 := by decide +kernel
theorem tyWr_ok : ∀ k, k < 8 → parseFieldDescriptor (TWr k).2.2.1 = some (tyWr k) := by decide +kernel
abbrev vwCl : List vw_C := [("RunProver", TRp, 16), ("RunProver$Program", TPg, 17), ("RunProver$Parser", TPa, 5), ("RunProver$Names", TNm, 5), ("RunProver$Tokens", TTk, 12), ("RunProver$Expressions", TEx, 9), ("RunProver$Gates", TGa, 9), ("RunProver$Unroller", TUn, 14), ("RunProver$Words", TWo, 7), ("RunProver$Clauses", TCl, 4), ("RunProver$Checker", TCk, 6), ("RunProver$Search", TSe, 21), ("RunProverModel", TMo, 56), ("RunProverModel$Wrong", TWr, 8)]
abbrev cRp_init : ByteArray := prog_1_method_1_code
def yRp_init : MethodName := ⟨"RunProver", "<init>", "()V"⟩
abbrev cOb_init : ByteArray := object_method_1_code
def yOb_init : MethodName := ⟨"java/lang/Object", "<init>", "()V"⟩
abbrev cPg_init : ByteArray := prog_8_method_1_code
def yPg_init : MethodName := ⟨"RunProver$Program", "<init>", "()V"⟩
abbrev cPa_init : ByteArray := prog_7_method_1_code
def yPa_init : MethodName := ⟨"RunProver$Parser", "<init>", "(LRunProver$Program;[B)V"⟩
abbrev cNm_init : ByteArray := prog_6_method_1_code
def yNm_init : MethodName := ⟨"RunProver$Names", "<init>", "()V"⟩
abbrev cTk_init : ByteArray := prog_10_method_1_code
def yTk_init : MethodName := ⟨"RunProver$Tokens", "<init>", "([B)V"⟩
abbrev cEx_init : ByteArray := prog_4_method_1_code
def yEx_init : MethodName := ⟨"RunProver$Expressions", "<init>", "(LRunProver$Tokens;LRunProver$Names;LRunProver$Program;)V"⟩
abbrev cGa_init : ByteArray := prog_5_method_1_code
def yGa_init : MethodName := ⟨"RunProver$Gates", "<init>", "()V"⟩
abbrev cUn_init : ByteArray := prog_11_method_1_code
def yUn_init : MethodName := ⟨"RunProver$Unroller", "<init>", "(LRunProver$Program;LRunProver$Gates;)V"⟩
abbrev cWo_init : ByteArray := prog_12_method_1_code
def yWo_init : MethodName := ⟨"RunProver$Words", "<init>", "(LRunProver$Gates;)V"⟩
abbrev cCl_init : ByteArray := prog_3_method_1_code
def yCl_init : MethodName := ⟨"RunProver$Clauses", "<init>", "()V"⟩
abbrev cCk_init : ByteArray := prog_2_method_1_code
def yCk_init : MethodName := ⟨"RunProver$Checker", "<init>", "(LRunProver$Clauses;)V"⟩
abbrev cSe_init : ByteArray := prog_9_method_1_code
def ySe_init : MethodName := ⟨"RunProver$Search", "<init>", "(LRunProver$Clauses;LRunProver$Checker;)V"⟩
abbrev cRp_read : ByteArray := prog_1_method_5_code
def yRp_read : MethodName := ⟨"RunProver", "read", "()I"⟩
abbrev cAr_fill : ByteArray := prog_30_method_103_code
def yAr_fill : MethodName := ⟨"java/util/Arrays", "fill", "([II)V"⟩
abbrev cPa_parse : ByteArray := prog_7_method_2_code
def yPa_parse : MethodName := ⟨"RunProver$Parser", "parse", "(I)V"⟩
abbrev cPg_clear : ByteArray := prog_8_method_2_code
def yPg_clear : MethodName := ⟨"RunProver$Program", "clear", "()V"⟩
abbrev cEx_begin : ByteArray := prog_4_method_2_code
def yEx_begin : MethodName := ⟨"RunProver$Expressions", "begin", "()V"⟩
abbrev cTk_begin : ByteArray := prog_10_method_2_code
def yTk_begin : MethodName := ⟨"RunProver$Tokens", "begin", "(I)V"⟩
abbrev cTk_behindBlanks : ByteArray := prog_10_method_10_code
def yTk_behindBlanks : MethodName := ⟨"RunProver$Tokens", "behindBlanks", "(I)I"⟩
abbrev cTk_cut : ByteArray := prog_10_method_11_code
def yTk_cut : MethodName := ⟨"RunProver$Tokens", "cut", "(I)I"⟩
abbrev cTk_isLetter : ByteArray := prog_10_method_19_code
def yTk_isLetter : MethodName := ⟨"RunProver$Tokens", "isLetter", "(I)Z"⟩
abbrev cTk_wordEnd : ByteArray := prog_10_method_12_code
def yTk_wordEnd : MethodName := ⟨"RunProver$Tokens", "wordEnd", "(I)I"⟩
abbrev cTk_isDigit : ByteArray := prog_10_method_20_code
def yTk_isDigit : MethodName := ⟨"RunProver$Tokens", "isDigit", "(I)Z"⟩
abbrev cTk_wordKind : ByteArray := prog_10_method_15_code
def yTk_wordKind : MethodName := ⟨"RunProver$Tokens", "wordKind", "(II)I"⟩
abbrev cTk_numberEnd : ByteArray := prog_10_method_13_code
def yTk_numberEnd : MethodName := ⟨"RunProver$Tokens", "numberEnd", "(I)I"⟩
abbrev cTk_numberIn : ByteArray := prog_10_method_14_code
def yTk_numberIn : MethodName := ⟨"RunProver$Tokens", "numberIn", "(II)I"⟩
abbrev cTk_pairKind : ByteArray := prog_10_method_16_code
def yTk_pairKind : MethodName := ⟨"RunProver$Tokens", "pairKind", "(II)I"⟩
abbrev cTk_signKind : ByteArray := prog_10_method_17_code
def yTk_signKind : MethodName := ⟨"RunProver$Tokens", "signKind", "(I)I"⟩
abbrev cTk_advance : ByteArray := prog_10_method_3_code
def yTk_advance : MethodName := ⟨"RunProver$Tokens", "advance", "()V"⟩
abbrev cTk_take : ByteArray := prog_10_method_7_code
def yTk_take : MethodName := ⟨"RunProver$Tokens", "take", "(I)V"⟩
abbrev cTk_misfit : ByteArray := prog_10_method_6_code
def yTk_misfit : MethodName := ⟨"RunProver$Tokens", "misfit", "()I"⟩
abbrev cTk_fail : ByteArray := prog_10_method_4_code
def yTk_fail : MethodName := ⟨"RunProver$Tokens", "fail", "(II)V"⟩
abbrev cTk_takeNumber : ByteArray := prog_10_method_8_code
def yTk_takeNumber : MethodName := ⟨"RunProver$Tokens", "takeNumber", "(II)I"⟩
abbrev cPa_declarations : ByteArray := prog_7_method_3_code
def yPa_declarations : MethodName := ⟨"RunProver$Parser", "declarations", "()V"⟩
abbrev cPa_variable : ByteArray := prog_7_method_4_code
def yPa_variable : MethodName := ⟨"RunProver$Parser", "variable", "()V"⟩
abbrev cNm_declare : ByteArray := prog_6_method_5_code
def yNm_declare : MethodName := ⟨"RunProver$Names", "declare", "(LRunProver$Tokens;IZ)I"⟩
abbrev cTk_refuse : ByteArray := prog_10_method_5_code
def yTk_refuse : MethodName := ⟨"RunProver$Tokens", "refuse", "()V"⟩
abbrev cNm_find : ByteArray := prog_6_method_2_code
def yNm_find : MethodName := ⟨"RunProver$Names", "find", "(LRunProver$Tokens;)I"⟩
abbrev cTk_sameWord : ByteArray := prog_10_method_18_code
def yTk_sameWord : MethodName := ⟨"RunProver$Tokens", "sameWord", "(II)Z"⟩
abbrev cPg_addSlot : ByteArray := prog_8_method_4_code
def yPg_addSlot : MethodName := ⟨"RunProver$Program", "addSlot", "(I)I"⟩
abbrev cNm_define : ByteArray := prog_6_method_6_code
def yNm_define : MethodName := ⟨"RunProver$Names", "define", "(III)V"⟩
abbrev cPa_function : ByteArray := prog_7_method_5_code
def yPa_function : MethodName := ⟨"RunProver$Parser", "function", "()V"⟩
abbrev cPa_parameters : ByteArray := prog_7_method_6_code
def yPa_parameters : MethodName := ⟨"RunProver$Parser", "parameters", "()I"⟩
abbrev cEx_expression : ByteArray := prog_4_method_4_code
def yEx_expression : MethodName := ⟨"RunProver$Expressions", "expression", "(I)I"⟩
abbrev cEx_operand : ByteArray := prog_4_method_8_code
def yEx_operand : MethodName := ⟨"RunProver$Expressions", "operand", "(I)I"⟩
abbrev cTk_tooDeep : ByteArray := prog_10_method_9_code
def yTk_tooDeep : MethodName := ⟨"RunProver$Tokens", "tooDeep", "(I)Z"⟩
abbrev cEx_turned : ByteArray := prog_4_method_9_code
def yEx_turned : MethodName := ⟨"RunProver$Expressions", "turned", "(II)I"⟩
abbrev cPg_emit : ByteArray := prog_8_method_10_code
def yPg_emit : MethodName := ⟨"RunProver$Program", "emit", "(II)V"⟩
abbrev cEx_signCost : ByteArray := prog_4_method_16_code
def yEx_signCost : MethodName := ⟨"RunProver$Expressions", "signCost", "(I)I"⟩
abbrev cEx_addCost : ByteArray := prog_4_method_3_code
def yEx_addCost : MethodName := ⟨"RunProver$Expressions", "addCost", "(I)V"⟩
abbrev cEx_bracketed : ByteArray := prog_4_method_10_code
def yEx_bracketed : MethodName := ⟨"RunProver$Expressions", "bracketed", "(III)I"⟩
abbrev cEx_signedBelow : ByteArray := prog_4_method_11_code
def yEx_signedBelow : MethodName := ⟨"RunProver$Expressions", "signedBelow", "(I)I"⟩
abbrev cEx_named : ByteArray := prog_4_method_12_code
def yEx_named : MethodName := ⟨"RunProver$Expressions", "named", "(I)I"⟩
abbrev cNm_kindOf : ByteArray := prog_6_method_3_code
def yNm_kindOf : MethodName := ⟨"RunProver$Names", "kindOf", "(I)I"⟩
abbrev cNm_numberOf : ByteArray := prog_6_method_4_code
def yNm_numberOf : MethodName := ⟨"RunProver$Names", "numberOf", "(I)I"⟩
abbrev cEx_mayStand : ByteArray := prog_4_method_13_code
def yEx_mayStand : MethodName := ⟨"RunProver$Expressions", "mayStand", "(I)Z"⟩
abbrev cEx_call : ByteArray := prog_4_method_14_code
def yEx_call : MethodName := ⟨"RunProver$Expressions", "call", "(III)I"⟩
abbrev cPg_ofFunction : ByteArray := prog_8_method_6_code
def yPg_ofFunction : MethodName := ⟨"RunProver$Program", "ofFunction", "(II)I"⟩
abbrev cEx_level : ByteArray := prog_4_method_15_code
def yEx_level : MethodName := ⟨"RunProver$Expressions", "level", "(I)I"⟩
abbrev cEx_settle : ByteArray := prog_4_method_6_code
def yEx_settle : MethodName := ⟨"RunProver$Expressions", "settle", "(III)I"⟩
abbrev cEx_hold : ByteArray := prog_4_method_5_code
def yEx_hold : MethodName := ⟨"RunProver$Expressions", "hold", "(II)V"⟩
abbrev cEx_choice : ByteArray := prog_4_method_7_code
def yEx_choice : MethodName := ⟨"RunProver$Expressions", "choice", "(II)I"⟩
abbrev cNm_forgetFrom : ByteArray := prog_6_method_7_code
def yNm_forgetFrom : MethodName := ⟨"RunProver$Names", "forgetFrom", "(I)V"⟩
abbrev cPg_addFunction : ByteArray := prog_8_method_5_code
def yPg_addFunction : MethodName := ⟨"RunProver$Program", "addFunction", "(IIII)I"⟩
abbrev cPa_statements : ByteArray := prog_7_method_7_code
def yPa_statements : MethodName := ⟨"RunProver$Parser", "statements", "(I)I"⟩
abbrev cPa_goesOn : ByteArray := prog_7_method_8_code
def yPa_goesOn : MethodName := ⟨"RunProver$Parser", "goesOn", "()Z"⟩
abbrev cPa_statement : ByteArray := prog_7_method_9_code
def yPa_statement : MethodName := ⟨"RunProver$Parser", "statement", "(I)I"⟩
abbrev cPa_setting : ByteArray := prog_7_method_11_code
def yPa_setting : MethodName := ⟨"RunProver$Parser", "setting", "(I)I"⟩
abbrev cPg_addStatement : ByteArray := prog_8_method_7_code
def yPg_addStatement : MethodName := ⟨"RunProver$Program", "addStatement", "(I)I"⟩
abbrev cAr_fill2 : ByteArray := prog_30_method_104_code
def yAr_fill2 : MethodName := ⟨"java/util/Arrays", "fill", "([IIII)V"⟩
abbrev cAr_rangeCheck : ByteArray := prog_30_method_30_code
def yAr_rangeCheck : MethodName := ⟨"java/util/Arrays", "rangeCheck", "(III)V"⟩
abbrev cTh_init : ByteArray := prog_29_method_1_code
def yTh_init : MethodName := ⟨"java/lang/Throwable", "<init>", "()V"⟩
abbrev cAr_copyOf : ByteArray := prog_30_method_121_code
def yAr_copyOf : MethodName := ⟨"java/util/Arrays", "copyOf", "([BI)[B"⟩
abbrev cAr_copyOfRange : ByteArray := prog_30_method_132_code
def yAr_copyOfRange : MethodName := ⟨"java/util/Arrays", "copyOfRange", "([BII)[B"⟩
abbrev cAr_copyOfRangeByte : ByteArray := prog_30_method_133_code
def yAr_copyOfRangeByte : MethodName := ⟨"java/util/Arrays", "copyOfRangeByte", "([BII)[B"⟩
abbrev cAr_checkLength : ByteArray := prog_30_method_131_code
def yAr_checkLength : MethodName := ⟨"java/util/Arrays", "checkLength", "(II)V"⟩
abbrev cRt_init : ByteArray := prog_23_method_2_code
def yRt_init : MethodName := ⟨"java/lang/RuntimeException", "<init>", "(Ljava/lang/String;)V"⟩
abbrev cXc_init : ByteArray := prog_18_method_2_code
def yXc_init : MethodName := ⟨"java/lang/Exception", "<init>", "(Ljava/lang/String;)V"⟩
abbrev cTh_init2 : ByteArray := prog_29_method_2_code
def yTh_init2 : MethodName := ⟨"java/lang/Throwable", "<init>", "(Ljava/lang/String;)V"⟩
abbrev cPg_set : ByteArray := prog_8_method_9_code
def yPg_set : MethodName := ⟨"RunProver$Program", "set", "(III)V"⟩
abbrev cPa_addCheck : ByteArray := prog_7_method_10_code
def yPa_addCheck : MethodName := ⟨"RunProver$Parser", "addCheck", "(I)I"⟩
abbrev cPa_drawing : ByteArray := prog_7_method_12_code
def yPa_drawing : MethodName := ⟨"RunProver$Parser", "drawing", "()I"⟩
abbrev cPa_claim : ByteArray := prog_7_method_13_code
def yPa_claim : MethodName := ⟨"RunProver$Parser", "claim", "(II)I"⟩
abbrev cPa_condition : ByteArray := prog_7_method_14_code
def yPa_condition : MethodName := ⟨"RunProver$Parser", "condition", "(II)V"⟩
abbrev cPa_branch : ByteArray := prog_7_method_15_code
def yPa_branch : MethodName := ⟨"RunProver$Parser", "branch", "(I)I"⟩
abbrev cPa_block : ByteArray := prog_7_method_17_code
def yPa_block : MethodName := ⟨"RunProver$Parser", "block", "(I)I"⟩
abbrev cPa_alternative : ByteArray := prog_7_method_16_code
def yPa_alternative : MethodName := ⟨"RunProver$Parser", "alternative", "(I)I"⟩
abbrev cPa_loop : ByteArray := prog_7_method_18_code
def yPa_loop : MethodName := ⟨"RunProver$Parser", "loop", "(I)I"⟩
abbrev cUn_begin : ByteArray := prog_11_method_2_code
def yUn_begin : MethodName := ⟨"RunProver$Unroller", "begin", "()V"⟩
abbrev cGa_clear : ByteArray := prog_5_method_2_code
def yGa_clear : MethodName := ⟨"RunProver$Gates", "clear", "()V"⟩
abbrev cWo_begin : ByteArray := prog_12_method_2_code
def yWo_begin : MethodName := ⟨"RunProver$Words", "begin", "(I)V"⟩
abbrev cUn_walk : ByteArray := prog_11_method_3_code
def yUn_walk : MethodName := ⟨"RunProver$Unroller", "walk", "(II)V"⟩
abbrev cPg_get : ByteArray := prog_8_method_8_code
def yPg_get : MethodName := ⟨"RunProver$Program", "get", "(II)I"⟩
abbrev cUn_loop : ByteArray := prog_11_method_10_code
def yUn_loop : MethodName := ⟨"RunProver$Unroller", "loop", "(II)V"⟩
abbrev cUn_evaluate : ByteArray := prog_11_method_11_code
def yUn_evaluate : MethodName := ⟨"RunProver$Unroller", "evaluate", "(II)V"⟩
abbrev cWo_sink : ByteArray := prog_12_method_8_code
def yWo_sink : MethodName := ⟨"RunProver$Words", "sink", "(I)V"⟩
abbrev cWo_drop : ByteArray := prog_12_method_7_code
def yWo_drop : MethodName := ⟨"RunProver$Words", "drop", "()I"⟩
abbrev cUn_push : ByteArray := prog_11_method_12_code
def yUn_push : MethodName := ⟨"RunProver$Unroller", "push", "(III)V"⟩
abbrev cWo_pushNumber : ByteArray := prog_12_method_4_code
def yWo_pushNumber : MethodName := ⟨"RunProver$Words", "pushNumber", "(I)V"⟩
abbrev cWo_newRow : ByteArray := prog_12_method_3_code
def yWo_newRow : MethodName := ⟨"RunProver$Words", "newRow", "()I"⟩
abbrev cWo_pushCopy : ByteArray := prog_12_method_6_code
def yWo_pushCopy : MethodName := ⟨"RunProver$Words", "pushCopy", "(I)V"⟩
abbrev cWo_pushFrom : ByteArray := prog_12_method_5_code
def yWo_pushFrom : MethodName := ⟨"RunProver$Words", "pushFrom", "([II)V"⟩
abbrev cWo_select : ByteArray := prog_12_method_25_code
def yWo_select : MethodName := ⟨"RunProver$Words", "select", "([III)V"⟩
abbrev cGa_or : ByteArray := prog_5_method_5_code
def yGa_or : MethodName := ⟨"RunProver$Gates", "or", "(II)I"⟩
abbrev cGa_and : ByteArray := prog_5_method_4_code
def yGa_and : MethodName := ⟨"RunProver$Gates", "and", "(II)I"⟩
abbrev cGa_gate : ByteArray := prog_5_method_8_code
def yGa_gate : MethodName := ⟨"RunProver$Gates", "gate", "(IIII)I"⟩
abbrev cGa_mux : ByteArray := prog_5_method_7_code
def yGa_mux : MethodName := ⟨"RunProver$Gates", "mux", "(III)I"⟩
abbrev cGa_xor : ByteArray := prog_5_method_6_code
def yGa_xor : MethodName := ⟨"RunProver$Gates", "xor", "(II)I"⟩
abbrev cWo_apply : ByteArray := prog_12_method_13_code
def yWo_apply : MethodName := ⟨"RunProver$Words", "apply", "(I)V"⟩
abbrev cWo_negate : ByteArray := prog_12_method_20_code
def yWo_negate : MethodName := ⟨"RunProver$Words", "negate", "(I)V"⟩
abbrev cWo_invert : ByteArray := prog_12_method_14_code
def yWo_invert : MethodName := ⟨"RunProver$Words", "invert", "(I)V"⟩
abbrev cWo_truthOf : ByteArray := prog_12_method_11_code
def yWo_truthOf : MethodName := ⟨"RunProver$Words", "truthOf", "(I)I"⟩
abbrev cWo_setTruth : ByteArray := prog_12_method_12_code
def yWo_setTruth : MethodName := ⟨"RunProver$Words", "setTruth", "(II)V"⟩
abbrev cWo_choose : ByteArray := prog_12_method_24_code
def yWo_choose : MethodName := ⟨"RunProver$Words", "choose", "(III)V"⟩
abbrev cWo_add : ByteArray := prog_12_method_19_code
def yWo_add : MethodName := ⟨"RunProver$Words", "add", "(III)V"⟩
abbrev cWo_multiply : ByteArray := prog_12_method_21_code
def yWo_multiply : MethodName := ⟨"RunProver$Words", "multiply", "(II)V"⟩
abbrev cWo_divide : ByteArray := prog_12_method_22_code
def yWo_divide : MethodName := ⟨"RunProver$Words", "divide", "(IIZ)V"⟩
abbrev cWo_shift : ByteArray := prog_12_method_23_code
def yWo_shift : MethodName := ⟨"RunProver$Words", "shift", "(IIZ)V"⟩
abbrev cWo_bitwise : ByteArray := prog_12_method_16_code
def yWo_bitwise : MethodName := ⟨"RunProver$Words", "bitwise", "(III)V"⟩
abbrev cWo_join : ByteArray := prog_12_method_15_code
def yWo_join : MethodName := ⟨"RunProver$Words", "join", "(III)V"⟩
abbrev cWo_compareEqual : ByteArray := prog_12_method_17_code
def yWo_compareEqual : MethodName := ⟨"RunProver$Words", "compareEqual", "(III)V"⟩
abbrev cWo_compareOrder : ByteArray := prog_12_method_18_code
def yWo_compareOrder : MethodName := ⟨"RunProver$Words", "compareOrder", "(III)V"⟩
abbrev cWo_dropTruth : ByteArray := prog_12_method_10_code
def yWo_dropTruth : MethodName := ⟨"RunProver$Words", "dropTruth", "()I"⟩
abbrev cUn_demand : ByteArray := prog_11_method_5_code
def yUn_demand : MethodName := ⟨"RunProver$Unroller", "demand", "(II)V"⟩
abbrev cUn_act : ByteArray := prog_11_method_4_code
def yUn_act : MethodName := ⟨"RunProver$Unroller", "act", "(II)V"⟩
abbrev cUn_set : ByteArray := prog_11_method_6_code
def yUn_set : MethodName := ⟨"RunProver$Unroller", "set", "(I)V"⟩
abbrev cWo_literal : ByteArray := prog_12_method_9_code
def yWo_literal : MethodName := ⟨"RunProver$Words", "literal", "(II)I"⟩
abbrev cUn_setElement : ByteArray := prog_11_method_7_code
def yUn_setElement : MethodName := ⟨"RunProver$Unroller", "setElement", "(II)V"⟩
abbrev cWo_isBelow : ByteArray := prog_12_method_27_code
def yWo_isBelow : MethodName := ⟨"RunProver$Words", "isBelow", "(II)I"⟩
abbrev cWo_isNumber : ByteArray := prog_12_method_26_code
def yWo_isNumber : MethodName := ⟨"RunProver$Words", "isNumber", "(II)I"⟩
abbrev cUn_draw : ByteArray := prog_11_method_8_code
def yUn_draw : MethodName := ⟨"RunProver$Unroller", "draw", "(II)V"⟩
abbrev cGa_addSource : ByteArray := prog_5_method_3_code
def yGa_addSource : MethodName := ⟨"RunProver$Gates", "addSource", "()I"⟩
abbrev cUn_branch : ByteArray := prog_11_method_9_code
def yUn_branch : MethodName := ⟨"RunProver$Unroller", "branch", "(II)V"⟩
abbrev cRp_fault : ByteArray := prog_1_method_6_code
def yRp_fault : MethodName := ⟨"RunProver", "fault", "(I)I"⟩
abbrev cRp_prove : ByteArray := prog_1_method_7_code
def yRp_prove : MethodName := ⟨"RunProver", "prove", "()I"⟩
abbrev cRp_addGoal : ByteArray := prog_1_method_18_code
def yRp_addGoal : MethodName := ⟨"RunProver", "addGoal", "(I)V"⟩
abbrev cRp_possible : ByteArray := prog_1_method_19_code
def yRp_possible : MethodName := ⟨"RunProver", "possible", "(Z)Z"⟩
abbrev cGa_want : ByteArray := prog_5_method_12_code
def yGa_want : MethodName := ⟨"RunProver$Gates", "want", "([II)V"⟩
abbrev cAr_fill3 : ByteArray := prog_30_method_110_code
def yAr_fill3 : MethodName := ⟨"java/util/Arrays", "fill", "([BIIB)V"⟩
abbrev cCl_begin : ByteArray := prog_3_method_2_code
def yCl_begin : MethodName := ⟨"RunProver$Clauses", "begin", "([IIZ)V"⟩
abbrev cCl_addOne : ByteArray := prog_3_method_8_code
def yCl_addOne : MethodName := ⟨"RunProver$Clauses", "addOne", "(I)V"⟩
abbrev cCl_fits : ByteArray := prog_3_method_13_code
def yCl_fits : MethodName := ⟨"RunProver$Clauses", "fits", "(I)Z"⟩
abbrev cCl_close : ByteArray := prog_3_method_12_code
def yCl_close : MethodName := ⟨"RunProver$Clauses", "close", "(I)V"⟩
abbrev cCl_add : ByteArray := prog_3_method_11_code
def yCl_add : MethodName := ⟨"RunProver$Clauses", "add", "([II)I"⟩
abbrev cCl_addGates : ByteArray := prog_3_method_3_code
def yCl_addGates : MethodName := ⟨"RunProver$Clauses", "addGates", "(LRunProver$Gates;)V"⟩
abbrev cCl_addGate : ByteArray := prog_3_method_4_code
def yCl_addGate : MethodName := ⟨"RunProver$Clauses", "addGate", "(IIIII)V"⟩
abbrev cCl_addAnd : ByteArray := prog_3_method_5_code
def yCl_addAnd : MethodName := ⟨"RunProver$Clauses", "addAnd", "(III)V"⟩
abbrev cCl_addTwo : ByteArray := prog_3_method_9_code
def yCl_addTwo : MethodName := ⟨"RunProver$Clauses", "addTwo", "(II)V"⟩
abbrev cCl_addThree : ByteArray := prog_3_method_10_code
def yCl_addThree : MethodName := ⟨"RunProver$Clauses", "addThree", "(III)V"⟩
abbrev cCl_addXor : ByteArray := prog_3_method_6_code
def yCl_addXor : MethodName := ⟨"RunProver$Clauses", "addXor", "(III)V"⟩
abbrev cCl_addMux : ByteArray := prog_3_method_7_code
def yCl_addMux : MethodName := ⟨"RunProver$Clauses", "addMux", "(IIII)V"⟩
abbrev cSe_solve : ByteArray := prog_9_method_3_code
def ySe_solve : MethodName := ⟨"RunProver$Search", "solve", "(I[II)Z"⟩
abbrev cSe_begin : ByteArray := prog_9_method_4_code
def ySe_begin : MethodName := ⟨"RunProver$Search", "begin", "(I)V"⟩
abbrev cCk_begin : ByteArray := prog_2_method_2_code
def yCk_begin : MethodName := ⟨"RunProver$Checker", "begin", "(I)V"⟩
abbrev cSe_attachAll : ByteArray := prog_9_method_5_code
def ySe_attachAll : MethodName := ⟨"RunProver$Search", "attachAll", "()I"⟩
abbrev cSe_attach : ByteArray := prog_9_method_6_code
def ySe_attach : MethodName := ⟨"RunProver$Search", "attach", "(III)V"⟩
abbrev cSe_watch : ByteArray := prog_9_method_7_code
def ySe_watch : MethodName := ⟨"RunProver$Search", "watch", "(II)V"⟩
abbrev cSe_assign : ByteArray := prog_9_method_8_code
def ySe_assign : MethodName := ⟨"RunProver$Search", "assign", "(II)V"⟩
abbrev cCk_acceptLiteral : ByteArray := prog_2_method_3_code
def yCk_acceptLiteral : MethodName := ⟨"RunProver$Checker", "acceptLiteral", "(II)Z"⟩
abbrev cCk_set : ByteArray := prog_2_method_7_code
def yCk_set : MethodName := ⟨"RunProver$Checker", "set", "(I)V"⟩
abbrev cSe_propagate : ByteArray := prog_9_method_9_code
def ySe_propagate : MethodName := ⟨"RunProver$Search", "propagate", "()I"⟩
abbrev cSe_spareLiteral : ByteArray := prog_9_method_10_code
def ySe_spareLiteral : MethodName := ⟨"RunProver$Search", "spareLiteral", "(III)I"⟩
abbrev cSe_decide : ByteArray := prog_9_method_11_code
def ySe_decide : MethodName := ⟨"RunProver$Search", "decide", "([II)Z"⟩
abbrev cCk_accept : ByteArray := prog_2_method_4_code
def yCk_accept : MethodName := ⟨"RunProver$Checker", "accept", "([II[II)Z"⟩
abbrev cCk_assumeAgainst : ByteArray := prog_2_method_5_code
def yCk_assumeAgainst : MethodName := ⟨"RunProver$Checker", "assumeAgainst", "([II)Z"⟩
abbrev cCk_assume : ByteArray := prog_2_method_6_code
def yCk_assume : MethodName := ⟨"RunProver$Checker", "assume", "(I)V"⟩
abbrev cCk_follow : ByteArray := prog_2_method_9_code
def yCk_follow : MethodName := ⟨"RunProver$Checker", "follow", "([II)Z"⟩
abbrev cCk_withdraw : ByteArray := prog_2_method_8_code
def yCk_withdraw : MethodName := ⟨"RunProver$Checker", "withdraw", "()V"⟩
abbrev cSe_learn : ByteArray := prog_9_method_12_code
def ySe_learn : MethodName := ⟨"RunProver$Search", "learn", "(I)V"⟩
abbrev cSe_analyse : ByteArray := prog_9_method_13_code
def ySe_analyse : MethodName := ⟨"RunProver$Search", "analyse", "(I)V"⟩
abbrev cSe_resolve : ByteArray := prog_9_method_15_code
def ySe_resolve : MethodName := ⟨"RunProver$Search", "resolve", "(I)V"⟩
abbrev cSe_stays : ByteArray := prog_9_method_14_code
def ySe_stays : MethodName := ⟨"RunProver$Search", "stays", "(I)Z"⟩
abbrev cCl_fitsEarly : ByteArray := prog_3_method_14_code
def yCl_fitsEarly : MethodName := ⟨"RunProver$Clauses", "fitsEarly", "(I)Z"⟩
abbrev cSe_goBack : ByteArray := prog_9_method_16_code
def ySe_goBack : MethodName := ⟨"RunProver$Search", "goBack", "(I)V"⟩
abbrev cRp_takeInputs : ByteArray := prog_1_method_20_code
def yRp_takeInputs : MethodName := ⟨"RunProver", "takeInputs", "()V"⟩
abbrev cSe_isTrue : ByteArray := prog_9_method_2_code
def ySe_isTrue : MethodName := ⟨"RunProver$Search", "isTrue", "(I)Z"⟩
abbrev cRp_brokenCheck : ByteArray := prog_1_method_22_code
def yRp_brokenCheck : MethodName := ⟨"RunProver", "brokenCheck", "()I"⟩
abbrev cRp_simulate : ByteArray := prog_1_method_21_code
def yRp_simulate : MethodName := ⟨"RunProver", "simulate", "()V"⟩
abbrev cGa_settle : ByteArray := prog_5_method_10_code
def yGa_settle : MethodName := ⟨"RunProver$Gates", "settle", "()V"⟩
abbrev cGa_bit : ByteArray := prog_5_method_11_code
def yGa_bit : MethodName := ⟨"RunProver$Gates", "bit", "(I)I"⟩
abbrev cGa_holds : ByteArray := prog_5_method_9_code
def yGa_holds : MethodName := ⟨"RunProver$Gates", "holds", "(I)Z"⟩
abbrev cRp_run : ByteArray := prog_1_method_14_code
def yRp_run : MethodName := ⟨"RunProver", "run", "()I"⟩
abbrev cRp_doubts : ByteArray := prog_1_method_16_code
def yRp_doubts : MethodName := ⟨"RunProver", "doubts", "()I"⟩
abbrev cRp_count : ByteArray := prog_1_method_17_code
def yRp_count : MethodName := ⟨"RunProver", "count", "(I)I"⟩
abbrev cLa_feed : ByteArray := method_3_code
def yLa_feed : MethodName := ⟨"RunProverLaw", "feed", "(LRunProver;IIIII[J)I"⟩
abbrev cRp_feed : ByteArray := prog_1_method_2_code
def yRp_feed : MethodName := ⟨"RunProver", "feed", "(IIIII)I"⟩
abbrev cRp_store : ByteArray := prog_1_method_3_code
def yRp_store : MethodName := ⟨"RunProver", "store", "(I)V"⟩
abbrev cLa_end : ByteArray := method_4_code
def yLa_end : MethodName := ⟨"RunProverLaw", "end", "(LRunProver;I[J)I"⟩
abbrev cRp_end : ByteArray := prog_1_method_4_code
def yRp_end : MethodName := ⟨"RunProver", "end", "(I)I"⟩
abbrev cLa_breaks : ByteArray := method_5_code
def yLa_breaks : MethodName := ⟨"RunProverLaw", "breaks", "(LRunProver;I[J)I"⟩
abbrev cRp_breaks : ByteArray := prog_1_method_8_code
def yRp_breaks : MethodName := ⟨"RunProver", "breaks", "(I)I"⟩
abbrev cLa_reaches : ByteArray := method_6_code
def yLa_reaches : MethodName := ⟨"RunProverLaw", "reaches", "(LRunProver;I[J)I"⟩
abbrev cRp_reaches : ByteArray := prog_1_method_9_code
def yRp_reaches : MethodName := ⟨"RunProver", "reaches", "(I)I"⟩
abbrev cLa_ends : ByteArray := method_7_code
def yLa_ends : MethodName := ⟨"RunProverLaw", "ends", "(LRunProver;III[J)I"⟩
abbrev cRp_ends : ByteArray := prog_1_method_10_code
def yRp_ends : MethodName := ⟨"RunProver", "ends", "(III)I"⟩
abbrev cPg_hasElement : ByteArray := prog_8_method_3_code
def yPg_hasElement : MethodName := ⟨"RunProver$Program", "hasElement", "(II)Z"⟩
abbrev cLa_check : ByteArray := method_8_code
def yLa_check : MethodName := ⟨"RunProverLaw", "check", "(LRunProver;II[J)I"⟩
abbrev cRp_check : ByteArray := prog_1_method_11_code
def yRp_check : MethodName := ⟨"RunProver", "check", "(II)I"⟩
abbrev cLa_input : ByteArray := method_9_code
def yLa_input : MethodName := ⟨"RunProverLaw", "input", "(LRunProver;I[J)I"⟩
abbrev cRp_input : ByteArray := prog_1_method_12_code
def yRp_input : MethodName := ⟨"RunProver", "input", "(I)I"⟩
abbrev cLa_put : ByteArray := method_10_code
def yLa_put : MethodName := ⟨"RunProverLaw", "put", "(LRunProver;II[J)I"⟩
abbrev cRp_put : ByteArray := prog_1_method_13_code
def yRp_put : MethodName := ⟨"RunProver", "put", "(II)I"⟩
abbrev cLa_value : ByteArray := method_11_code
def yLa_value : MethodName := ⟨"RunProverLaw", "value", "(LRunProver;II[J)I"⟩
abbrev cRp_value : ByteArray := prog_1_method_15_code
def yRp_value : MethodName := ⟨"RunProver", "value", "(II)I"⟩
abbrev cMo_init : ByteArray := prog_14_method_1_code
def yMo_init : MethodName := ⟨"RunProverModel", "<init>", "()V"⟩
abbrev cMo_thrown : ByteArray := prog_14_method_2_code
def yMo_thrown : MethodName := ⟨"RunProverModel", "thrown", "()I"⟩
abbrev cMo_feed : ByteArray := prog_14_method_4_code
def yMo_feed : MethodName := ⟨"RunProverModel", "feed", "(IIIII)I"⟩
abbrev cMo_refuse : ByteArray := prog_14_method_3_code
def yMo_refuse : MethodName := ⟨"RunProverModel", "refuse", "(IZ)Z"⟩
abbrev cMo_end : ByteArray := prog_14_method_5_code
def yMo_end : MethodName := ⟨"RunProverModel", "end", "(I)I"⟩
abbrev cMo_read : ByteArray := prog_14_method_45_code
def yMo_read : MethodName := ⟨"RunProverModel", "read", "()I"⟩
abbrev cMo_text : ByteArray := prog_14_method_34_code
def yMo_text : MethodName := ⟨"RunProverModel", "text", "()V"⟩
abbrev cMo_is : ByteArray := prog_14_method_16_code
def yMo_is : MethodName := ⟨"RunProverModel", "is", "(Ljava/lang/String;)Z"⟩
abbrev cMo_peek : ByteArray := prog_14_method_10_code
def yMo_peek : MethodName := ⟨"RunProverModel", "peek", "()I"⟩
abbrev cMo_parts : ByteArray := prog_14_method_9_code
def yMo_parts : MethodName := ⟨"RunProverModel", "parts", "()V"⟩
abbrev cWr_init : ByteArray := prog_15_method_1_code
def yWr_init : MethodName := ⟨"RunProverModel$Wrong", "<init>", "(II)V"⟩
abbrev cRt_init2 : ByteArray := prog_23_method_5_code
def yRt_init2 : MethodName := ⟨"java/lang/RuntimeException", "<init>", "(Ljava/lang/String;Ljava/lang/Throwable;ZZ)V"⟩
abbrev cXc_init2 : ByteArray := prog_18_method_5_code
def yXc_init2 : MethodName := ⟨"java/lang/Exception", "<init>", "(Ljava/lang/String;Ljava/lang/Throwable;ZZ)V"⟩
abbrev cTh_init3 : ByteArray := prog_29_method_5_code
def yTh_init3 : MethodName := ⟨"java/lang/Throwable", "<init>", "(Ljava/lang/String;Ljava/lang/Throwable;ZZ)V"⟩
abbrev cMo_letter : ByteArray := prog_14_method_7_code
def yMo_letter : MethodName := ⟨"RunProverModel", "letter", "(I)Z"⟩
abbrev cMo_digit : ByteArray := prog_14_method_6_code
def yMo_digit : MethodName := ⟨"RunProverModel", "digit", "(I)Z"⟩
abbrev cMo_byteAt : ByteArray := prog_14_method_8_code
def yMo_byteAt : MethodName := ⟨"RunProverModel", "byteAt", "(I)I"⟩
abbrev cMo_sign : ByteArray := prog_14_method_11_code
def yMo_sign : MethodName := ⟨"RunProverModel", "sign", "(II)I"⟩
abbrev cMo_cant : ByteArray := prog_14_method_13_code
def yMo_cant : MethodName := ⟨"RunProverModel", "cant", "()LRunProverModel$Wrong;"⟩
abbrev cMo_take : ByteArray := prog_14_method_12_code
def yMo_take : MethodName := ⟨"RunProverModel", "take", "()V"⟩
abbrev cMo_number : ByteArray := prog_14_method_19_code
def yMo_number : MethodName := ⟨"RunProverModel", "number", "(II)I"⟩
abbrev cMo_number2 : ByteArray := prog_14_method_18_code
def yMo_number2 : MethodName := ⟨"RunProverModel", "number", "()I"⟩
abbrev cMo_must : ByteArray := prog_14_method_14_code
def yMo_must : MethodName := ⟨"RunProverModel", "must", "(I)V"⟩
abbrev cMo_variable : ByteArray := prog_14_method_35_code
def yMo_variable : MethodName := ⟨"RunProverModel", "variable", "()V"⟩
abbrev cMo_declare : ByteArray := prog_14_method_21_code
def yMo_declare : MethodName := ⟨"RunProverModel", "declare", "(IIZ)V"⟩
abbrev cMo_reserved : ByteArray := prog_14_method_17_code
def yMo_reserved : MethodName := ⟨"RunProverModel", "reserved", "()Z"⟩
abbrev cMo_named : ByteArray := prog_14_method_20_code
def yMo_named : MethodName := ⟨"RunProverModel", "named", "()I"⟩
abbrev cMo_function : ByteArray := prog_14_method_36_code
def yMo_function : MethodName := ⟨"RunProverModel", "function", "()V"⟩
abbrev cMo_expression : ByteArray := prog_14_method_25_code
def yMo_expression : MethodName := ⟨"RunProverModel", "expression", "(I)I"⟩
abbrev cMo_chain : ByteArray := prog_14_method_28_code
def yMo_chain : MethodName := ⟨"RunProverModel", "chain", "(II)I"⟩
abbrev cMo_unary : ByteArray := prog_14_method_29_code
def yMo_unary : MethodName := ⟨"RunProverModel", "unary", "(I)I"⟩
abbrev cMo_nest : ByteArray := prog_14_method_15_code
def yMo_nest : MethodName := ⟨"RunProverModel", "nest", "(I)I"⟩
abbrev cMo_node : ByteArray := prog_14_method_22_code
def yMo_node : MethodName := ⟨"RunProverModel", "node", "(III)I"⟩
abbrev cMo_capped : ByteArray := prog_14_method_23_code
def yMo_capped : MethodName := ⟨"RunProverModel", "capped", "(I)I"⟩
abbrev cMo_costs : ByteArray := prog_14_method_24_code
def yMo_costs : MethodName := ⟨"RunProverModel", "costs", "(II)I"⟩
abbrev cMo_operand : ByteArray := prog_14_method_30_code
def yMo_operand : MethodName := ⟨"RunProverModel", "operand", "(I)I"⟩
abbrev cMo_called : ByteArray := prog_14_method_31_code
def yMo_called : MethodName := ⟨"RunProverModel", "called", "(III)I"⟩
abbrev cMo_joins : ByteArray := prog_14_method_26_code
def yMo_joins : MethodName := ⟨"RunProverModel", "joins", "(II)Z"⟩
abbrev cMo_priceOf : ByteArray := prog_14_method_27_code
def yMo_priceOf : MethodName := ⟨"RunProverModel", "priceOf", "(II)I"⟩
abbrev cMo_statements : ByteArray := prog_14_method_37_code
def yMo_statements : MethodName := ⟨"RunProverModel", "statements", "(II)I"⟩
abbrev cMo_one : ByteArray := prog_14_method_39_code
def yMo_one : MethodName := ⟨"RunProverModel", "one", "(I)I"⟩
abbrev cMo_any : ByteArray := prog_14_method_40_code
def yMo_any : MethodName := ⟨"RunProverModel", "any", "()I"⟩
abbrev cMo_statement : ByteArray := prog_14_method_33_code
def yMo_statement : MethodName := ⟨"RunProverModel", "statement", "(IIII)I"⟩
abbrev cMo_claim : ByteArray := prog_14_method_41_code
def yMo_claim : MethodName := ⟨"RunProverModel", "claim", "(II)I"⟩
abbrev cMo_checked : ByteArray := prog_14_method_32_code
def yMo_checked : MethodName := ⟨"RunProverModel", "checked", "(II)I"⟩
abbrev cMo_branch : ByteArray := prog_14_method_42_code
def yMo_branch : MethodName := ⟨"RunProverModel", "branch", "(I)I"⟩
abbrev cMo_block : ByteArray := prog_14_method_38_code
def yMo_block : MethodName := ⟨"RunProverModel", "block", "(I)I"⟩
abbrev cMo_loop : ByteArray := prog_14_method_43_code
def yMo_loop : MethodName := ⟨"RunProverModel", "loop", "(II)I"⟩
abbrev cMo_list : ByteArray := prog_14_method_44_code
def yMo_list : MethodName := ⟨"RunProverModel", "list", "(I)V"⟩
abbrev cMo_fault : ByteArray := prog_14_method_46_code
def yMo_fault : MethodName := ⟨"RunProverModel", "fault", "(I)I"⟩
abbrev cMo_prove : ByteArray := prog_14_method_56_code
def yMo_prove : MethodName := ⟨"RunProverModel", "prove", "()I"⟩
abbrev cMo_look : ByteArray := prog_14_method_55_code
def yMo_look : MethodName := ⟨"RunProverModel", "look", "(III)Z"⟩
abbrev cMo_runs : ByteArray := prog_14_method_53_code
def yMo_runs : MethodName := ⟨"RunProverModel", "runs", "()V"⟩
abbrev cAr_fill4 : ByteArray := prog_30_method_111_code
def yAr_fill4 : MethodName := ⟨"java/util/Arrays", "fill", "([ZZ)V"⟩
abbrev cMo_go : ByteArray := prog_14_method_50_code
def yMo_go : MethodName := ⟨"RunProverModel", "go", "(II)V"⟩
abbrev cMo_value : ByteArray := prog_14_method_47_code
def yMo_value : MethodName := ⟨"RunProverModel", "value", "(I)I"⟩
abbrev cMo_call : ByteArray := prog_14_method_48_code
def yMo_call : MethodName := ⟨"RunProverModel", "call", "(I)I"⟩
abbrev cMo_joined : ByteArray := prog_14_method_49_code
def yMo_joined : MethodName := ⟨"RunProverModel", "joined", "(III)I"⟩
abbrev cMo_breaks2 : ByteArray := prog_14_method_51_code
def yMo_breaks2 : MethodName := ⟨"RunProverModel", "breaks2", "(I)V"⟩
abbrev cMo_rounds : ByteArray := prog_14_method_52_code
def yMo_rounds : MethodName := ⟨"RunProverModel", "rounds", "(II)V"⟩
abbrev cMo_found : ByteArray := prog_14_method_54_code
def yMo_found : MethodName := ⟨"RunProverModel", "found", "(III)Z"⟩
abbrev cMo_breaks : ByteArray := prog_14_method_58_code
def yMo_breaks : MethodName := ⟨"RunProverModel", "breaks", "(I)I"⟩
abbrev cMo_noCheck : ByteArray := prog_14_method_57_code
def yMo_noCheck : MethodName := ⟨"RunProverModel", "noCheck", "(I)Z"⟩
abbrev cMo_reaches : ByteArray := prog_14_method_59_code
def yMo_reaches : MethodName := ⟨"RunProverModel", "reaches", "(I)I"⟩
abbrev cMo_ends : ByteArray := prog_14_method_61_code
def yMo_ends : MethodName := ⟨"RunProverModel", "ends", "(III)I"⟩
abbrev cMo_noElement : ByteArray := prog_14_method_60_code
def yMo_noElement : MethodName := ⟨"RunProverModel", "noElement", "(II)Z"⟩
abbrev cMo_check : ByteArray := prog_14_method_62_code
def yMo_check : MethodName := ⟨"RunProverModel", "check", "(II)I"⟩
abbrev cMo_input : ByteArray := prog_14_method_63_code
def yMo_input : MethodName := ⟨"RunProverModel", "input", "(I)I"⟩
abbrev cMo_put : ByteArray := prog_14_method_64_code
def yMo_put : MethodName := ⟨"RunProverModel", "put", "(II)I"⟩
abbrev cMo_run : ByteArray := prog_14_method_65_code
def yMo_run : MethodName := ⟨"RunProverModel", "run", "()I"⟩
abbrev cMo_value2 : ByteArray := prog_14_method_66_code
def yMo_value2 : MethodName := ⟨"RunProverModel", "value", "(II)I"⟩
abbrev cMo_doubts : ByteArray := prog_14_method_67_code
def yMo_doubts : MethodName := ⟨"RunProverModel", "doubts", "()I"⟩
abbrev cMo_count : ByteArray := prog_14_method_68_code
def yMo_count : MethodName := ⟨"RunProverModel", "count", "(I)I"⟩
def wa0 : List Cond := [.initialized "RunProverLaw", .initialized "RunProver", .initialized "RunProver$Program", .initialized "RunProver$Parser", .initialized "RunProver$Names", .initialized "RunProver$Tokens", .initialized "RunProver$Expressions", .initialized "RunProver$Gates", .initialized "RunProver$Unroller", .initialized "RunProver$Words", .initialized "RunProver$Clauses", .initialized "RunProver$Checker", .initialized "RunProver$Search", .initialized "RunProverModel", .initialized "java/util/Arrays", .initialized "java/lang/Math", .initialized "RunProverModel$Wrong", .classLink "RunProverLaw" 8 "RunProver", .instantiable "RunProver" 16, .methodLink "RunProverLaw" 46 yRp_init, .instanceMethod yRp_init, .code yRp_init cRp_init 1 none, .methodLink "RunProver" 1 objectInit, .instanceMethod objectInit, .code objectInit ⟨#[0xb1]⟩ 1 none, .constant "RunProver" 9 65536, .classLink "RunProver" 14 "RunProver$Program", .instantiable "RunProver$Program" 17, .methodLink "RunProver" 16 yPg_init, .instanceMethod yPg_init, .code yPg_init cPg_init 1 none, .methodLink "RunProver$Program" 1 objectInit, .fieldLink "RunProver$Program" 9 "RunProver$Program" "rows" "[I", .fieldLink "RunProver$Program" 15 "RunProver$Program" "functions" "[I", .fieldLink "RunProver$Program" 20 "RunProver$Program" "codes" "[I", .fieldLink "RunProver$Unroller" 162 "RunProver$Program" "codes" "[I", .fieldLink "RunProver$Program" 23 "RunProver$Program" "operands" "[I", .fieldLink "RunProver$Unroller" 165 "RunProver$Program" "operands" "[I", .fieldLink "RunProver$Program" 26 "RunProver$Program" "slotFirst" "[I", .fieldLink "RunProver$Unroller" 133 "RunProver$Program" "slotFirst" "[I"]
def wa1 : List Cond := [.fieldLink "RunProver" 182 "RunProver$Program" "slotFirst" "[I", .fieldLink "RunProver$Program" 29 "RunProver$Program" "slotSize" "[I", .fieldLink "RunProver$Unroller" 143 "RunProver$Program" "slotSize" "[I", .fieldLink "RunProver$Parser" 201 "RunProver$Program" "slotSize" "[I", .fieldLink "RunProver$Expressions" 142 "RunProver$Program" "slotSize" "[I", .fieldLink "RunProver$Program" 32 "RunProver$Program" "checkKinds" "[I", .fieldLink "RunProver$Parser" 181 "RunProver$Program" "checkKinds" "[I", .fieldLink "RunProver" 192 "RunProver$Program" "checkKinds" "[I", .fieldLink "RunProver$Program" 35 "RunProver$Program" "checkPlaces" "[I", .fieldLink "RunProver$Parser" 185 "RunProver$Program" "checkPlaces" "[I", .fieldLink "RunProver" 195 "RunProver$Program" "checkPlaces" "[I", .fieldLink "RunProver$Program" 42 "RunProver$Program" "statements" "I", .fieldLink "RunProver$Program" 45 "RunProver$Program" "functionCount" "I", .fieldLink "RunProver$Program" 48 "RunProver$Program" "codeSize" "I", .fieldLink "RunProver$Parser" 123 "RunProver$Program" "codeSize" "I", .fieldLink "RunProver$Program" 51 "RunProver$Program" "slots" "I", .fieldLink "RunProver" 220 "RunProver$Program" "slots" "I", .fieldLink "RunProver$Program" 54 "RunProver$Program" "elements" "I", .fieldLink "RunProver$Unroller" 68 "RunProver$Program" "elements" "I", .fieldLink "RunProver$Program" 57 "RunProver$Program" "checks" "I", .fieldLink "RunProver" 142 "RunProver$Program" "checks" "I", .fieldLink "RunProver$Parser" 175 "RunProver$Program" "checks" "I", .fieldLink "RunProver$Unroller" 60 "RunProver$Program" "width" "I", .fieldLink "RunProver$Program" 60 "RunProver$Program" "width" "I", .fieldLink "RunProver$Parser" 65 "RunProver$Program" "width" "I", .fieldLink "RunProver$Expressions" 96 "RunProver$Program" "width" "I", .fieldLink "RunProver" 174 "RunProver$Program" "width" "I", .fieldLink "RunProver$Program" 63 "RunProver$Program" "costs" "I", .fieldLink "RunProver$Parser" 87 "RunProver$Program" "costs" "I", .fieldLink "RunProver" 223 "RunProver$Program" "costs" "I", .fieldLink "RunProver$Program" 38 "RunProver$Program" "first" "I", .fieldLink "RunProver$Parser" 75 "RunProver$Program" "first" "I", .fieldLink "RunProver" 135 "RunProver$Program" "first" "I", .laysFinal "RunProver$Program" "RunProver$Program" "rows" "[I", .laysFinal "RunProver$Program" "RunProver$Program" "functions" "[I", .laysFinal "RunProver$Program" "RunProver$Program" "codes" "[I", .laysFinal "RunProver$Program" "RunProver$Program" "operands" "[I", .laysFinal "RunProver$Program" "RunProver$Program" "slotFirst" "[I", .laysFinal "RunProver$Program" "RunProver$Program" "slotSize" "[I", .laysFinal "RunProver$Program" "RunProver$Program" "checkKinds" "[I"]
def wa2 : List Cond := [.laysFinal "RunProver$Program" "RunProver$Program" "checkPlaces" "[I", .lays "RunProver$Program" "RunProver$Program" "statements" "I", .lays "RunProver$Program" "RunProver$Program" "functionCount" "I", .lays "RunProver$Program" "RunProver$Program" "codeSize" "I", .lays "RunProver$Program" "RunProver$Program" "slots" "I", .lays "RunProver$Program" "RunProver$Program" "elements" "I", .lays "RunProver$Program" "RunProver$Program" "checks" "I", .lays "RunProver$Program" "RunProver$Program" "width" "I", .lays "RunProver$Program" "RunProver$Program" "costs" "I", .lays "RunProver$Program" "RunProver$Program" "first" "I", .arrayClass .byte, .arrayClass .int, .classLink "RunProver" 21 "RunProver$Parser", .instantiable "RunProver$Parser" 5, .methodLink "RunProver" 23 yPa_init, .instanceMethod yPa_init, .code yPa_init cPa_init 3 none, .methodLink "RunProver$Parser" 1 objectInit, .classLink "RunProver$Parser" 7 "RunProver$Names", .instantiable "RunProver$Names" 5, .methodLink "RunProver$Parser" 9 yNm_init, .instanceMethod yNm_init, .code yNm_init cNm_init 1 none, .methodLink "RunProver$Names" 1 objectInit, .fieldLink "RunProver$Names" 9 "RunProver$Names" "places" "[I", .fieldLink "RunProver$Names" 13 "RunProver$Names" "sizes" "[I", .fieldLink "RunProver$Names" 16 "RunProver$Names" "kinds" "[I", .fieldLink "RunProver$Names" 19 "RunProver$Names" "numbers" "[I", .fieldLink "RunProver$Names" 22 "RunProver$Names" "amount" "I", .fieldLink "RunProver$Parser" 43 "RunProver$Names" "amount" "I", .laysFinal "RunProver$Names" "RunProver$Names" "places" "[I", .laysFinal "RunProver$Names" "RunProver$Names" "sizes" "[I", .laysFinal "RunProver$Names" "RunProver$Names" "kinds" "[I", .laysFinal "RunProver$Names" "RunProver$Names" "numbers" "[I", .lays "RunProver$Names" "RunProver$Names" "amount" "I", .classLink "RunProver$Parser" 20 "RunProver$Tokens", .instantiable "RunProver$Tokens" 12, .methodLink "RunProver$Parser" 22 yTk_init, .instanceMethod yTk_init, .code yTk_init cTk_init 2 none]
def wa3 : List Cond := [.methodLink "RunProver$Tokens" 1 objectInit, .fieldLink "RunProver$Tokens" 9 "RunProver$Tokens" "kinds" "[I", .fieldLink "RunProver$Tokens" 13 "RunProver$Tokens" "places" "[I", .fieldLink "RunProver$Tokens" 16 "RunProver$Tokens" "details" "[I", .fieldLink "RunProver$Tokens" 19 "RunProver$Tokens" "text" "[B", .fieldLink "RunProver$Tokens" 29 "RunProver$Tokens" "length" "I", .fieldLink "RunProver$Tokens" 33 "RunProver$Tokens" "amount" "I", .fieldLink "RunProver$Tokens" 49 "RunProver$Tokens" "at" "I", .fieldLink "RunProver$Parser" 78 "RunProver$Tokens" "kind" "I", .fieldLink "RunProver$Tokens" 55 "RunProver$Tokens" "kind" "I", .fieldLink "RunProver$Expressions" 55 "RunProver$Tokens" "kind" "I", .fieldLink "RunProver$Names" 32 "RunProver$Tokens" "kind" "I", .fieldLink "RunProver$Tokens" 58 "RunProver$Tokens" "place" "I", .fieldLink "RunProver$Names" 42 "RunProver$Tokens" "place" "I", .fieldLink "RunProver$Parser" 178 "RunProver$Tokens" "place" "I", .fieldLink "RunProver$Expressions" 133 "RunProver$Tokens" "place" "I", .fieldLink "RunProver$Tokens" 61 "RunProver$Tokens" "detail" "I", .fieldLink "RunProver$Names" 49 "RunProver$Tokens" "detail" "I", .fieldLink "RunProver$Tokens" 36 "RunProver$Tokens" "faultKind" "I", .fieldLink "RunProver" 115 "RunProver$Tokens" "faultKind" "I", .fieldLink "RunProver$Tokens" 39 "RunProver$Tokens" "faultPlace" "I", .fieldLink "RunProver" 121 "RunProver$Tokens" "faultPlace" "I", .laysFinal "RunProver$Tokens" "RunProver$Tokens" "kinds" "[I", .laysFinal "RunProver$Tokens" "RunProver$Tokens" "places" "[I", .laysFinal "RunProver$Tokens" "RunProver$Tokens" "details" "[I", .laysFinal "RunProver$Tokens" "RunProver$Tokens" "text" "[B", .lays "RunProver$Tokens" "RunProver$Tokens" "length" "I", .lays "RunProver$Tokens" "RunProver$Tokens" "amount" "I", .lays "RunProver$Tokens" "RunProver$Tokens" "at" "I", .lays "RunProver$Tokens" "RunProver$Tokens" "kind" "I", .lays "RunProver$Tokens" "RunProver$Tokens" "place" "I", .lays "RunProver$Tokens" "RunProver$Tokens" "detail" "I", .lays "RunProver$Tokens" "RunProver$Tokens" "faultKind" "I", .lays "RunProver$Tokens" "RunProver$Tokens" "faultPlace" "I", .classLink "RunProver$Parser" 29 "RunProver$Expressions", .instantiable "RunProver$Expressions" 9, .methodLink "RunProver$Parser" 31 yEx_init, .instanceMethod yEx_init, .code yEx_init cEx_init 4 none, .methodLink "RunProver$Expressions" 3 objectInit]
def wa4 : List Cond := [.fieldLink "RunProver$Expressions" 18 "RunProver$Expressions" "tokens" "LRunProver$Tokens;", .fieldLink "RunProver$Expressions" 22 "RunProver$Expressions" "names" "LRunProver$Names;", .fieldLink "RunProver$Expressions" 26 "RunProver$Expressions" "program" "LRunProver$Program;", .fieldLink "RunProver$Expressions" 11 "RunProver$Expressions" "waiting" "[I", .fieldLink "RunProver$Expressions" 15 "RunProver$Expressions" "waitingDepth" "[I", .fieldLink "RunProver$Expressions" 30 "RunProver$Expressions" "waitingCount" "I", .fieldLink "RunProver$Expressions" 34 "RunProver$Expressions" "inFunction" "Z", .fieldLink "RunProver$Parser" 126 "RunProver$Expressions" "inFunction" "Z", .fieldLink "RunProver$Expressions" 38 "RunProver$Expressions" "cost" "I", .fieldLink "RunProver$Parser" 84 "RunProver$Expressions" "cost" "I", .fieldLink "RunProver$Expressions" 41 "RunProver$Expressions" "deepest" "I", .fieldLink "RunProver$Parser" 90 "RunProver$Expressions" "deepest" "I", .laysFinal "RunProver$Expressions" "RunProver$Expressions" "tokens" "LRunProver$Tokens;", .laysFinal "RunProver$Expressions" "RunProver$Expressions" "names" "LRunProver$Names;", .laysFinal "RunProver$Expressions" "RunProver$Expressions" "program" "LRunProver$Program;", .laysFinal "RunProver$Expressions" "RunProver$Expressions" "waiting" "[I", .laysFinal "RunProver$Expressions" "RunProver$Expressions" "waitingDepth" "[I", .lays "RunProver$Expressions" "RunProver$Expressions" "waitingCount" "I", .lays "RunProver$Expressions" "RunProver$Expressions" "inFunction" "Z", .lays "RunProver$Expressions" "RunProver$Expressions" "cost" "I", .lays "RunProver$Expressions" "RunProver$Expressions" "deepest" "I", .fieldLink "RunProver$Parser" 25 "RunProver$Parser" "tokens" "LRunProver$Tokens;", .fieldLink "RunProver" 111 "RunProver$Parser" "tokens" "LRunProver$Tokens;", .fieldLink "RunProver$Parser" 10 "RunProver$Parser" "names" "LRunProver$Names;", .fieldLink "RunProver$Parser" 16 "RunProver$Parser" "program" "LRunProver$Program;", .fieldLink "RunProver$Parser" 34 "RunProver$Parser" "expressions" "LRunProver$Expressions;", .fieldLink "RunProver$Parser" 50 "RunProver$Parser" "bits" "I", .laysFinal "RunProver$Parser" "RunProver$Parser" "tokens" "LRunProver$Tokens;", .laysFinal "RunProver$Parser" "RunProver$Parser" "names" "LRunProver$Names;", .laysFinal "RunProver$Parser" "RunProver$Parser" "program" "LRunProver$Program;", .laysFinal "RunProver$Parser" "RunProver$Parser" "expressions" "LRunProver$Expressions;", .lays "RunProver$Parser" "RunProver$Parser" "bits" "I", .classLink "RunProver" 30 "RunProver$Gates", .instantiable "RunProver$Gates" 9, .methodLink "RunProver" 32 yGa_init, .instanceMethod yGa_init, .code yGa_init cGa_init 1 none, .methodLink "RunProver$Gates" 1 objectInit, .constant "RunProver$Gates" 9 32768, .constant "RunProver$Gates" 30 65536]
def wa5 : List Cond := [.fieldLink "RunProver$Gates" 10 "RunProver$Gates" "kinds" "[B", .fieldLink "RunProver$Clauses" 44 "RunProver$Gates" "kinds" "[B", .fieldLink "RunProver$Gates" 14 "RunProver$Gates" "first" "[I", .fieldLink "RunProver$Clauses" 47 "RunProver$Gates" "first" "[I", .fieldLink "RunProver$Gates" 18 "RunProver$Gates" "second" "[I", .fieldLink "RunProver$Clauses" 50 "RunProver$Gates" "second" "[I", .fieldLink "RunProver$Gates" 21 "RunProver$Gates" "third" "[I", .fieldLink "RunProver$Clauses" 53 "RunProver$Gates" "third" "[I", .fieldLink "RunProver$Gates" 24 "RunProver$Gates" "truth" "[B", .fieldLink "RunProver" 255 "RunProver$Gates" "truth" "[B", .fieldLink "RunProver$Gates" 27 "RunProver$Gates" "wanted" "[B", .fieldLink "RunProver$Clauses" 40 "RunProver$Gates" "wanted" "[B", .fieldLink "RunProver$Gates" 31 "RunProver$Gates" "table" "[I", .fieldLink "RunProver$Gates" 34 "RunProver$Gates" "behind" "[I", .fieldLink "RunProver$Gates" 37 "RunProver$Gates" "size" "I", .fieldLink "RunProver$Clauses" 37 "RunProver$Gates" "size" "I", .fieldLink "RunProver" 236 "RunProver$Gates" "size" "I", .laysFinal "RunProver$Gates" "RunProver$Gates" "kinds" "[B", .laysFinal "RunProver$Gates" "RunProver$Gates" "first" "[I", .laysFinal "RunProver$Gates" "RunProver$Gates" "second" "[I", .laysFinal "RunProver$Gates" "RunProver$Gates" "third" "[I", .laysFinal "RunProver$Gates" "RunProver$Gates" "truth" "[B", .laysFinal "RunProver$Gates" "RunProver$Gates" "wanted" "[B", .laysFinal "RunProver$Gates" "RunProver$Gates" "table" "[I", .laysFinal "RunProver$Gates" "RunProver$Gates" "behind" "[I", .lays "RunProver$Gates" "RunProver$Gates" "size" "I", .classLink "RunProver" 37 "RunProver$Unroller", .instantiable "RunProver$Unroller" 14, .methodLink "RunProver" 39 yUn_init, .instanceMethod yUn_init, .code yUn_init cUn_init 3 none, .methodLink "RunProver$Unroller" 1 objectInit, .classLink "RunProver$Unroller" 23 "RunProver$Words", .instantiable "RunProver$Words" 7, .methodLink "RunProver$Unroller" 48 yWo_init, .instanceMethod yWo_init, .code yWo_init cWo_init 2 none, .methodLink "RunProver$Words" 1 objectInit, .fieldLink "RunProver$Words" 24 "RunProver$Words" "gates" "LRunProver$Gates;", .fieldLink "RunProver$Words" 9 "RunProver$Words" "rows" "[I"]
def wa6 : List Cond := [.fieldLink "RunProver$Words" 13 "RunProver$Words" "result" "[I", .fieldLink "RunProver$Words" 16 "RunProver$Words" "difference" "[I", .fieldLink "RunProver$Words" 21 "RunProver$Words" "tree" "[I", .fieldLink "RunProver$Words" 28 "RunProver$Words" "width" "I", .fieldLink "RunProver$Words" 32 "RunProver$Words" "top" "I", .fieldLink "RunProver$Unroller" 168 "RunProver$Words" "top" "I", .laysFinal "RunProver$Words" "RunProver$Words" "gates" "LRunProver$Gates;", .laysFinal "RunProver$Words" "RunProver$Words" "rows" "[I", .laysFinal "RunProver$Words" "RunProver$Words" "result" "[I", .laysFinal "RunProver$Words" "RunProver$Words" "difference" "[I", .laysFinal "RunProver$Words" "RunProver$Words" "tree" "[I", .lays "RunProver$Words" "RunProver$Words" "width" "I", .lays "RunProver$Words" "RunProver$Words" "top" "I", .fieldLink "RunProver$Unroller" 40 "RunProver$Unroller" "program" "LRunProver$Program;", .fieldLink "RunProver$Unroller" 44 "RunProver$Unroller" "gates" "LRunProver$Gates;", .fieldLink "RunProver$Unroller" 51 "RunProver$Unroller" "words" "LRunProver$Words;", .fieldLink "RunProver$Unroller" 9 "RunProver$Unroller" "callAt" "[I", .fieldLink "RunProver$Unroller" 13 "RunProver$Unroller" "callStop" "[I", .fieldLink "RunProver$Unroller" 16 "RunProver$Unroller" "callFrame" "[I", .fieldLink "RunProver$Unroller" 25 "RunProver$Unroller" "cells" "[I", .fieldLink "RunProver" 187 "RunProver$Unroller" "cells" "[I", .fieldLink "RunProver$Unroller" 80 "RunProver$Unroller" "on" "I", .fieldLink "RunProver" 179 "RunProver$Unroller" "on" "I", .fieldLink "RunProver$Unroller" 28 "RunProver$Unroller" "broken" "[I", .fieldLink "RunProver" 148 "RunProver$Unroller" "broken" "[I", .fieldLink "RunProver$Unroller" 31 "RunProver$Unroller" "reached" "[I", .fieldLink "RunProver" 167 "RunProver$Unroller" "reached" "[I", .fieldLink "RunProver$Unroller" 34 "RunProver$Unroller" "inputSizes" "[I", .fieldLink "RunProver" 203 "RunProver$Unroller" "inputSizes" "[I", .fieldLink "RunProver$Unroller" 83 "RunProver$Unroller" "inputCount" "I", .fieldLink "RunProver" 198 "RunProver$Unroller" "inputCount" "I", .fieldLink "RunProver$Unroller" 37 "RunProver$Unroller" "bitNodes" "[I", .fieldLink "RunProver" 239 "RunProver$Unroller" "bitNodes" "[I", .fieldLink "RunProver$Unroller" 86 "RunProver$Unroller" "bitCount" "I", .fieldLink "RunProver" 217 "RunProver$Unroller" "bitCount" "I", .laysFinal "RunProver$Unroller" "RunProver$Unroller" "program" "LRunProver$Program;", .laysFinal "RunProver$Unroller" "RunProver$Unroller" "gates" "LRunProver$Gates;", .laysFinal "RunProver$Unroller" "RunProver$Unroller" "words" "LRunProver$Words;", .laysFinal "RunProver$Unroller" "RunProver$Unroller" "callAt" "[I", .laysFinal "RunProver$Unroller" "RunProver$Unroller" "callStop" "[I"]
def wa7 : List Cond := [.laysFinal "RunProver$Unroller" "RunProver$Unroller" "callFrame" "[I", .laysFinal "RunProver$Unroller" "RunProver$Unroller" "cells" "[I", .lays "RunProver$Unroller" "RunProver$Unroller" "on" "I", .laysFinal "RunProver$Unroller" "RunProver$Unroller" "broken" "[I", .laysFinal "RunProver$Unroller" "RunProver$Unroller" "reached" "[I", .laysFinal "RunProver$Unroller" "RunProver$Unroller" "inputSizes" "[I", .lays "RunProver$Unroller" "RunProver$Unroller" "inputCount" "I", .laysFinal "RunProver$Unroller" "RunProver$Unroller" "bitNodes" "[I", .lays "RunProver$Unroller" "RunProver$Unroller" "bitCount" "I", .classLink "RunProver" 46 "RunProver$Clauses", .instantiable "RunProver$Clauses" 4, .methodLink "RunProver" 48 yCl_init, .instanceMethod yCl_init, .code yCl_init cCl_init 1 none, .methodLink "RunProver$Clauses" 5 objectInit, .constant "RunProver$Clauses" 11 390324, .constant "RunProver$Clauses" 16 98293, .fieldLink "RunProver$Clauses" 12 "RunProver$Clauses" "literals" "[I", .fieldLink "RunProver$Checker" 56 "RunProver$Clauses" "literals" "[I", .fieldLink "RunProver$Search" 117 "RunProver$Clauses" "literals" "[I", .fieldLink "RunProver$Clauses" 17 "RunProver$Clauses" "starts" "[I", .fieldLink "RunProver$Checker" 53 "RunProver$Clauses" "starts" "[I", .fieldLink "RunProver$Search" 114 "RunProver$Clauses" "starts" "[I", .fieldLink "RunProver$Clauses" 20 "RunProver$Clauses" "amount" "I", .fieldLink "RunProver$Checker" 48 "RunProver$Clauses" "amount" "I", .fieldLink "RunProver$Search" 111 "RunProver$Clauses" "amount" "I", .fieldLink "RunProver$Clauses" 24 "RunProver$Clauses" "given" "I", .laysFinal "RunProver$Clauses" "RunProver$Clauses" "literals" "[I", .laysFinal "RunProver$Clauses" "RunProver$Clauses" "starts" "[I", .lays "RunProver$Clauses" "RunProver$Clauses" "amount" "I", .lays "RunProver$Clauses" "RunProver$Clauses" "given" "I", .classLink "RunProver" 53 "RunProver$Checker", .instantiable "RunProver$Checker" 6, .methodLink "RunProver" 55 yCk_init, .instanceMethod yCk_init, .code yCk_init cCk_init 2 none, .methodLink "RunProver$Checker" 1 objectInit, .constant "RunProver$Checker" 9 65536, .constant "RunProver$Checker" 16 32768, .fieldLink "RunProver$Checker" 21 "RunProver$Checker" "clauses" "LRunProver$Clauses;"]
def wa8 : List Cond := [.fieldLink "RunProver$Checker" 10 "RunProver$Checker" "truth" "[B", .fieldLink "RunProver$Checker" 17 "RunProver$Checker" "assumed" "[I", .fieldLink "RunProver$Checker" 37 "RunProver$Checker" "assumedCount" "I", .fieldLink "RunProver$Checker" 41 "RunProver$Checker" "refusedOne" "Z", .fieldLink "RunProver$Checker" 45 "RunProver$Checker" "refuted" "Z", .fieldLink "RunProver" 249 "RunProver$Checker" "refuted" "Z", .laysFinal "RunProver$Checker" "RunProver$Checker" "clauses" "LRunProver$Clauses;", .laysFinal "RunProver$Checker" "RunProver$Checker" "truth" "[B", .laysFinal "RunProver$Checker" "RunProver$Checker" "assumed" "[I", .lays "RunProver$Checker" "RunProver$Checker" "assumedCount" "I", .lays "RunProver$Checker" "RunProver$Checker" "refusedOne" "Z", .lays "RunProver$Checker" "RunProver$Checker" "refuted" "Z", .classLink "RunProver" 62 "RunProver$Search", .instantiable "RunProver$Search" 21, .methodLink "RunProver" 64 ySe_init, .instanceMethod ySe_init, .code ySe_init cSe_init 3 none, .methodLink "RunProver$Search" 1 objectInit, .constant "RunProver$Search" 9 196584, .constant "RunProver$Search" 21 65536, .constant "RunProver$Search" 29 32768, .constant "RunProver$Search" 50 32769, .fieldLink "RunProver$Search" 54 "RunProver$Search" "clauses" "LRunProver$Clauses;", .fieldLink "RunProver$Search" 58 "RunProver$Search" "checker" "LRunProver$Checker;", .fieldLink "RunProver$Search" 10 "RunProver$Search" "watched" "[I", .fieldLink "RunProver$Search" 16 "RunProver$Search" "nextWatch" "[I", .fieldLink "RunProver$Search" 22 "RunProver$Search" "firstWatch" "[I", .fieldLink "RunProver$Search" 25 "RunProver$Search" "truth" "[B", .fieldLink "RunProver$Search" 30 "RunProver$Search" "level" "[B", .fieldLink "RunProver$Search" 33 "RunProver$Search" "reason" "[I", .fieldLink "RunProver$Search" 36 "RunProver$Search" "trail" "[I", .fieldLink "RunProver$Search" 41 "RunProver$Search" "levelStart" "[I", .fieldLink "RunProver$Search" 44 "RunProver$Search" "seen" "[B", .fieldLink "RunProver$Search" 47 "RunProver$Search" "learnt" "[I", .fieldLink "RunProver$Search" 51 "RunProver$Search" "chain" "[I", .fieldLink "RunProver$Search" 101 "RunProver$Search" "trailSize" "I", .fieldLink "RunProver$Search" 104 "RunProver$Search" "done" "I", .fieldLink "RunProver$Search" 78 "RunProver$Search" "depth" "I", .fieldLink "RunProver$Search" 142 "RunProver$Search" "learntSize" "I", .fieldLink "RunProver$Search" 149 "RunProver$Search" "chainSize" "I"]
def wa9 : List Cond := [.fieldLink "RunProver$Search" 159 "RunProver$Search" "seenCount" "I", .fieldLink "RunProver$Search" 162 "RunProver$Search" "seenHere" "I", .fieldLink "RunProver$Search" 107 "RunProver$Search" "decisionsAlone" "Z", .laysFinal "RunProver$Search" "RunProver$Search" "clauses" "LRunProver$Clauses;", .laysFinal "RunProver$Search" "RunProver$Search" "checker" "LRunProver$Checker;", .laysFinal "RunProver$Search" "RunProver$Search" "watched" "[I", .laysFinal "RunProver$Search" "RunProver$Search" "nextWatch" "[I", .laysFinal "RunProver$Search" "RunProver$Search" "firstWatch" "[I", .laysFinal "RunProver$Search" "RunProver$Search" "truth" "[B", .laysFinal "RunProver$Search" "RunProver$Search" "level" "[B", .laysFinal "RunProver$Search" "RunProver$Search" "reason" "[I", .laysFinal "RunProver$Search" "RunProver$Search" "trail" "[I", .laysFinal "RunProver$Search" "RunProver$Search" "levelStart" "[I", .laysFinal "RunProver$Search" "RunProver$Search" "seen" "[B", .laysFinal "RunProver$Search" "RunProver$Search" "learnt" "[I", .laysFinal "RunProver$Search" "RunProver$Search" "chain" "[I", .lays "RunProver$Search" "RunProver$Search" "trailSize" "I", .lays "RunProver$Search" "RunProver$Search" "done" "I", .lays "RunProver$Search" "RunProver$Search" "depth" "I", .lays "RunProver$Search" "RunProver$Search" "learntSize" "I", .lays "RunProver$Search" "RunProver$Search" "chainSize" "I", .lays "RunProver$Search" "RunProver$Search" "seenCount" "I", .lays "RunProver$Search" "RunProver$Search" "seenHere" "I", .lays "RunProver$Search" "RunProver$Search" "decisionsAlone" "Z", .fieldLink "RunProver" 10 "RunProver" "tape" "[B", .fieldLink "RunProver" 17 "RunProver" "program" "LRunProver$Program;", .fieldLink "RunProver" 26 "RunProver" "parser" "LRunProver$Parser;", .fieldLink "RunProver" 33 "RunProver" "gates" "LRunProver$Gates;", .fieldLink "RunProver" 42 "RunProver" "unroller" "LRunProver$Unroller;", .fieldLink "RunProver" 49 "RunProver" "clauses" "LRunProver$Clauses;", .fieldLink "RunProver" 58 "RunProver" "checker" "LRunProver$Checker;", .fieldLink "RunProver" 67 "RunProver" "search" "LRunProver$Search;", .fieldLink "RunProver" 71 "RunProver" "inputs" "[I", .fieldLink "RunProver" 75 "RunProver" "goals" "[I", .fieldLink "RunProver" 145 "RunProver" "goalCount" "I", .fieldLink "RunProver" 78 "RunProver" "tapeLength" "I", .fieldLink "RunProver" 120 "RunProver" "faultKind" "I", .fieldLink "RunProver" 124 "RunProver" "faultPlace" "I", .fieldLink "RunProver" 125 "RunProver" "hasText" "Z", .fieldLink "RunProver" 105 "RunProver" "unproved" "I"]
def wa10 : List Cond := [.laysFinal "RunProver" "RunProver" "tape" "[B", .laysFinal "RunProver" "RunProver" "program" "LRunProver$Program;", .laysFinal "RunProver" "RunProver" "parser" "LRunProver$Parser;", .laysFinal "RunProver" "RunProver" "gates" "LRunProver$Gates;", .laysFinal "RunProver" "RunProver" "unroller" "LRunProver$Unroller;", .laysFinal "RunProver" "RunProver" "clauses" "LRunProver$Clauses;", .laysFinal "RunProver" "RunProver" "checker" "LRunProver$Checker;", .laysFinal "RunProver" "RunProver" "search" "LRunProver$Search;", .laysFinal "RunProver" "RunProver" "inputs" "[I", .laysFinal "RunProver" "RunProver" "goals" "[I", .lays "RunProver" "RunProver" "goalCount" "I", .lays "RunProver" "RunProver" "tapeLength" "I", .lays "RunProver" "RunProver" "faultKind" "I", .lays "RunProver" "RunProver" "faultPlace" "I", .lays "RunProver" "RunProver" "hasText" "Z", .lays "RunProver" "RunProver" "unproved" "I", .methodLink "RunProverLaw" 64 yRp_read, .instanceMethod yRp_read, .selects "RunProver" yRp_read yRp_read, .code yRp_read cRp_read 1 (some .int), .methodLink "RunProver" 99 yAr_fill, .static yAr_fill, .code yAr_fill cAr_fill 4 none, .methodLink "RunProver" 108 yPa_parse, .instanceMethod yPa_parse, .selects "RunProver$Parser" yPa_parse yPa_parse, .code yPa_parse cPa_parse 2 none, .methodLink "RunProver$Parser" 38 yPg_clear, .instanceMethod yPg_clear, .selects "RunProver$Program" yPg_clear yPg_clear, .code yPg_clear cPg_clear 1 none, .methodLink "RunProver$Parser" 47 yEx_begin, .instanceMethod yEx_begin, .selects "RunProver$Expressions" yEx_begin yEx_begin, .code yEx_begin cEx_begin 1 none, .methodLink "RunProver$Parser" 53 yTk_begin, .instanceMethod yTk_begin, .selects "RunProver$Tokens" yTk_begin yTk_begin, .code yTk_begin cTk_begin 3 none, .methodLink "RunProver$Tokens" 23 Lib.Math.min.name]
def wa11 : List Cond := [.static Lib.Math.min.name, .code Lib.Math.min.name Lib.Math.min.code 2 (some .int), .methodLink "RunProver$Tokens" 42 yTk_behindBlanks, .instanceMethod yTk_behindBlanks, .code yTk_behindBlanks cTk_behindBlanks 5 (some .int), .methodLink "RunProver$Tokens" 46 yTk_cut, .instanceMethod yTk_cut, .code yTk_cut cTk_cut 6 (some .int), .methodLink "RunProver$Tokens" 72 yTk_isLetter, .static yTk_isLetter, .code yTk_isLetter cTk_isLetter 1 (some .boolean), .methodLink "RunProver$Tokens" 76 yTk_wordEnd, .instanceMethod yTk_wordEnd, .code yTk_wordEnd cTk_wordEnd 3 (some .int), .methodLink "RunProver$Tokens" 82 yTk_isDigit, .static yTk_isDigit, .code yTk_isDigit cTk_isDigit 1 (some .boolean), .methodLink "RunProver$Tokens" 79 yTk_wordKind, .instanceMethod yTk_wordKind, .code yTk_wordKind cTk_wordKind 8 (some .int), .methodLink "RunProver$Tokens" 99 ⟨"java/lang/String", "length", "()I"⟩, .methodLink "RunProver$Tokens" 103 ⟨"java/lang/String", "charAt", "(I)C"⟩, .methodLink "RunProver$Tokens" 85 yTk_numberEnd, .instanceMethod yTk_numberEnd, .code yTk_numberEnd cTk_numberEnd 3 (some .int), .methodLink "RunProver$Tokens" 88 yTk_numberIn, .instanceMethod yTk_numberIn, .code yTk_numberIn cTk_numberIn 5 (some .int), .methodLink "RunProver$Tokens" 91 yTk_pairKind, .static yTk_pairKind, .code yTk_pairKind cTk_pairKind 2 (some .int), .methodLink "RunProver$Tokens" 94 yTk_signKind, .static yTk_signKind, .code yTk_signKind cTk_signKind 2 (some .int), .fieldLink "RunProver$Tokens" 109 "RunProver$Tokens" "SIGN_KINDS" "[I", .methodLink "RunProver$Tokens" 52 yTk_advance, .instanceMethod yTk_advance, .selects "RunProver$Tokens" yTk_advance yTk_advance, .code yTk_advance cTk_advance 1 none, .methodLink "RunProver$Parser" 56 yTk_take]
def wa12 : List Cond := [.instanceMethod yTk_take, .selects "RunProver$Tokens" yTk_take yTk_take, .code yTk_take cTk_take 2 none, .methodLink "RunProver$Tokens" 64 yTk_misfit, .instanceMethod yTk_misfit, .code yTk_misfit cTk_misfit 1 (some .int), .methodLink "RunProver$Tokens" 68 yTk_fail, .instanceMethod yTk_fail, .selects "RunProver$Tokens" yTk_fail yTk_fail, .code yTk_fail cTk_fail 3 none, .methodLink "RunProver$Parser" 61 yTk_takeNumber, .instanceMethod yTk_takeNumber, .selects "RunProver$Tokens" yTk_takeNumber yTk_takeNumber, .code yTk_takeNumber cTk_takeNumber 4 (some .int), .methodLink "RunProver$Parser" 68 yPa_declarations, .instanceMethod yPa_declarations, .code yPa_declarations cPa_declarations 2 none, .methodLink "RunProver$Parser" 99 yPa_variable, .instanceMethod yPa_variable, .code yPa_variable cPa_variable 4 none, .methodLink "RunProver$Parser" 105 yTk_advance, .methodLink "RunProver$Parser" 108 yNm_declare, .instanceMethod yNm_declare, .selects "RunProver$Names" yNm_declare yNm_declare, .code yNm_declare cNm_declare 4 (some .int), .methodLink "RunProver$Names" 35 yTk_refuse, .instanceMethod yTk_refuse, .selects "RunProver$Tokens" yTk_refuse yTk_refuse, .code yTk_refuse cTk_refuse 1 none, .methodLink "RunProver$Names" 38 yNm_find, .instanceMethod yNm_find, .selects "RunProver$Names" yNm_find yNm_find, .code yNm_find cNm_find 3 (some .int), .methodLink "RunProver$Names" 26 yTk_sameWord, .instanceMethod yTk_sameWord, .selects "RunProver$Tokens" yTk_sameWord yTk_sameWord, .code yTk_sameWord cTk_sameWord 4 (some .boolean), .methodLink "RunProver$Names" 45 yTk_fail, .methodLink "RunProver$Names" 52 yTk_advance, .methodLink "RunProver$Parser" 112 yPg_addSlot]
def wa13 : List Cond := [.instanceMethod yPg_addSlot, .selects "RunProver$Program" yPg_addSlot yPg_addSlot, .code yPg_addSlot cPg_addSlot 2 (some .int), .methodLink "RunProver$Parser" 115 yNm_define, .instanceMethod yNm_define, .selects "RunProver$Names" yNm_define yNm_define, .code yNm_define cNm_define 4 none, .methodLink "RunProver$Parser" 102 yPa_function, .instanceMethod yPa_function, .code yPa_function cPa_function 6 none, .methodLink "RunProver$Parser" 119 yPa_parameters, .instanceMethod yPa_parameters, .code yPa_parameters cPa_parameters 4 (some .int), .instanceMethod yEx_expression, .code yEx_expression cEx_expression 5 (some .int), .methodLink "RunProver$Expressions" 51 yEx_operand, .instanceMethod yEx_operand, .code yEx_operand cEx_operand 3 (some .int), .methodLink "RunProver$Expressions" 99 yTk_tooDeep, .instanceMethod yTk_tooDeep, .selects "RunProver$Tokens" yTk_tooDeep yTk_tooDeep, .code yTk_tooDeep cTk_tooDeep 2 (some .boolean), .methodLink "RunProver$Expressions" 103 yEx_turned, .instanceMethod yEx_turned, .code yEx_turned cEx_turned 4 (some .int), .methodLink "RunProver$Expressions" 69 yTk_advance, .methodLink "RunProver$Expressions" 78 yPg_emit, .instanceMethod yPg_emit, .selects "RunProver$Program" yPg_emit yPg_emit, .code yPg_emit cPg_emit 3 none, .methodLink "RunProver$Expressions" 83 yEx_signCost, .instanceMethod yEx_signCost, .code yEx_signCost cEx_signCost 3 (some .int), .methodLink "RunProver$Expressions" 86 yEx_addCost, .instanceMethod yEx_addCost, .selects "RunProver$Expressions" yEx_addCost yEx_addCost, .code yEx_addCost cEx_addCost 2 none, .constant "RunProver$Expressions" 44 1000000, .methodLink "RunProver$Expressions" 45 Lib.Math.min.name, .methodLink "RunProver$Expressions" 106 yEx_bracketed]
def wa14 : List Cond := [.instanceMethod yEx_bracketed, .code yEx_bracketed cEx_bracketed 5 (some .int), .methodLink "RunProver$Expressions" 93 yTk_take, .methodLink "RunProver$Expressions" 90 yEx_expression, .methodLink "RunProver$Expressions" 109 yTk_takeNumber, .methodLink "RunProver$Expressions" 112 yEx_signedBelow, .instanceMethod yEx_signedBelow, .code yEx_signedBelow cEx_signedBelow 3 (some .int), .methodLink "RunProver$Expressions" 75 ⟨"java/lang/Math", "max", "(II)I"⟩, .static ⟨"java/lang/Math", "max", "(II)I"⟩, .code ⟨"java/lang/Math", "max", "(II)I"⟩ prog_22_method_65_code 2 (some .int), .methodLink "RunProver$Expressions" 115 yEx_named, .instanceMethod yEx_named, .code yEx_named cEx_named 7 (some .int), .methodLink "RunProver$Expressions" 121 yNm_find, .methodLink "RunProver$Expressions" 127 yNm_kindOf, .instanceMethod yNm_kindOf, .selects "RunProver$Names" yNm_kindOf yNm_kindOf, .code yNm_kindOf cNm_kindOf 2 (some .int), .methodLink "RunProver$Expressions" 130 yNm_numberOf, .instanceMethod yNm_numberOf, .selects "RunProver$Names" yNm_numberOf yNm_numberOf, .code yNm_numberOf cNm_numberOf 2 (some .int), .methodLink "RunProver$Expressions" 136 yEx_mayStand, .instanceMethod yEx_mayStand, .code yEx_mayStand cEx_mayStand 2 (some .boolean), .methodLink "RunProver$Expressions" 139 yTk_fail, .methodLink "RunProver$Expressions" 145 yEx_call, .instanceMethod yEx_call, .code yEx_call cEx_call 9 (some .int), .methodLink "RunProver$Expressions" 148 yPg_ofFunction, .instanceMethod yPg_ofFunction, .selects "RunProver$Program" yPg_ofFunction yPg_ofFunction, .code yPg_ofFunction cPg_ofFunction 3 (some .int), .methodLink "RunProver$Expressions" 118 yTk_refuse, .methodLink "RunProver$Expressions" 58 yEx_level, .static yEx_level, .code yEx_level cEx_level 1 (some .int), .methodLink "RunProver$Expressions" 61 yEx_settle, .instanceMethod yEx_settle]
def wa15 : List Cond := [.code yEx_settle cEx_settle 5 (some .int), .methodLink "RunProver$Expressions" 65 yEx_hold, .instanceMethod yEx_hold, .code yEx_hold cEx_hold 3 none, .methodLink "RunProver$Expressions" 72 yEx_choice, .instanceMethod yEx_choice, .code yEx_choice cEx_choice 4 (some .int), .methodLink "RunProver$Parser" 133 yNm_forgetFrom, .instanceMethod yNm_forgetFrom, .selects "RunProver$Names" yNm_forgetFrom yNm_forgetFrom, .code yNm_forgetFrom cNm_forgetFrom 3 none, .methodLink "RunProver$Parser" 136 yPg_addFunction, .instanceMethod yPg_addFunction, .selects "RunProver$Program" yPg_addFunction yPg_addFunction, .code yPg_addFunction cPg_addFunction 6 (some .int), .methodLink "RunProver$Parser" 71 yPa_statements, .instanceMethod yPa_statements, .code yPa_statements cPa_statements 6 (some .int), .methodLink "RunProver$Parser" 140 yTk_tooDeep, .methodLink "RunProver$Parser" 144 yPa_goesOn, .instanceMethod yPa_goesOn, .code yPa_goesOn cPa_goesOn 1 (some .boolean), .methodLink "RunProver$Parser" 148 yPa_statement, .instanceMethod yPa_statement, .code yPa_statement cPa_statement 4 (some .int), .methodLink "RunProver$Parser" 154 yEx_addCost, .methodLink "RunProver$Parser" 157 yPa_setting, .instanceMethod yPa_setting, .code yPa_setting cPa_setting 7 (some .int), .methodLink "RunProver$Parser" 188 yNm_find, .methodLink "RunProver$Parser" 192 yNm_kindOf, .methodLink "RunProver$Parser" 195 yNm_numberOf, .methodLink "RunProver$Parser" 95 yTk_fail, .methodLink "RunProver$Parser" 198 yPg_addStatement, .instanceMethod yPg_addStatement, .selects "RunProver$Program" yPg_addStatement yPg_addStatement, .code yPg_addStatement cPg_addStatement 3 (some .int), .methodLink "RunProver$Program" 66 yAr_fill2, .static yAr_fill2, .code yAr_fill2 cAr_fill2 5 none]
def wa16 : List Cond := [.methodLink "java/util/Arrays" 13 yAr_rangeCheck, .static yAr_rangeCheck, .code yAr_rangeCheck cAr_rangeCheck 3 none, .classLink "java/util/Arrays" 43 "java/lang/IllegalArgumentException", .selects "RunProverModel$Wrong" ⟨"java/lang/Throwable", "fillInStackTrace", "()Ljava/lang/Throwable;"⟩ ⟨"java/lang/Throwable", "fillInStackTrace", "()Ljava/lang/Throwable;"⟩, .classLink "java/util/Arrays" 45 "java/lang/StringBuilder", .methodLink "java/util/Arrays" 47 ⟨"java/lang/StringBuilder", "<init>", "()V"⟩, .methodLink "java/util/Arrays" 50 ⟨"java/lang/StringBuilder", "append", "(Ljava/lang/String;)Ljava/lang/StringBuilder;"⟩, .static yAr_copyOf, .methodLink "java/util/Arrays" 310 ⟨"[B", "clone", "()Ljava/lang/Object;"⟩, .instanceMethod ⟨"java/lang/Object", "clone", "()Ljava/lang/Object;"⟩, .classLink "java/util/Arrays" 311 "[B", .methodLink "java/util/Arrays" 304 Lib.Math.min.name, .methodLink "java/util/Arrays" 150 ⟨"java/lang/System", "arraycopy", "(Ljava/lang/Object;ILjava/lang/Object;II)V"⟩, .methodLink "java/util/Arrays" 54 ⟨"java/lang/StringBuilder", "append", "(I)Ljava/lang/StringBuilder;"⟩, .methodLink "java/util/Arrays" 61 ⟨"java/lang/StringBuilder", "toString", "()Ljava/lang/String;"⟩, .static yAr_copyOfRange, .methodLink "java/util/Arrays" 339 yAr_copyOfRangeByte, .static yAr_copyOfRangeByte, .methodLink "java/util/Arrays" 343 yAr_checkLength, .static yAr_checkLength, .methodLink "java/util/Arrays" 65 ⟨"java/lang/IllegalArgumentException", "<init>", "(Ljava/lang/String;)V"⟩, .methodLink "RunProver$Parser" 151 yPg_set, .instanceMethod yPg_set, .selects "RunProver$Program" yPg_set yPg_set, .code yPg_set cPg_set 4 none, .methodLink "RunProver$Parser" 166 yPa_addCheck, .instanceMethod yPa_addCheck, .code yPa_addCheck cPa_addCheck 2 (some .int), .methodLink "RunProver$Parser" 160 yPa_drawing, .instanceMethod yPa_drawing, .code yPa_drawing cPa_drawing 4 (some .int), .methodLink "RunProver$Parser" 81 yTk_refuse, .methodLink "RunProver$Parser" 163 yPa_claim, .instanceMethod yPa_claim, .code yPa_claim cPa_claim 4 (some .int), .methodLink "RunProver$Parser" 204 yPa_condition, .instanceMethod yPa_condition, .code yPa_condition cPa_condition 3 none, .methodLink "RunProver$Parser" 169 yPa_branch]
def wa17 : List Cond := [.instanceMethod yPa_branch, .code yPa_branch cPa_branch 3 (some .int), .methodLink "RunProver$Parser" 207 yPa_block, .instanceMethod yPa_block, .code yPa_block cPa_block 3 (some .int), .methodLink "RunProver$Parser" 210 yPa_alternative, .instanceMethod yPa_alternative, .code yPa_alternative cPa_alternative 2 (some .int), .methodLink "RunProver$Parser" 172 yPa_loop, .instanceMethod yPa_loop, .code yPa_loop cPa_loop 8 (some .int), .constant "RunProver$Parser" 213 1000000, .methodLink "RunProver$Parser" 214 Lib.Math.min.name, .methodLink "RunProver" 129 yPg_clear, .methodLink "RunProver" 132 yUn_begin, .instanceMethod yUn_begin, .selects "RunProver$Unroller" yUn_begin yUn_begin, .code yUn_begin cUn_begin 1 none, .methodLink "RunProver$Unroller" 55 yGa_clear, .instanceMethod yGa_clear, .selects "RunProver$Gates" yGa_clear yGa_clear, .code yGa_clear cGa_clear 1 none, .methodLink "RunProver$Gates" 41 yAr_fill, .methodLink "RunProver$Unroller" 64 yWo_begin, .instanceMethod yWo_begin, .selects "RunProver$Words" yWo_begin yWo_begin, .code yWo_begin cWo_begin 2 none, .methodLink "RunProver$Unroller" 71 yAr_fill2, .methodLink "RunProver$Unroller" 77 yAr_fill, .instanceMethod yUn_walk, .code yUn_walk cUn_walk 6 none, .methodLink "RunProver$Unroller" 91 yPg_get, .instanceMethod yPg_get, .selects "RunProver$Program" yPg_get yPg_get, .code yPg_get cPg_get 3 (some .int), .methodLink "RunProver$Unroller" 95 yUn_loop, .instanceMethod yUn_loop, .code yUn_loop cUn_loop 9 none, .methodLink "RunProver$Unroller" 99 yUn_evaluate, .instanceMethod yUn_evaluate]
def wa18 : List Cond := [.code yUn_evaluate cUn_evaluate 9 none, .constant "RunProver$Unroller" 158 100000000, .methodLink "RunProver$Unroller" 159 yWo_sink, .instanceMethod yWo_sink, .selects "RunProver$Words" yWo_sink yWo_sink, .code yWo_sink cWo_sink 3 none, .methodLink "RunProver$Words" 49 yWo_drop, .instanceMethod yWo_drop, .selects "RunProver$Words" yWo_drop yWo_drop, .code yWo_drop cWo_drop 1 (some .int), .methodLink "RunProver$Words" 39 ⟨"java/lang/System", "arraycopy", "(Ljava/lang/Object;ILjava/lang/Object;II)V"⟩, .methodLink "RunProver$Unroller" 171 yPg_ofFunction, .methodLink "RunProver$Unroller" 174 yUn_push, .instanceMethod yUn_push, .code yUn_push cUn_push 4 none, .methodLink "RunProver$Unroller" 181 yWo_pushNumber, .instanceMethod yWo_pushNumber, .selects "RunProver$Words" yWo_pushNumber yWo_pushNumber, .code yWo_pushNumber cWo_pushNumber 4 none, .methodLink "RunProver$Words" 35 yWo_newRow, .instanceMethod yWo_newRow, .code yWo_newRow cWo_newRow 1 (some .int), .methodLink "RunProver$Unroller" 184 yWo_pushCopy, .instanceMethod yWo_pushCopy, .selects "RunProver$Words" yWo_pushCopy yWo_pushCopy, .code yWo_pushCopy cWo_pushCopy 2 none, .methodLink "RunProver$Words" 45 yWo_pushFrom, .instanceMethod yWo_pushFrom, .selects "RunProver$Words" yWo_pushFrom yWo_pushFrom, .code yWo_pushFrom cWo_pushFrom 3 none, .methodLink "RunProver$Unroller" 187 yWo_pushFrom, .methodLink "RunProver$Unroller" 190 yWo_select, .instanceMethod yWo_select, .selects "RunProver$Words" yWo_select yWo_select, .code yWo_select cWo_select 11 none, .methodLink "RunProver$Words" 120 yAr_fill, .methodLink "RunProver$Words" 110 yGa_or, .instanceMethod yGa_or, .selects "RunProver$Gates" yGa_or yGa_or, .code yGa_or cGa_or 3 (some .int)]
def wa19 : List Cond := [.methodLink "RunProver$Gates" 60 yGa_and, .instanceMethod yGa_and, .selects "RunProver$Gates" yGa_and yGa_and, .code yGa_and cGa_and 5 (some .int), .methodLink "RunProver$Gates" 47 Lib.Math.min.name, .methodLink "RunProver$Gates" 53 ⟨"java/lang/Math", "max", "(II)I"⟩, .methodLink "RunProver$Gates" 56 yGa_gate, .instanceMethod yGa_gate, .code yGa_gate cGa_gate 9 (some .int), .constant "RunProver$Gates" 66 65535, .methodLink "RunProver$Words" 116 yGa_mux, .instanceMethod yGa_mux, .selects "RunProver$Gates" yGa_mux yGa_mux, .code yGa_mux cGa_mux 9 (some .int), .methodLink "RunProver$Gates" 63 yGa_xor, .instanceMethod yGa_xor, .selects "RunProver$Gates" yGa_xor yGa_xor, .code yGa_xor cGa_xor 6 (some .int), .methodLink "RunProver$Words" 62 yAr_fill2, .methodLink "RunProver$Words" 58 yGa_and, .methodLink "RunProver$Unroller" 178 yWo_apply, .instanceMethod yWo_apply, .selects "RunProver$Words" yWo_apply yWo_apply, .code yWo_apply cWo_apply 4 none, .methodLink "RunProver$Words" 68 yWo_negate, .instanceMethod yWo_negate, .code yWo_negate cWo_negate 5 none, .methodLink "RunProver$Words" 113 yGa_xor, .methodLink "RunProver$Words" 72 yWo_invert, .instanceMethod yWo_invert, .code yWo_invert cWo_invert 3 none, .methodLink "RunProver$Words" 52 yWo_truthOf, .instanceMethod yWo_truthOf, .code yWo_truthOf cWo_truthOf 4 (some .int), .methodLink "RunProver$Words" 75 yWo_setTruth, .instanceMethod yWo_setTruth, .code yWo_setTruth cWo_setTruth 3 none, .methodLink "RunProver$Words" 79 yWo_choose, .instanceMethod yWo_choose, .code yWo_choose cWo_choose 6 none]
def wa20 : List Cond := [.methodLink "RunProver$Words" 85 yWo_add, .instanceMethod yWo_add, .code yWo_add cWo_add 8 none, .methodLink "RunProver$Words" 88 yWo_multiply, .instanceMethod yWo_multiply, .code yWo_multiply cWo_multiply 8 none, .methodLink "RunProver$Words" 91 yWo_divide, .instanceMethod yWo_divide, .code yWo_divide cWo_divide 9 none, .methodLink "RunProver$Words" 95 yWo_shift, .instanceMethod yWo_shift, .code yWo_shift cWo_shift 12 none, .methodLink "RunProver$Words" 98 yWo_bitwise, .instanceMethod yWo_bitwise, .code yWo_bitwise cWo_bitwise 7 none, .methodLink "RunProver$Words" 101 yWo_join, .instanceMethod yWo_join, .code yWo_join cWo_join 6 none, .methodLink "RunProver$Words" 104 yWo_compareEqual, .instanceMethod yWo_compareEqual, .code yWo_compareEqual cWo_compareEqual 6 none, .methodLink "RunProver$Words" 107 yWo_compareOrder, .instanceMethod yWo_compareOrder, .code yWo_compareOrder cWo_compareOrder 11 none, .methodLink "RunProver$Unroller" 114 yWo_dropTruth, .instanceMethod yWo_dropTruth, .selects "RunProver$Words" yWo_dropTruth yWo_dropTruth, .code yWo_dropTruth cWo_dropTruth 1 (some .int), .methodLink "RunProver$Unroller" 118 yGa_and, .methodLink "RunProver$Unroller" 127 yGa_or, .methodLink "RunProver$Unroller" 155 yUn_walk, .methodLink "RunProver$Unroller" 121 yUn_demand, .instanceMethod yUn_demand, .code yUn_demand cUn_demand 3 none, .methodLink "RunProver$Unroller" 102 yUn_act, .instanceMethod yUn_act, .code yUn_act cUn_act 3 none, .methodLink "RunProver$Unroller" 105 yUn_set, .instanceMethod yUn_set, .code yUn_set cUn_set 5 none]
def wa21 : List Cond := [.methodLink "RunProver$Unroller" 130 yWo_drop, .methodLink "RunProver$Unroller" 136 yWo_literal, .instanceMethod yWo_literal, .selects "RunProver$Words" yWo_literal yWo_literal, .code yWo_literal cWo_literal 3 (some .int), .methodLink "RunProver$Unroller" 139 yGa_mux, .methodLink "RunProver$Unroller" 108 yUn_setElement, .instanceMethod yUn_setElement, .code yUn_setElement cUn_setElement 10 none, .methodLink "RunProver$Unroller" 146 yWo_isBelow, .instanceMethod yWo_isBelow, .selects "RunProver$Words" yWo_isBelow yWo_isBelow, .code yWo_isBelow cWo_isBelow 6 (some .int), .methodLink "RunProver$Unroller" 149 yWo_isNumber, .instanceMethod yWo_isNumber, .selects "RunProver$Words" yWo_isNumber yWo_isNumber, .code yWo_isNumber cWo_isNumber 5 (some .int), .methodLink "RunProver$Unroller" 111 yUn_draw, .instanceMethod yUn_draw, .code yUn_draw cUn_draw 6 none, .methodLink "RunProver$Unroller" 152 yGa_addSource, .instanceMethod yGa_addSource, .selects "RunProver$Gates" yGa_addSource yGa_addSource, .code yGa_addSource cGa_addSource 1 (some .int), .methodLink "RunProver$Unroller" 124 yUn_branch, .instanceMethod yUn_branch, .code yUn_branch cUn_branch 6 none, .methodLink "RunProverLaw" 68 yRp_fault, .instanceMethod yRp_fault, .selects "RunProver" yRp_fault yRp_fault, .code yRp_fault cRp_fault 2 (some .int), .methodLink "RunProverLaw" 72 yRp_prove, .instanceMethod yRp_prove, .selects "RunProver" yRp_prove yRp_prove, .code yRp_prove cRp_prove 2 (some .int), .methodLink "RunProver" 151 yRp_addGoal, .instanceMethod yRp_addGoal, .code yRp_addGoal cRp_addGoal 3 none, .methodLink "RunProver" 154 yRp_possible, .instanceMethod yRp_possible]
def wa22 : List Cond := [.code yRp_possible cRp_possible 3 (some .boolean), .methodLink "RunProver" 226 yGa_want, .instanceMethod yGa_want, .selects "RunProver$Gates" yGa_want yGa_want, .code yGa_want cGa_want 4 none, .methodLink "RunProver$Gates" 71 yAr_fill3, .static yAr_fill3, .code yAr_fill3 cAr_fill3 5 none, .methodLink "RunProver" 229 yCl_begin, .instanceMethod yCl_begin, .selects "RunProver$Clauses" yCl_begin yCl_begin, .code yCl_begin cCl_begin 5 none, .methodLink "RunProver$Clauses" 29 yCl_addOne, .instanceMethod yCl_addOne, .code yCl_addOne cCl_addOne 2 none, .methodLink "RunProver$Clauses" 78 yCl_fits, .instanceMethod yCl_fits, .code yCl_fits cCl_fits 2 (some .boolean), .constant "RunProver$Clauses" 91 98292, .methodLink "RunProver$Clauses" 82 yCl_close, .instanceMethod yCl_close, .code yCl_close cCl_close 2 none, .methodLink "RunProver$Clauses" 33 yCl_add, .instanceMethod yCl_add, .selects "RunProver$Clauses" yCl_add yCl_add, .code yCl_add cCl_add 3 (some .int), .methodLink "RunProver$Clauses" 85 ⟨"java/lang/System", "arraycopy", "(Ljava/lang/Object;ILjava/lang/Object;II)V"⟩, .methodLink "RunProver" 232 yCl_addGates, .instanceMethod yCl_addGates, .selects "RunProver$Clauses" yCl_addGates yCl_addGates, .code yCl_addGates cCl_addGates 3 none, .methodLink "RunProver$Clauses" 56 yCl_addGate, .instanceMethod yCl_addGate, .code yCl_addGate cCl_addGate 6 none, .methodLink "RunProver$Clauses" 60 yCl_addAnd, .instanceMethod yCl_addAnd, .code yCl_addAnd cCl_addAnd 4 none, .methodLink "RunProver$Clauses" 71 yCl_addTwo, .instanceMethod yCl_addTwo, .code yCl_addTwo cCl_addTwo 3 none]
def wa23 : List Cond := [.methodLink "RunProver$Clauses" 75 yCl_addThree, .instanceMethod yCl_addThree, .code yCl_addThree cCl_addThree 4 none, .methodLink "RunProver$Clauses" 64 yCl_addXor, .instanceMethod yCl_addXor, .code yCl_addXor cCl_addXor 4 none, .methodLink "RunProver$Clauses" 67 yCl_addMux, .instanceMethod yCl_addMux, .code yCl_addMux cCl_addMux 5 none, .methodLink "RunProver" 242 ySe_solve, .instanceMethod ySe_solve, .selects "RunProver$Search" ySe_solve ySe_solve, .code ySe_solve cSe_solve 6 (some .boolean), .methodLink "RunProver$Search" 62 ySe_begin, .instanceMethod ySe_begin, .code ySe_begin cSe_begin 2 none, .methodLink "RunProver$Search" 91 yCk_begin, .instanceMethod yCk_begin, .selects "RunProver$Checker" yCk_begin yCk_begin, .code yCk_begin cCk_begin 2 none, .methodLink "RunProver$Checker" 25 Lib.Math.min.name, .methodLink "RunProver$Checker" 31 yAr_fill3, .methodLink "RunProver$Search" 92 yAr_fill2, .methodLink "RunProver$Search" 98 yAr_fill3, .methodLink "RunProver$Search" 66 ySe_attachAll, .instanceMethod ySe_attachAll, .code ySe_attachAll cSe_attachAll 5 (some .int), .methodLink "RunProver$Search" 120 ySe_attach, .instanceMethod ySe_attach, .code ySe_attach cSe_attach 4 none, .methodLink "RunProver$Search" 128 ySe_watch, .instanceMethod ySe_watch, .code ySe_watch cSe_watch 3 none, .methodLink "RunProver$Search" 124 ySe_assign, .instanceMethod ySe_assign, .code ySe_assign cSe_assign 3 none, .methodLink "RunProver$Search" 131 yCk_acceptLiteral, .instanceMethod yCk_acceptLiteral, .selects "RunProver$Checker" yCk_acceptLiteral yCk_acceptLiteral, .code yCk_acceptLiteral cCk_acceptLiteral 5 (some .boolean)]
def wa24 : List Cond := [.methodLink "RunProver$Checker" 59 yCk_set, .instanceMethod yCk_set, .code yCk_set cCk_set 2 none, .constant "RunProver$Search" 70 1000000, .methodLink "RunProver$Search" 71 ySe_propagate, .instanceMethod ySe_propagate, .code ySe_propagate cSe_propagate 8 (some .int), .methodLink "RunProver$Search" 135 ySe_spareLiteral, .instanceMethod ySe_spareLiteral, .code ySe_spareLiteral cSe_spareLiteral 6 (some .int), .methodLink "RunProver$Search" 74 ySe_decide, .instanceMethod ySe_decide, .code ySe_decide cSe_decide 5 (some .boolean), .methodLink "RunProver$Search" 82 yCk_accept, .instanceMethod yCk_accept, .selects "RunProver$Checker" yCk_accept yCk_accept, .code yCk_accept cCk_accept 6 (some .boolean), .methodLink "RunProver$Checker" 63 yCk_assumeAgainst, .instanceMethod yCk_assumeAgainst, .code yCk_assumeAgainst cCk_assumeAgainst 4 (some .boolean), .methodLink "RunProver$Checker" 73 yCk_assume, .instanceMethod yCk_assume, .code yCk_assume cCk_assume 2 none, .methodLink "RunProver$Checker" 67 yCk_follow, .instanceMethod yCk_follow, .code yCk_follow cCk_follow 8 (some .boolean), .methodLink "RunProver$Checker" 70 yCk_withdraw, .instanceMethod yCk_withdraw, .code yCk_withdraw cCk_withdraw 2 none, .methodLink "RunProver$Search" 88 ySe_learn, .instanceMethod ySe_learn, .code ySe_learn cSe_learn 3 none, .methodLink "RunProver$Search" 139 ySe_analyse, .instanceMethod ySe_analyse, .code ySe_analyse cSe_analyse 4 none, .methodLink "RunProver$Search" 165 ySe_resolve, .instanceMethod ySe_resolve, .code ySe_resolve cSe_resolve 5 none, .methodLink "RunProver$Search" 168 ySe_stays, .instanceMethod ySe_stays]
def wa25 : List Cond := [.code ySe_stays cSe_stays 2 (some .boolean), .methodLink "RunProver$Search" 145 yCl_fitsEarly, .instanceMethod yCl_fitsEarly, .selects "RunProver$Clauses" yCl_fitsEarly yCl_fitsEarly, .code yCl_fitsEarly cCl_fitsEarly 2 (some .boolean), .constant "RunProver$Clauses" 92 131072, .methodLink "RunProver$Search" 152 ySe_goBack, .instanceMethod ySe_goBack, .code ySe_goBack cSe_goBack 4 none, .methodLink "RunProver$Search" 155 yCl_add, .methodLink "RunProver" 246 yRp_takeInputs, .instanceMethod yRp_takeInputs, .code yRp_takeInputs cRp_takeInputs 5 none, .methodLink "RunProver" 252 ySe_isTrue, .instanceMethod ySe_isTrue, .selects "RunProver$Search" ySe_isTrue ySe_isTrue, .code ySe_isTrue cSe_isTrue 2 (some .boolean), .methodLink "RunProver" 158 yRp_brokenCheck, .instanceMethod yRp_brokenCheck, .code yRp_brokenCheck cRp_brokenCheck 2 (some .int), .methodLink "RunProver" 214 yRp_simulate, .instanceMethod yRp_simulate, .code yRp_simulate cRp_simulate 4 none, .methodLink "RunProver" 258 yGa_settle, .instanceMethod yGa_settle, .selects "RunProver$Gates" yGa_settle yGa_settle, .code yGa_settle cGa_settle 4 none, .methodLink "RunProver$Gates" 67 yGa_bit, .instanceMethod yGa_bit, .code yGa_bit cGa_bit 2 (some .int), .methodLink "RunProver" 208 yGa_holds, .instanceMethod yGa_holds, .selects "RunProver$Gates" yGa_holds yGa_holds, .code yGa_holds cGa_holds 2 (some .boolean), .methodLink "RunProverLaw" 96 yRp_run, .instanceMethod yRp_run, .selects "RunProver" yRp_run yRp_run, .code yRp_run cRp_run 2 (some .int), .methodLink "RunProverLaw" 103 yRp_doubts, .instanceMethod yRp_doubts]
def wa26 : List Cond := [.selects "RunProver" yRp_doubts yRp_doubts, .code yRp_doubts cRp_doubts 1 (some .int), .methodLink "RunProverLaw" 107 yRp_count, .instanceMethod yRp_count, .selects "RunProver" yRp_count yRp_count, .code yRp_count cRp_count 2 (some .int), .methodLink "RunProverLaw" 50 yLa_feed, .static yLa_feed, .codeWith yLa_feed cLa_feed 8 (some .int) [(0, 16, 19, 13)], .classLink "RunProverLaw" 13 "java/lang/IllegalStateException", .methodLink "RunProverLaw" 7 yRp_feed, .instanceMethod yRp_feed, .selects "RunProver" yRp_feed yRp_feed, .code yRp_feed cRp_feed 6 (some .int), .constant "RunProver" 82 65516, .classLink "RunProver" 83 "java/lang/IllegalStateException", .methodLink "RunProver" 87 ⟨"java/lang/IllegalStateException", "<init>", "(Ljava/lang/String;)V"⟩, .methodLink "RunProver" 90 yRp_store, .instanceMethod yRp_store, .code yRp_store cRp_store 3 none, .methodLink "RunProverLaw" 60 yLa_end, .static yLa_end, .codeWith yLa_end cLa_end 4 (some .int) [(0, 9, 12, 19)], .classLink "RunProverLaw" 19 "java/lang/IllegalArgumentException", .methodLink "RunProverLaw" 15 yRp_end, .instanceMethod yRp_end, .selects "RunProver" yRp_end yRp_end, .code yRp_end cRp_end 2 (some .int), .classLink "RunProver" 94 "java/lang/IllegalArgumentException", .methodLink "RunProver" 98 ⟨"java/lang/IllegalArgumentException", "<init>", "(Ljava/lang/String;)V"⟩, .methodLink "RunProverLaw" 76 yLa_breaks, .static yLa_breaks, .codeWith yLa_breaks cLa_breaks 4 (some .int) [(0, 9, 12, 24)], .classLink "RunProverLaw" 24 "java/util/NoSuchElementException", .methodLink "RunProverLaw" 21 yRp_breaks, .instanceMethod yRp_breaks, .selects "RunProver" yRp_breaks yRp_breaks, .code yRp_breaks cRp_breaks 2 (some .int), .classLink "RunProver" 162 "java/util/NoSuchElementException", .methodLink "RunProver" 166 ⟨"java/util/NoSuchElementException", "<init>", "(Ljava/lang/String;)V"⟩]
def wa27 : List Cond := [.methodLink "RunProverLaw" 79 yLa_reaches, .static yLa_reaches, .codeWith yLa_reaches cLa_reaches 4 (some .int) [(0, 9, 12, 24)], .methodLink "RunProverLaw" 26 yRp_reaches, .instanceMethod yRp_reaches, .selects "RunProver" yRp_reaches yRp_reaches, .code yRp_reaches cRp_reaches 2 (some .int), .methodLink "RunProverLaw" 82 yLa_ends, .static yLa_ends, .codeWith yLa_ends cLa_ends 6 (some .int) [(0, 12, 15, 24)], .methodLink "RunProverLaw" 29 yRp_ends, .instanceMethod yRp_ends, .selects "RunProver" yRp_ends yRp_ends, .code yRp_ends cRp_ends 7 (some .int), .methodLink "RunProver" 170 yPg_hasElement, .instanceMethod yPg_hasElement, .selects "RunProver$Program" yPg_hasElement yPg_hasElement, .code yPg_hasElement cPg_hasElement 3 (some .boolean), .methodLink "RunProverLaw" 86 yLa_check, .static yLa_check, .codeWith yLa_check cLa_check 5 (some .int) [(0, 10, 13, 24), (0, 10, 17, 19)], .methodLink "RunProverLaw" 33 yRp_check, .instanceMethod yRp_check, .selects "RunProver" yRp_check yRp_check, .code yRp_check cRp_check 3 (some .int), .methodLink "RunProverLaw" 90 yLa_input, .static yLa_input, .codeWith yLa_input cLa_input 4 (some .int) [(0, 9, 12, 24)], .methodLink "RunProverLaw" 37 yRp_input, .instanceMethod yRp_input, .selects "RunProver" yRp_input yRp_input, .code yRp_input cRp_input 2 (some .int), .methodLink "RunProverLaw" 93 yLa_put, .static yLa_put, .codeWith yLa_put cLa_put 5 (some .int) [(0, 10, 13, 24), (0, 10, 17, 19)], .methodLink "RunProverLaw" 40 yRp_put, .instanceMethod yRp_put, .selects "RunProver" yRp_put yRp_put, .code yRp_put cRp_put 4 (some .int), .methodLink "RunProverLaw" 100 yLa_value]
def wa28 : List Cond := [.static yLa_value, .codeWith yLa_value cLa_value 5 (some .int) [(0, 10, 13, 24)], .methodLink "RunProverLaw" 43 yRp_value, .instanceMethod yRp_value, .selects "RunProver" yRp_value yRp_value, .code yRp_value cRp_value 6 (some .int), .classLink "RunProverLaw" 47 "RunProverModel", .instantiable "RunProverModel" 56, .methodLink "RunProverLaw" 49 yMo_init, .instanceMethod yMo_init, .code yMo_init cMo_init 1 none, .methodLink "RunProverModel" 1 objectInit, .constant "RunProverModel" 7 65536, .fieldLink "RunProverModel" 8 "RunProverModel" "tape" "[B", .fieldLink "RunProverModel" 14 "RunProverModel" "size" "I", .fieldLink "RunProverModel" 18 "RunProverModel" "thrown" "I", .fieldLink "RunProverModel" 21 "RunProverModel" "faultKind" "I", .fieldLink "RunProverModel" 24 "RunProverModel" "faultPlace" "I", .fieldLink "RunProverModel" 27 "RunProverModel" "there" "Z", .fieldLink "RunProverModel" 31 "RunProverModel" "pos" "I", .fieldLink "RunProverModel" 34 "RunProverModel" "token" "I", .fieldLink "RunProverModel" 37 "RunProverModel" "tokenAt" "I", .fieldLink "RunProverModel" 40 "RunProverModel" "tokenEnd" "I", .fieldLink "RunProverModel" 43 "RunProverModel" "tokens" "I", .fieldLink "RunProverModel" 46 "RunProverModel" "seen" "Z", .fieldLink "RunProverModel" 49 "RunProverModel" "wordAt" "[I", .fieldLink "RunProverModel" 53 "RunProverModel" "wordSize" "[I", .fieldLink "RunProverModel" 56 "RunProverModel" "nameKind" "[I", .fieldLink "RunProverModel" 59 "RunProverModel" "nameNumber" "[I", .fieldLink "RunProverModel" 62 "RunProverModel" "names" "I", .fieldLink "RunProverModel" 65 "RunProverModel" "declared" "I", .fieldLink "RunProverModel" 68 "RunProverModel" "width" "I", .fieldLink "RunProverModel" 71 "RunProverModel" "elements" "[I", .fieldLink "RunProverModel" 74 "RunProverModel" "cellAt" "[I", .fieldLink "RunProverModel" 77 "RunProverModel" "things" "I", .fieldLink "RunProverModel" 80 "RunProverModel" "cells" "I", .fieldLink "RunProverModel" 83 "RunProverModel" "parameters" "[I", .fieldLink "RunProverModel" 86 "RunProverModel" "body" "[I", .fieldLink "RunProverModel" 89 "RunProverModel" "functions" "I", .fieldLink "RunProverModel" 92 "RunProverModel" "sort" "[I"]
def wa29 : List Cond := [.fieldLink "RunProverModel" 95 "RunProverModel" "of" "[I", .fieldLink "RunProverModel" 98 "RunProverModel" "kid" "[I", .fieldLink "RunProverModel" 101 "RunProverModel" "beside" "[I", .fieldLink "RunProverModel" 104 "RunProverModel" "by" "[I", .fieldLink "RunProverModel" 107 "RunProverModel" "deep" "[I", .fieldLink "RunProverModel" 110 "RunProverModel" "cost" "[I", .fieldLink "RunProverModel" 113 "RunProverModel" "nodes" "I", .fieldLink "RunProverModel" 116 "RunProverModel" "deepest" "I", .fieldLink "RunProverModel" 119 "RunProverModel" "inFunction" "Z", .fieldLink "RunProverModel" 122 "RunProverModel" "checks" "I", .fieldLink "RunProverModel" 125 "RunProverModel" "program" "I", .fieldLink "RunProverModel" 128 "RunProverModel" "bits" "I", .fieldLink "RunProverModel" 131 "RunProverModel" "inputs" "I", .fieldLink "RunProverModel" 134 "RunProverModel" "checkKind" "[I", .fieldLink "RunProverModel" 137 "RunProverModel" "checkAt" "[I", .fieldLink "RunProverModel" 140 "RunProverModel" "taken" "[I", .fieldLink "RunProverModel" 143 "RunProverModel" "takenBits" "[I", .fieldLink "RunProverModel" 146 "RunProverModel" "limitOf" "[I", .fieldLink "RunProverModel" 149 "RunProverModel" "bitsOf" "[I", .fieldLink "RunProverModel" 152 "RunProverModel" "in" "[I", .fieldLink "RunProverModel" 155 "RunProverModel" "read" "[Z", .fieldLink "RunProverModel" 159 "RunProverModel" "cell" "[I", .fieldLink "RunProverModel" 162 "RunProverModel" "given" "[I", .fieldLink "RunProverModel" 165 "RunProverModel" "top" "I", .fieldLink "RunProverModel" 168 "RunProverModel" "base" "I", .fieldLink "RunProverModel" 171 "RunProverModel" "over" "I", .fieldLink "RunProverModel" 174 "RunProverModel" "broken" "I", .fieldLink "RunProverModel" 177 "RunProverModel" "came" "[Z", .fieldLink "RunProverModel" 180 "RunProverModel" "before" "[I", .laysFinal "RunProverModel" "RunProverModel" "tape" "[B", .lays "RunProverModel" "RunProverModel" "size" "I", .lays "RunProverModel" "RunProverModel" "thrown" "I", .lays "RunProverModel" "RunProverModel" "faultKind" "I", .lays "RunProverModel" "RunProverModel" "faultPlace" "I", .lays "RunProverModel" "RunProverModel" "there" "Z", .lays "RunProverModel" "RunProverModel" "pos" "I", .lays "RunProverModel" "RunProverModel" "token" "I", .lays "RunProverModel" "RunProverModel" "tokenAt" "I", .lays "RunProverModel" "RunProverModel" "tokenEnd" "I", .lays "RunProverModel" "RunProverModel" "tokens" "I"]
def wa30 : List Cond := [.lays "RunProverModel" "RunProverModel" "seen" "Z", .laysFinal "RunProverModel" "RunProverModel" "wordAt" "[I", .laysFinal "RunProverModel" "RunProverModel" "wordSize" "[I", .laysFinal "RunProverModel" "RunProverModel" "nameKind" "[I", .laysFinal "RunProverModel" "RunProverModel" "nameNumber" "[I", .lays "RunProverModel" "RunProverModel" "names" "I", .lays "RunProverModel" "RunProverModel" "declared" "I", .lays "RunProverModel" "RunProverModel" "width" "I", .laysFinal "RunProverModel" "RunProverModel" "elements" "[I", .laysFinal "RunProverModel" "RunProverModel" "cellAt" "[I", .lays "RunProverModel" "RunProverModel" "things" "I", .lays "RunProverModel" "RunProverModel" "cells" "I", .laysFinal "RunProverModel" "RunProverModel" "parameters" "[I", .laysFinal "RunProverModel" "RunProverModel" "body" "[I", .lays "RunProverModel" "RunProverModel" "functions" "I", .laysFinal "RunProverModel" "RunProverModel" "sort" "[I", .laysFinal "RunProverModel" "RunProverModel" "of" "[I", .laysFinal "RunProverModel" "RunProverModel" "kid" "[I", .laysFinal "RunProverModel" "RunProverModel" "beside" "[I", .laysFinal "RunProverModel" "RunProverModel" "by" "[I", .laysFinal "RunProverModel" "RunProverModel" "deep" "[I", .laysFinal "RunProverModel" "RunProverModel" "cost" "[I", .lays "RunProverModel" "RunProverModel" "nodes" "I", .lays "RunProverModel" "RunProverModel" "deepest" "I", .lays "RunProverModel" "RunProverModel" "inFunction" "Z", .lays "RunProverModel" "RunProverModel" "checks" "I", .lays "RunProverModel" "RunProverModel" "program" "I", .lays "RunProverModel" "RunProverModel" "bits" "I", .lays "RunProverModel" "RunProverModel" "inputs" "I", .laysFinal "RunProverModel" "RunProverModel" "checkKind" "[I", .laysFinal "RunProverModel" "RunProverModel" "checkAt" "[I", .laysFinal "RunProverModel" "RunProverModel" "taken" "[I", .laysFinal "RunProverModel" "RunProverModel" "takenBits" "[I", .laysFinal "RunProverModel" "RunProverModel" "limitOf" "[I", .laysFinal "RunProverModel" "RunProverModel" "bitsOf" "[I", .laysFinal "RunProverModel" "RunProverModel" "in" "[I", .laysFinal "RunProverModel" "RunProverModel" "read" "[Z", .laysFinal "RunProverModel" "RunProverModel" "cell" "[I", .laysFinal "RunProverModel" "RunProverModel" "given" "[I", .lays "RunProverModel" "RunProverModel" "top" "I"]
def wa31 : List Cond := [.lays "RunProverModel" "RunProverModel" "base" "I", .lays "RunProverModel" "RunProverModel" "over" "I", .lays "RunProverModel" "RunProverModel" "broken" "I", .laysFinal "RunProverModel" "RunProverModel" "came" "[Z", .laysFinal "RunProverModel" "RunProverModel" "before" "[I", .arrayClass .boolean, .methodLink "RunProverLaw" 56 yMo_thrown, .instanceMethod yMo_thrown, .selects "RunProverModel" yMo_thrown yMo_thrown, .code yMo_thrown cMo_thrown 1 (some .int), .methodLink "RunProverLaw" 55 yMo_feed, .instanceMethod yMo_feed, .selects "RunProverModel" yMo_feed yMo_feed, .code yMo_feed cMo_feed 8 (some .int), .constant "RunProverModel" 183 65516, .methodLink "RunProverModel" 184 yMo_refuse, .instanceMethod yMo_refuse, .code yMo_refuse cMo_refuse 3 (some .boolean), .methodLink "RunProverLaw" 63 yMo_end, .instanceMethod yMo_end, .selects "RunProverModel" yMo_end yMo_end, .code yMo_end cMo_end 2 (some .int), .methodLink "RunProverLaw" 67 yMo_read, .instanceMethod yMo_read, .selects "RunProverModel" yMo_read yMo_read, .codeWith yMo_read cMo_read 2 (some .int) [(95, 189, 192, 191)], .classLink "RunProverModel" 191 "RunProverModel$Wrong", .methodLink "RunProverModel" 356 yMo_text, .instanceMethod yMo_text, .code yMo_text cMo_text 2 none, .methodLink "RunProverModel" 232 yMo_is, .instanceMethod yMo_is, .code yMo_is cMo_is 3 (some .boolean), .methodLink "RunProverModel" 211 yMo_peek, .instanceMethod yMo_peek, .code yMo_peek cMo_peek 2 (some .int), .methodLink "RunProverModel" 188 yMo_parts, .instanceMethod yMo_parts, .code yMo_parts cMo_parts 2 none, .instantiable "RunProverModel$Wrong" 8]
def wa32 : List Cond := [.selects "RunProverModel$Wrong" ⟨"java/lang/Throwable", "fillInStackTrace", "(I)Ljava/lang/Throwable;"⟩ ⟨"java/lang/Throwable", "fillInStackTrace", "(I)Ljava/lang/Throwable;"⟩, .lays "RunProverModel$Wrong" "java/lang/Throwable" "cause" "Ljava/lang/Throwable;", .lays "RunProverModel$Wrong" "java/lang/Throwable" "stackTrace" "[Ljava/lang/StackTraceElement;", .lays "RunProverModel$Wrong" "java/lang/Throwable" "suppressedExceptions" "Ljava/util/List;", .lays "RunProverModel$Wrong" "java/lang/Throwable" "detailMessage" "Ljava/lang/String;", .lays "RunProverModel$Wrong" "java/lang/Throwable" "backtrace" "Ljava/lang/Object;", .methodLink "RunProverModel" 193 yWr_init, .instanceMethod yWr_init, .code yWr_init cWr_init 3 none, .methodLink "RunProverModel$Wrong" 1 yRt_init2, .fieldLink "RunProverModel$Wrong" 7 "RunProverModel$Wrong" "kind" "I", .fieldLink "RunProverModel" 359 "RunProverModel$Wrong" "kind" "I", .fieldLink "RunProverModel$Wrong" 13 "RunProverModel$Wrong" "place" "I", .fieldLink "RunProverModel" 362 "RunProverModel$Wrong" "place" "I", .laysFinal "RunProverModel$Wrong" "RunProverModel$Wrong" "kind" "I", .laysFinal "RunProverModel$Wrong" "RunProverModel$Wrong" "place" "I", .lays "RunProverModel$Wrong" "java/lang/Throwable" "depth" "I", .methodLink "RunProverModel" 196 yMo_letter, .static yMo_letter, .code yMo_letter cMo_letter 1 (some .boolean), .methodLink "RunProverModel" 200 yMo_digit, .static yMo_digit, .code yMo_digit cMo_digit 1 (some .boolean), .methodLink "RunProverModel" 203 yMo_byteAt, .instanceMethod yMo_byteAt, .code yMo_byteAt cMo_byteAt 2 (some .int), .methodLink "RunProverModel" 207 yMo_sign, .static yMo_sign, .code yMo_sign cMo_sign 2 (some .int), .methodLink "RunProverModel" 222 ⟨"java/lang/String", "length", "()I"⟩, .methodLink "RunProverModel" 227 ⟨"java/lang/String", "charAt", "(I)C"⟩, .methodLink "RunProverModel" 215 yMo_cant, .instanceMethod yMo_cant, .code yMo_cant cMo_cant 1 (some (.object "RunProverModel$Wrong")), .methodLink "RunProverModel" 219 yMo_take, .instanceMethod yMo_take, .code yMo_take cMo_take 1 none, .methodLink "RunProverModel" 308 yMo_number, .instanceMethod yMo_number, .code yMo_number cMo_number 4 (some .int)]
def wa33 : List Cond := [.methodLink "RunProverModel" 256 yMo_number2, .instanceMethod yMo_number2, .code yMo_number2 cMo_number2 3 (some .int), .methodLink "RunProverModel" 287 yMo_must, .instanceMethod yMo_must, .code yMo_must cMo_must 2 none, .methodLink "RunProverModel" 316 yMo_variable, .instanceMethod yMo_variable, .code yMo_variable cMo_variable 2 none, .methodLink "RunProverModel" 325 yMo_declare, .instanceMethod yMo_declare, .code yMo_declare cMo_declare 4 none, .methodLink "RunProverModel" 259 yMo_reserved, .instanceMethod yMo_reserved, .code yMo_reserved cMo_reserved 1 (some .boolean), .methodLink "RunProverModel" 263 yMo_named, .instanceMethod yMo_named, .code yMo_named cMo_named 4 (some .int), .methodLink "RunProverModel" 319 yMo_function, .instanceMethod yMo_function, .code yMo_function cMo_function 4 none, .methodLink "RunProverModel" 284 yMo_expression, .instanceMethod yMo_expression, .code yMo_expression cMo_expression 5 (some .int), .methodLink "RunProverModel" 278 yMo_chain, .instanceMethod yMo_chain, .code yMo_chain cMo_chain 9 (some .int), .methodLink "RunProverModel" 298 yMo_unary, .instanceMethod yMo_unary, .code yMo_unary cMo_unary 4 (some .int), .methodLink "RunProverModel" 281 yMo_nest, .instanceMethod yMo_nest, .code yMo_nest cMo_nest 2 (some .int), .methodLink "RunProverModel" 291 yMo_node, .instanceMethod yMo_node, .code yMo_node cMo_node 5 (some .int), .methodLink "RunProverModel" 266 ⟨"java/lang/Math", "max", "(II)I"⟩, .methodLink "RunProverModel" 271 yMo_capped, .static yMo_capped, .code yMo_capped cMo_capped 1 (some .int)]
def wa34 : List Cond := [.constant "RunProverModel" 274 40000, .methodLink "RunProverModel" 275 Lib.Math.min.name, .methodLink "RunProverModel" 295 yMo_costs, .instanceMethod yMo_costs, .code yMo_costs cMo_costs 3 (some .int), .methodLink "RunProverModel" 310 yMo_operand, .instanceMethod yMo_operand, .code yMo_operand cMo_operand 6 (some .int), .methodLink "RunProverModel" 313 yMo_called, .instanceMethod yMo_called, .code yMo_called cMo_called 8 (some .int), .methodLink "RunProverModel" 301 yMo_joins, .static yMo_joins, .code yMo_joins cMo_joins 2 (some .boolean), .methodLink "RunProverModel" 305 yMo_priceOf, .instanceMethod yMo_priceOf, .code yMo_priceOf cMo_priceOf 3 (some .int), .methodLink "RunProverModel" 322 yMo_statements, .instanceMethod yMo_statements, .code yMo_statements cMo_statements 9 (some .int), .methodLink "RunProverModel" 329 yMo_one, .instanceMethod yMo_one, .code yMo_one cMo_one 9 (some .int), .methodLink "RunProverModel" 332 yMo_any, .instanceMethod yMo_any, .code yMo_any cMo_any 4 (some .int), .methodLink "RunProverModel" 346 yMo_statement, .instanceMethod yMo_statement, .code yMo_statement cMo_statement 6 (some .int), .methodLink "RunProverModel" 334 yMo_claim, .instanceMethod yMo_claim, .code yMo_claim cMo_claim 6 (some .int), .methodLink "RunProverModel" 343 yMo_checked, .instanceMethod yMo_checked, .code yMo_checked cMo_checked 3 (some .int), .methodLink "RunProverModel" 337 yMo_branch, .instanceMethod yMo_branch, .code yMo_branch cMo_branch 6 (some .int), .methodLink "RunProverModel" 350 yMo_block, .instanceMethod yMo_block]
def wa35 : List Cond := [.code yMo_block cMo_block 3 (some .int), .methodLink "RunProverModel" 340 yMo_loop, .instanceMethod yMo_loop, .code yMo_loop cMo_loop 8 (some .int), .methodLink "RunProverModel" 353 yMo_list, .instanceMethod yMo_list, .code yMo_list cMo_list 4 none, .methodLink "RunProverModel" 365 yAr_fill, .methodLink "RunProverLaw" 71 yMo_fault, .instanceMethod yMo_fault, .selects "RunProverModel" yMo_fault yMo_fault, .code yMo_fault cMo_fault 2 (some .int), .methodLink "RunProverLaw" 75 yMo_prove, .instanceMethod yMo_prove, .selects "RunProverModel" yMo_prove yMo_prove, .code yMo_prove cMo_prove 1 (some .int), .methodLink "RunProverModel" 405 yMo_look, .instanceMethod yMo_look, .code yMo_look cMo_look 6 (some .boolean), .methodLink "RunProverModel" 392 ⟨"java/lang/System", "arraycopy", "(Ljava/lang/Object;ILjava/lang/Object;II)V"⟩, .methodLink "RunProverModel" 398 yMo_runs, .instanceMethod yMo_runs, .code yMo_runs cMo_runs 1 none, .methodLink "RunProverModel" 389 yAr_fill4, .static yAr_fill4, .code yAr_fill4 cAr_fill4 4 none, .methodLink "RunProverModel" 383 yMo_go, .instanceMethod yMo_go, .code yMo_go cMo_go 8 none, .methodLink "RunProverModel" 371 yMo_value, .instanceMethod yMo_value, .code yMo_value cMo_value 7 (some .int), .methodLink "RunProverModel" 374 yMo_call, .instanceMethod yMo_call, .code yMo_call cMo_call 7 (some .int), .methodLink "RunProverModel" 377 yMo_joined, .instanceMethod yMo_joined, .code yMo_joined cMo_joined 5 (some .int), .methodLink "RunProverModel" 380 yMo_breaks2, .instanceMethod yMo_breaks2]
def wa36 : List Cond := [.code yMo_breaks2 cMo_breaks2 2 none, .methodLink "RunProverModel" 386 yMo_rounds, .instanceMethod yMo_rounds, .code yMo_rounds cMo_rounds 5 none, .methodLink "RunProverModel" 401 yMo_found, .instanceMethod yMo_found, .code yMo_found cMo_found 4 (some .boolean), .methodLink "RunProverLaw" 78 yMo_breaks, .instanceMethod yMo_breaks, .selects "RunProverModel" yMo_breaks yMo_breaks, .code yMo_breaks cMo_breaks 2 (some .int), .methodLink "RunProverModel" 408 yMo_noCheck, .instanceMethod yMo_noCheck, .code yMo_noCheck cMo_noCheck 2 (some .boolean), .methodLink "RunProverLaw" 81 yMo_reaches, .instanceMethod yMo_reaches, .selects "RunProverModel" yMo_reaches yMo_reaches, .code yMo_reaches cMo_reaches 2 (some .int), .methodLink "RunProverLaw" 85 yMo_ends, .instanceMethod yMo_ends, .selects "RunProverModel" yMo_ends yMo_ends, .code yMo_ends cMo_ends 4 (some .int), .methodLink "RunProverModel" 411 yMo_noElement, .instanceMethod yMo_noElement, .code yMo_noElement cMo_noElement 3 (some .boolean), .methodLink "RunProverLaw" 89 yMo_check, .instanceMethod yMo_check, .selects "RunProverModel" yMo_check yMo_check, .code yMo_check cMo_check 3 (some .int), .methodLink "RunProverLaw" 92 yMo_input, .instanceMethod yMo_input, .selects "RunProverModel" yMo_input yMo_input, .code yMo_input cMo_input 2 (some .int), .methodLink "RunProverLaw" 95 yMo_put, .instanceMethod yMo_put, .selects "RunProverModel" yMo_put yMo_put, .code yMo_put cMo_put 4 (some .int), .methodLink "RunProverLaw" 99 yMo_run, .instanceMethod yMo_run, .selects "RunProverModel" yMo_run yMo_run]
def wa37 : List Cond := [.code yMo_run cMo_run 1 (some .int), .methodLink "RunProverLaw" 102 yMo_value2, .instanceMethod yMo_value2, .selects "RunProverModel" yMo_value2 yMo_value2, .code yMo_value2 cMo_value2 3 (some .int), .methodLink "RunProverLaw" 106 yMo_doubts, .instanceMethod yMo_doubts, .selects "RunProverModel" yMo_doubts yMo_doubts, .code yMo_doubts cMo_doubts 1 (some .int), .methodLink "RunProverLaw" 110 yMo_count, .instanceMethod yMo_count, .selects "RunProverModel" yMo_count yMo_count, .code yMo_count cMo_count 2 (some .int), .arrayClass .long, .selects "RunProver$Tokens" yTk_behindBlanks yTk_behindBlanks, .selects "RunProver$Tokens" yTk_cut yTk_cut, .selects "RunProver$Tokens" yTk_wordEnd yTk_wordEnd, .selects "RunProver$Tokens" yTk_wordKind yTk_wordKind, .selects "RunProver$Tokens" yTk_numberEnd yTk_numberEnd, .selects "RunProver$Tokens" yTk_numberIn yTk_numberIn, .selects "RunProver$Tokens" yTk_misfit yTk_misfit, .selects "RunProver$Parser" yPa_declarations yPa_declarations, .selects "RunProver$Parser" yPa_variable yPa_variable, .selects "RunProver$Parser" yPa_function yPa_function, .selects "RunProver$Parser" yPa_parameters yPa_parameters, .selects "RunProver$Expressions" yEx_expression yEx_expression, .selects "RunProver$Expressions" yEx_operand yEx_operand, .selects "RunProver$Expressions" yEx_turned yEx_turned, .selects "RunProver$Expressions" yEx_signCost yEx_signCost, .selects "RunProver$Expressions" yEx_bracketed yEx_bracketed, .selects "RunProver$Expressions" yEx_signedBelow yEx_signedBelow, .selects "RunProver$Expressions" yEx_named yEx_named, .selects "RunProver$Expressions" yEx_mayStand yEx_mayStand, .selects "RunProver$Expressions" yEx_call yEx_call, .selects "RunProver$Expressions" yEx_settle yEx_settle, .selects "RunProver$Expressions" yEx_hold yEx_hold, .selects "RunProver$Expressions" yEx_choice yEx_choice, .selects "RunProver$Parser" yPa_statements yPa_statements, .selects "RunProver$Parser" yPa_goesOn yPa_goesOn, .selects "RunProver$Parser" yPa_statement yPa_statement]
def wa38 : List Cond := [.selects "RunProver$Parser" yPa_setting yPa_setting, .selects "RunProver$Parser" yPa_addCheck yPa_addCheck, .selects "RunProver$Parser" yPa_drawing yPa_drawing, .selects "RunProver$Parser" yPa_claim yPa_claim, .selects "RunProver$Parser" yPa_condition yPa_condition, .selects "RunProver$Parser" yPa_branch yPa_branch, .selects "RunProver$Parser" yPa_block yPa_block, .selects "RunProver$Parser" yPa_alternative yPa_alternative, .selects "RunProver$Parser" yPa_loop yPa_loop, .selects "RunProver$Unroller" yUn_walk yUn_walk, .selects "RunProver$Unroller" yUn_loop yUn_loop, .selects "RunProver$Unroller" yUn_evaluate yUn_evaluate, .selects "RunProver$Unroller" yUn_push yUn_push, .selects "RunProver$Words" yWo_newRow yWo_newRow, .selects "RunProver$Gates" yGa_gate yGa_gate, .selects "RunProver$Words" yWo_negate yWo_negate, .selects "RunProver$Words" yWo_invert yWo_invert, .selects "RunProver$Words" yWo_truthOf yWo_truthOf, .selects "RunProver$Words" yWo_setTruth yWo_setTruth, .selects "RunProver$Words" yWo_choose yWo_choose, .selects "RunProver$Words" yWo_add yWo_add, .selects "RunProver$Words" yWo_multiply yWo_multiply, .selects "RunProver$Words" yWo_divide yWo_divide, .selects "RunProver$Words" yWo_shift yWo_shift, .selects "RunProver$Words" yWo_bitwise yWo_bitwise, .selects "RunProver$Words" yWo_join yWo_join, .selects "RunProver$Words" yWo_compareEqual yWo_compareEqual, .selects "RunProver$Words" yWo_compareOrder yWo_compareOrder, .selects "RunProver$Unroller" yUn_demand yUn_demand, .selects "RunProver$Unroller" yUn_act yUn_act, .selects "RunProver$Unroller" yUn_set yUn_set, .selects "RunProver$Unroller" yUn_setElement yUn_setElement, .selects "RunProver$Unroller" yUn_draw yUn_draw, .selects "RunProver$Unroller" yUn_branch yUn_branch, .selects "RunProver" yRp_addGoal yRp_addGoal, .selects "RunProver" yRp_possible yRp_possible, .selects "RunProver$Clauses" yCl_addOne yCl_addOne, .selects "RunProver$Clauses" yCl_fits yCl_fits, .selects "RunProver$Clauses" yCl_close yCl_close, .selects "RunProver$Clauses" yCl_addGate yCl_addGate]
def wa39 : List Cond := [.selects "RunProver$Clauses" yCl_addAnd yCl_addAnd, .selects "RunProver$Clauses" yCl_addTwo yCl_addTwo, .selects "RunProver$Clauses" yCl_addThree yCl_addThree, .selects "RunProver$Clauses" yCl_addXor yCl_addXor, .selects "RunProver$Clauses" yCl_addMux yCl_addMux, .selects "RunProver$Search" ySe_begin ySe_begin, .selects "RunProver$Search" ySe_attachAll ySe_attachAll, .selects "RunProver$Search" ySe_attach ySe_attach, .selects "RunProver$Search" ySe_watch ySe_watch, .selects "RunProver$Search" ySe_assign ySe_assign, .selects "RunProver$Checker" yCk_set yCk_set, .selects "RunProver$Search" ySe_propagate ySe_propagate, .selects "RunProver$Search" ySe_spareLiteral ySe_spareLiteral, .selects "RunProver$Search" ySe_decide ySe_decide, .selects "RunProver$Checker" yCk_assumeAgainst yCk_assumeAgainst, .selects "RunProver$Checker" yCk_assume yCk_assume, .selects "RunProver$Checker" yCk_follow yCk_follow, .selects "RunProver$Checker" yCk_withdraw yCk_withdraw, .selects "RunProver$Search" ySe_learn ySe_learn, .selects "RunProver$Search" ySe_analyse ySe_analyse, .selects "RunProver$Search" ySe_resolve ySe_resolve, .selects "RunProver$Search" ySe_stays ySe_stays, .selects "RunProver$Search" ySe_goBack ySe_goBack, .selects "RunProver" yRp_takeInputs yRp_takeInputs, .selects "RunProver" yRp_brokenCheck yRp_brokenCheck, .selects "RunProver" yRp_simulate yRp_simulate, .selects "RunProver$Gates" yGa_bit yGa_bit, .selects "RunProver" yRp_store yRp_store, .selects "RunProverModel" yMo_refuse yMo_refuse, .selects "RunProverModel" yMo_text yMo_text, .selects "RunProverModel" yMo_is yMo_is, .selects "RunProverModel" yMo_peek yMo_peek, .selects "RunProverModel" yMo_parts yMo_parts, .selects "RunProverModel" yMo_byteAt yMo_byteAt, .selects "RunProverModel" yMo_cant yMo_cant, .selects "RunProverModel" yMo_take yMo_take, .selects "RunProverModel" yMo_number yMo_number, .selects "RunProverModel" yMo_number2 yMo_number2, .selects "RunProverModel" yMo_must yMo_must, .selects "RunProverModel" yMo_variable yMo_variable]
def wa40 : List Cond := [.selects "RunProverModel" yMo_declare yMo_declare, .selects "RunProverModel" yMo_reserved yMo_reserved, .selects "RunProverModel" yMo_named yMo_named, .selects "RunProverModel" yMo_function yMo_function, .selects "RunProverModel" yMo_expression yMo_expression, .selects "RunProverModel" yMo_chain yMo_chain, .selects "RunProverModel" yMo_unary yMo_unary, .selects "RunProverModel" yMo_nest yMo_nest, .selects "RunProverModel" yMo_node yMo_node, .selects "RunProverModel" yMo_costs yMo_costs, .selects "RunProverModel" yMo_operand yMo_operand, .selects "RunProverModel" yMo_called yMo_called, .selects "RunProverModel" yMo_priceOf yMo_priceOf, .selects "RunProverModel" yMo_statements yMo_statements, .selects "RunProverModel" yMo_one yMo_one, .selects "RunProverModel" yMo_any yMo_any, .selects "RunProverModel" yMo_statement yMo_statement, .selects "RunProverModel" yMo_claim yMo_claim, .selects "RunProverModel" yMo_checked yMo_checked, .selects "RunProverModel" yMo_branch yMo_branch, .selects "RunProverModel" yMo_block yMo_block, .selects "RunProverModel" yMo_loop yMo_loop, .selects "RunProverModel" yMo_list yMo_list, .selects "RunProverModel" yMo_look yMo_look, .selects "RunProverModel" yMo_runs yMo_runs, .selects "RunProverModel" yMo_go yMo_go, .selects "RunProverModel" yMo_value yMo_value, .selects "RunProverModel" yMo_call yMo_call, .selects "RunProverModel" yMo_joined yMo_joined, .selects "RunProverModel" yMo_breaks2 yMo_breaks2, .selects "RunProverModel" yMo_rounds yMo_rounds, .selects "RunProverModel" yMo_found yMo_found, .selects "RunProverModel" yMo_noCheck yMo_noCheck, .selects "RunProverModel" yMo_noElement yMo_noElement, .initialized "java/lang/Throwable", .initialized "java/lang/Exception", .initialized "java/lang/RuntimeException", .initialized "java/lang/IllegalStateException", .initialized "java/lang/IllegalArgumentException", .initialized "java/util/NoSuchElementException"]
def wa41 : List Cond := [.fieldLink "java/lang/Throwable" 198 "java/lang/Throwable" "backtrace" "Ljava/lang/Object;", .instanceMethod yTh_init, .code yTh_init cTh_init 1 none, .methodLink "java/lang/Throwable" 1 objectInit, .fieldLink "java/lang/Throwable" 13 "java/lang/Throwable" "UNASSIGNED_STACK" "[Ljava/lang/StackTraceElement;", .fieldLink "java/lang/Throwable" 20 "java/lang/Throwable" "SUPPRESSED_SENTINEL" "Ljava/util/List;", .instanceMethod yRt_init, .code yRt_init cRt_init 2 none, .methodLink "java/lang/RuntimeException" 7 yXc_init, .instanceMethod yXc_init, .code yXc_init cXc_init 2 none, .methodLink "java/lang/Exception" 7 yTh_init2, .instanceMethod yTh_init2, .code yTh_init2 cTh_init2 2 none, .fieldLink "java/lang/Throwable" 31 "java/lang/Throwable" "detailMessage" "Ljava/lang/String;", .fieldLink "java/lang/Throwable" 7 "java/lang/Throwable" "cause" "Ljava/lang/Throwable;", .fieldLink "java/lang/Throwable" 17 "java/lang/Throwable" "stackTrace" "[Ljava/lang/StackTraceElement;", .fieldLink "java/lang/Throwable" 24 "java/lang/Throwable" "suppressedExceptions" "Ljava/util/List;", .instanceMethod yRt_init2, .code yRt_init2 cRt_init2 5 none, .methodLink "java/lang/RuntimeException" 16 yXc_init2, .instanceMethod yXc_init2, .code yXc_init2 cXc_init2 5 none, .methodLink "java/lang/Exception" 16 yTh_init3, .instanceMethod yTh_init3, .code yTh_init3 cTh_init3 5 none]
def wa : List Cond := wa0 ++ (wa1 ++ (wa2 ++ (wa3 ++ (wa4 ++ (wa5 ++ (wa6 ++ (wa7 ++ (wa8 ++ (wa9 ++ (wa10 ++ (wa11 ++ (wa12 ++ (wa13 ++ (wa14 ++ (wa15 ++ (wa16 ++ (wa17 ++ (wa18 ++ (wa19 ++ (wa20 ++ (wa21 ++ (wa22 ++ (wa23 ++ (wa24 ++ (wa25 ++ (wa26 ++ (wa27 ++ (wa28 ++ (wa29 ++ (wa30 ++ (wa31 ++ (wa32 ++ (wa33 ++ (wa34 ++ (wa35 ++ (wa36 ++ (wa37 ++ (wa38 ++ (wa39 ++ (wa40 ++ (wa41)))))))))))))))))))))))))))))))))))))))))
theorem wbm0 {w : Cond} (i : Nat) (h : wa0[i]? = some w) : w ∈ wa := by unfold wa; exact List.mem_append_left _ (List.mem_of_getElem? h)
theorem wam0 {c0 w : Cond} (i : Nat) (h : wa0[i]? = some w) : w ∈ c0 :: wa := List.mem_cons_of_mem _ (wbm0 i h)
theorem wag0 : wa0.all goodWord = true := by decide +kernel
theorem wbm1 {w : Cond} (i : Nat) (h : wa1[i]? = some w) : w ∈ wa := by unfold wa; exact List.mem_append_right _ (List.mem_append_left _ (List.mem_of_getElem? h))
theorem wam1 {c0 w : Cond} (i : Nat) (h : wa1[i]? = some w) : w ∈ c0 :: wa := List.mem_cons_of_mem _ (wbm1 i h)
theorem wag1 : wa1.all goodWord = true := by decide +kernel
theorem wbm2 {w : Cond} (i : Nat) (h : wa2[i]? = some w) : w ∈ wa := by unfold wa; exact List.mem_append_right _ (List.mem_append_right _ (List.mem_append_left _ (List.mem_of_getElem? h)))
theorem wam2 {c0 w : Cond} (i : Nat) (h : wa2[i]? = some w) : w ∈ c0 :: wa := List.mem_cons_of_mem _ (wbm2 i h)
theorem wag2 : wa2.all goodWord = true := by decide +kernel
theorem wbm3 {w : Cond} (i : Nat) (h : wa3[i]? = some w) : w ∈ wa := by unfold wa; exact List.mem_append_right _ (List.mem_append_right _ (List.mem_append_right _ (List.mem_append_left _ (List.mem_of_getElem? h))))
theorem wam3 {c0 w : Cond} (i : Nat) (h : wa3[i]? = some w) : w ∈ c0 :: wa := List.mem_cons_of_mem _ (wbm3 i h)
theorem wag3 : wa3.all goodWord = true := by decide +kernel
theorem wbm4 {w : Cond} (i : Nat) (h : wa4[i]? = some w) : w ∈ wa := by unfold wa; exact List.mem_append_right _ (List.mem_append_right _ (List.mem_append_right _ (List.mem_append_right _ (List.mem_append_left _ (List.mem_of_getElem? h)))))
theorem wam4 {c0 w : Cond} (i : Nat) (h : wa4[i]? = some w) : w ∈ c0 :: wa := List.mem_cons_of_mem _ (wbm4 i h)
theorem wag4 : wa4.all goodWord = true := by decide +kernel
theorem wbm5 {w : Cond} (i : Nat) (h : wa5[i]? = some w) : w ∈ wa := by unfold wa; exact List.mem_append_right _ (List.mem_append_right _ (List.mem_append_right _ (List.mem_append_right _ (List.mem_append_right _ (List.mem_append_left _ (List.mem_of_getElem? h))))))
theorem wam5 {c0 w : Cond} (i : Nat) (h : wa5[i]? = some w) : w ∈ c0 :: wa := List.mem_cons_of_mem _ (wbm5 i h)
theorem wag5 : wa5.all goodWord = true := by decide +kernel
theorem wbm6 {w : Cond} (i : Nat) (h : wa6[i]? = some w) : w ∈ wa := by unfold wa; exact List.mem_append_right _ (List.mem_append_right _ (List.mem_append_right _ (List.mem_append_right _ (List.mem_append_right _ (List.mem_append_right _ (List.mem_append_left _ (List.mem_of_getElem? h)))))))
theorem wam6 {c0 w : Cond} (i : Nat) (h : wa6[i]? = some w) : w ∈ c0 :: wa := List.mem_cons_of_mem _ (wbm6 i h)
theorem wag6 : wa6.all goodWord = true := by decide +kernel
theorem wbm7 {w : Cond} (i : Nat) (h : wa7[i]? = some w) : w ∈ wa := by unfold wa; exact List.mem_append_right _ (List.mem_append_right _ (List.mem_append_right _ (List.mem_append_right _ (List.mem_append_right _ (List.mem_append_right _ (List.mem_append_right _ (List.mem_append_left _ (List.mem_of_getElem? h))))))))
theorem wam7 {c0 w : Cond} (i : Nat) (h : wa7[i]? = some w) : w ∈ c0 :: wa := List.mem_cons_of_mem _ (wbm7 i h)
theorem wag7 : wa7.all goodWord = true := by decide +kernel
theorem wbm8 {w : Cond} (i : Nat) (h : wa8[i]? = some w) : w ∈ wa := by unfold wa; exact List.mem_append_right _ (List.mem_append_right _ (List.mem_append_right _ (List.mem_append_right _ (List.mem_append_right _ (List.mem_append_right _ (List.mem_append_right _ (List.mem_append_right _ (List.mem_append_left _ (List.mem_of_getElem? h)))))))))
theorem wam8 {c0 w : Cond} (i : Nat) (h : wa8[i]? = some w) : w ∈ c0 :: wa := List.mem_cons_of_mem _ (wbm8 i h)
theorem wag8 : wa8.all goodWord = true := by decide +kernel
theorem wbm9 {w : Cond} (i : Nat) (h : wa9[i]? = some w) : w ∈ wa := by unfold wa; exact List.mem_append_right _ (List.mem_append_right _ (List.mem_append_right _ (List.mem_append_right _ (List.mem_append_right _ (List.mem_append_right _ (List.mem_append_right _ (List.mem_append_right _ (List.mem_append_right _ (List.mem_append_left _ (List.mem_of_getElem? h))))))))))
theorem wam9 {c0 w : Cond} (i : Nat) (h : wa9[i]? = some w) : w ∈ c0 :: wa := List.mem_cons_of_mem _ (wbm9 i h)
theorem wag9 : wa9.all goodWord = true := by decide +kernel
theorem wbm10 {w : Cond} (i : Nat) (h : wa10[i]? = some w) : w ∈ wa := by unfold wa; exact List.mem_append_right _ (List.mem_append_right _ (List.mem_append_right _ (List.mem_append_right _ (List.mem_append_right _ (List.mem_append_right _ (List.mem_append_right _ (List.mem_append_right _ (List.mem_append_right _ (List.mem_append_right _ (List.mem_append_left _ (List.mem_of_getElem? h)))))))))))
theorem wam10 {c0 w : Cond} (i : Nat) (h : wa10[i]? = some w) : w ∈ c0 :: wa := List.mem_cons_of_mem _ (wbm10 i h)
theorem wag10 : wa10.all goodWord = true := by decide +kernel
theorem wbm11 {w : Cond} (i : Nat) (h : wa11[i]? = some w) : w ∈ wa := by unfold wa; exact List.mem_append_right _ (List.mem_append_right _ (List.mem_append_right _ (List.mem_append_right _ (List.mem_append_right _ (List.mem_append_right _ (List.mem_append_right _ (List.mem_append_right _ (List.mem_append_right _ (List.mem_append_right _ (List.mem_append_right _ (List.mem_append_left _ (List.mem_of_getElem? h))))))))))))
theorem wam11 {c0 w : Cond} (i : Nat) (h : wa11[i]? = some w) : w ∈ c0 :: wa := List.mem_cons_of_mem _ (wbm11 i h)
theorem wag11 : wa11.all goodWord = true := by decide +kernel
theorem wbm12 {w : Cond} (i : Nat) (h : wa12[i]? = some w) : w ∈ wa := by unfold wa; exact List.mem_append_right _ (List.mem_append_right _ (List.mem_append_right _ (List.mem_append_right _ (List.mem_append_right _ (List.mem_append_right _ (List.mem_append_right _ (List.mem_append_right _ (List.mem_append_right _ (List.mem_append_right _ (List.mem_append_right _ (List.mem_append_right _ (List.mem_append_left _ (List.mem_of_getElem? h)))))))))))))
theorem wam12 {c0 w : Cond} (i : Nat) (h : wa12[i]? = some w) : w ∈ c0 :: wa := List.mem_cons_of_mem _ (wbm12 i h)
theorem wag12 : wa12.all goodWord = true := by decide +kernel
theorem wbm13 {w : Cond} (i : Nat) (h : wa13[i]? = some w) : w ∈ wa := by unfold wa; exact List.mem_append_right _ (List.mem_append_right _ (List.mem_append_right _ (List.mem_append_right _ (List.mem_append_right _ (List.mem_append_right _ (List.mem_append_right _ (List.mem_append_right _ (List.mem_append_right _ (List.mem_append_right _ (List.mem_append_right _ (List.mem_append_right _ (List.mem_append_right _ (List.mem_append_left _ (List.mem_of_getElem? h))))))))))))))
theorem wam13 {c0 w : Cond} (i : Nat) (h : wa13[i]? = some w) : w ∈ c0 :: wa := List.mem_cons_of_mem _ (wbm13 i h)
theorem wag13 : wa13.all goodWord = true := by decide +kernel
theorem wbm14 {w : Cond} (i : Nat) (h : wa14[i]? = some w) : w ∈ wa := by unfold wa; exact List.mem_append_right _ (List.mem_append_right _ (List.mem_append_right _ (List.mem_append_right _ (List.mem_append_right _ (List.mem_append_right _ (List.mem_append_right _ (List.mem_append_right _ (List.mem_append_right _ (List.mem_append_right _ (List.mem_append_right _ (List.mem_append_right _ (List.mem_append_right _ (List.mem_append_right _ (List.mem_append_left _ (List.mem_of_getElem? h)))))))))))))))
theorem wam14 {c0 w : Cond} (i : Nat) (h : wa14[i]? = some w) : w ∈ c0 :: wa := List.mem_cons_of_mem _ (wbm14 i h)
theorem wag14 : wa14.all goodWord = true := by decide +kernel
theorem wbm15 {w : Cond} (i : Nat) (h : wa15[i]? = some w) : w ∈ wa := by unfold wa; exact List.mem_append_right _ (List.mem_append_right _ (List.mem_append_right _ (List.mem_append_right _ (List.mem_append_right _ (List.mem_append_right _ (List.mem_append_right _ (List.mem_append_right _ (List.mem_append_right _ (List.mem_append_right _ (List.mem_append_right _ (List.mem_append_right _ (List.mem_append_right _ (List.mem_append_right _ (List.mem_append_right _ (List.mem_append_left _ (List.mem_of_getElem? h))))))))))))))))
theorem wam15 {c0 w : Cond} (i : Nat) (h : wa15[i]? = some w) : w ∈ c0 :: wa := List.mem_cons_of_mem _ (wbm15 i h)
theorem wag15 : wa15.all goodWord = true := by decide +kernel
theorem wbm16 {w : Cond} (i : Nat) (h : wa16[i]? = some w) : w ∈ wa := by unfold wa; exact List.mem_append_right _ (List.mem_append_right _ (List.mem_append_right _ (List.mem_append_right _ (List.mem_append_right _ (List.mem_append_right _ (List.mem_append_right _ (List.mem_append_right _ (List.mem_append_right _ (List.mem_append_right _ (List.mem_append_right _ (List.mem_append_right _ (List.mem_append_right _ (List.mem_append_right _ (List.mem_append_right _ (List.mem_append_right _ (List.mem_append_left _ (List.mem_of_getElem? h)))))))))))))))))
theorem wam16 {c0 w : Cond} (i : Nat) (h : wa16[i]? = some w) : w ∈ c0 :: wa := List.mem_cons_of_mem _ (wbm16 i h)
theorem wag16 : wa16.all goodWord = true := by decide +kernel
theorem wbm17 {w : Cond} (i : Nat) (h : wa17[i]? = some w) : w ∈ wa := by unfold wa; exact List.mem_append_right _ (List.mem_append_right _ (List.mem_append_right _ (List.mem_append_right _ (List.mem_append_right _ (List.mem_append_right _ (List.mem_append_right _ (List.mem_append_right _ (List.mem_append_right _ (List.mem_append_right _ (List.mem_append_right _ (List.mem_append_right _ (List.mem_append_right _ (List.mem_append_right _ (List.mem_append_right _ (List.mem_append_right _ (List.mem_append_right _ (List.mem_append_left _ (List.mem_of_getElem? h))))))))))))))))))
theorem wam17 {c0 w : Cond} (i : Nat) (h : wa17[i]? = some w) : w ∈ c0 :: wa := List.mem_cons_of_mem _ (wbm17 i h)
theorem wag17 : wa17.all goodWord = true := by decide +kernel
theorem wbm18 {w : Cond} (i : Nat) (h : wa18[i]? = some w) : w ∈ wa := by unfold wa; exact List.mem_append_right _ (List.mem_append_right _ (List.mem_append_right _ (List.mem_append_right _ (List.mem_append_right _ (List.mem_append_right _ (List.mem_append_right _ (List.mem_append_right _ (List.mem_append_right _ (List.mem_append_right _ (List.mem_append_right _ (List.mem_append_right _ (List.mem_append_right _ (List.mem_append_right _ (List.mem_append_right _ (List.mem_append_right _ (List.mem_append_right _ (List.mem_append_right _ (List.mem_append_left _ (List.mem_of_getElem? h)))))))))))))))))))
theorem wam18 {c0 w : Cond} (i : Nat) (h : wa18[i]? = some w) : w ∈ c0 :: wa := List.mem_cons_of_mem _ (wbm18 i h)
theorem wag18 : wa18.all goodWord = true := by decide +kernel
theorem wbm19 {w : Cond} (i : Nat) (h : wa19[i]? = some w) : w ∈ wa := by unfold wa; exact List.mem_append_right _ (List.mem_append_right _ (List.mem_append_right _ (List.mem_append_right _ (List.mem_append_right _ (List.mem_append_right _ (List.mem_append_right _ (List.mem_append_right _ (List.mem_append_right _ (List.mem_append_right _ (List.mem_append_right _ (List.mem_append_right _ (List.mem_append_right _ (List.mem_append_right _ (List.mem_append_right _ (List.mem_append_right _ (List.mem_append_right _ (List.mem_append_right _ (List.mem_append_right _ (List.mem_append_left _ (List.mem_of_getElem? h))))))))))))))))))))
theorem wam19 {c0 w : Cond} (i : Nat) (h : wa19[i]? = some w) : w ∈ c0 :: wa := List.mem_cons_of_mem _ (wbm19 i h)
theorem wag19 : wa19.all goodWord = true := by decide +kernel
theorem wbm20 {w : Cond} (i : Nat) (h : wa20[i]? = some w) : w ∈ wa := by unfold wa; exact List.mem_append_right _ (List.mem_append_right _ (List.mem_append_right _ (List.mem_append_right _ (List.mem_append_right _ (List.mem_append_right _ (List.mem_append_right _ (List.mem_append_right _ (List.mem_append_right _ (List.mem_append_right _ (List.mem_append_right _ (List.mem_append_right _ (List.mem_append_right _ (List.mem_append_right _ (List.mem_append_right _ (List.mem_append_right _ (List.mem_append_right _ (List.mem_append_right _ (List.mem_append_right _ (List.mem_append_right _ (List.mem_append_left _ (List.mem_of_getElem? h)))))))))))))))))))))
theorem wam20 {c0 w : Cond} (i : Nat) (h : wa20[i]? = some w) : w ∈ c0 :: wa := List.mem_cons_of_mem _ (wbm20 i h)
theorem wag20 : wa20.all goodWord = true := by decide +kernel
theorem wbm21 {w : Cond} (i : Nat) (h : wa21[i]? = some w) : w ∈ wa := by unfold wa; exact List.mem_append_right _ (List.mem_append_right _ (List.mem_append_right _ (List.mem_append_right _ (List.mem_append_right _ (List.mem_append_right _ (List.mem_append_right _ (List.mem_append_right _ (List.mem_append_right _ (List.mem_append_right _ (List.mem_append_right _ (List.mem_append_right _ (List.mem_append_right _ (List.mem_append_right _ (List.mem_append_right _ (List.mem_append_right _ (List.mem_append_right _ (List.mem_append_right _ (List.mem_append_right _ (List.mem_append_right _ (List.mem_append_right _ (List.mem_append_left _ (List.mem_of_getElem? h))))))))))))))))))))))
theorem wam21 {c0 w : Cond} (i : Nat) (h : wa21[i]? = some w) : w ∈ c0 :: wa := List.mem_cons_of_mem _ (wbm21 i h)
theorem wag21 : wa21.all goodWord = true := by decide +kernel
theorem wbm22 {w : Cond} (i : Nat) (h : wa22[i]? = some w) : w ∈ wa := by unfold wa; exact List.mem_append_right _ (List.mem_append_right _ (List.mem_append_right _ (List.mem_append_right _ (List.mem_append_right _ (List.mem_append_right _ (List.mem_append_right _ (List.mem_append_right _ (List.mem_append_right _ (List.mem_append_right _ (List.mem_append_right _ (List.mem_append_right _ (List.mem_append_right _ (List.mem_append_right _ (List.mem_append_right _ (List.mem_append_right _ (List.mem_append_right _ (List.mem_append_right _ (List.mem_append_right _ (List.mem_append_right _ (List.mem_append_right _ (List.mem_append_right _ (List.mem_append_left _ (List.mem_of_getElem? h)))))))))))))))))))))))
theorem wam22 {c0 w : Cond} (i : Nat) (h : wa22[i]? = some w) : w ∈ c0 :: wa := List.mem_cons_of_mem _ (wbm22 i h)
theorem wag22 : wa22.all goodWord = true := by decide +kernel
theorem wbm23 {w : Cond} (i : Nat) (h : wa23[i]? = some w) : w ∈ wa := by unfold wa; exact List.mem_append_right _ (List.mem_append_right _ (List.mem_append_right _ (List.mem_append_right _ (List.mem_append_right _ (List.mem_append_right _ (List.mem_append_right _ (List.mem_append_right _ (List.mem_append_right _ (List.mem_append_right _ (List.mem_append_right _ (List.mem_append_right _ (List.mem_append_right _ (List.mem_append_right _ (List.mem_append_right _ (List.mem_append_right _ (List.mem_append_right _ (List.mem_append_right _ (List.mem_append_right _ (List.mem_append_right _ (List.mem_append_right _ (List.mem_append_right _ (List.mem_append_right _ (List.mem_append_left _ (List.mem_of_getElem? h))))))))))))))))))))))))
theorem wam23 {c0 w : Cond} (i : Nat) (h : wa23[i]? = some w) : w ∈ c0 :: wa := List.mem_cons_of_mem _ (wbm23 i h)
theorem wag23 : wa23.all goodWord = true := by decide +kernel
theorem wbm24 {w : Cond} (i : Nat) (h : wa24[i]? = some w) : w ∈ wa := by unfold wa; exact List.mem_append_right _ (List.mem_append_right _ (List.mem_append_right _ (List.mem_append_right _ (List.mem_append_right _ (List.mem_append_right _ (List.mem_append_right _ (List.mem_append_right _ (List.mem_append_right _ (List.mem_append_right _ (List.mem_append_right _ (List.mem_append_right _ (List.mem_append_right _ (List.mem_append_right _ (List.mem_append_right _ (List.mem_append_right _ (List.mem_append_right _ (List.mem_append_right _ (List.mem_append_right _ (List.mem_append_right _ (List.mem_append_right _ (List.mem_append_right _ (List.mem_append_right _ (List.mem_append_right _ (List.mem_append_left _ (List.mem_of_getElem? h)))))))))))))))))))))))))
theorem wam24 {c0 w : Cond} (i : Nat) (h : wa24[i]? = some w) : w ∈ c0 :: wa := List.mem_cons_of_mem _ (wbm24 i h)
theorem wag24 : wa24.all goodWord = true := by decide +kernel
theorem wbm25 {w : Cond} (i : Nat) (h : wa25[i]? = some w) : w ∈ wa := by unfold wa; exact List.mem_append_right _ (List.mem_append_right _ (List.mem_append_right _ (List.mem_append_right _ (List.mem_append_right _ (List.mem_append_right _ (List.mem_append_right _ (List.mem_append_right _ (List.mem_append_right _ (List.mem_append_right _ (List.mem_append_right _ (List.mem_append_right _ (List.mem_append_right _ (List.mem_append_right _ (List.mem_append_right _ (List.mem_append_right _ (List.mem_append_right _ (List.mem_append_right _ (List.mem_append_right _ (List.mem_append_right _ (List.mem_append_right _ (List.mem_append_right _ (List.mem_append_right _ (List.mem_append_right _ (List.mem_append_right _ (List.mem_append_left _ (List.mem_of_getElem? h))))))))))))))))))))))))))
theorem wam25 {c0 w : Cond} (i : Nat) (h : wa25[i]? = some w) : w ∈ c0 :: wa := List.mem_cons_of_mem _ (wbm25 i h)
theorem wag25 : wa25.all goodWord = true := by decide +kernel
theorem wbm26 {w : Cond} (i : Nat) (h : wa26[i]? = some w) : w ∈ wa := by unfold wa; exact List.mem_append_right _ (List.mem_append_right _ (List.mem_append_right _ (List.mem_append_right _ (List.mem_append_right _ (List.mem_append_right _ (List.mem_append_right _ (List.mem_append_right _ (List.mem_append_right _ (List.mem_append_right _ (List.mem_append_right _ (List.mem_append_right _ (List.mem_append_right _ (List.mem_append_right _ (List.mem_append_right _ (List.mem_append_right _ (List.mem_append_right _ (List.mem_append_right _ (List.mem_append_right _ (List.mem_append_right _ (List.mem_append_right _ (List.mem_append_right _ (List.mem_append_right _ (List.mem_append_right _ (List.mem_append_right _ (List.mem_append_right _ (List.mem_append_left _ (List.mem_of_getElem? h)))))))))))))))))))))))))))
theorem wam26 {c0 w : Cond} (i : Nat) (h : wa26[i]? = some w) : w ∈ c0 :: wa := List.mem_cons_of_mem _ (wbm26 i h)
theorem wag26 : wa26.all goodWord = true := by decide +kernel
theorem wbm27 {w : Cond} (i : Nat) (h : wa27[i]? = some w) : w ∈ wa := by unfold wa; exact List.mem_append_right _ (List.mem_append_right _ (List.mem_append_right _ (List.mem_append_right _ (List.mem_append_right _ (List.mem_append_right _ (List.mem_append_right _ (List.mem_append_right _ (List.mem_append_right _ (List.mem_append_right _ (List.mem_append_right _ (List.mem_append_right _ (List.mem_append_right _ (List.mem_append_right _ (List.mem_append_right _ (List.mem_append_right _ (List.mem_append_right _ (List.mem_append_right _ (List.mem_append_right _ (List.mem_append_right _ (List.mem_append_right _ (List.mem_append_right _ (List.mem_append_right _ (List.mem_append_right _ (List.mem_append_right _ (List.mem_append_right _ (List.mem_append_right _ (List.mem_append_left _ (List.mem_of_getElem? h))))))))))))))))))))))))))))
theorem wam27 {c0 w : Cond} (i : Nat) (h : wa27[i]? = some w) : w ∈ c0 :: wa := List.mem_cons_of_mem _ (wbm27 i h)
theorem wag27 : wa27.all goodWord = true := by decide +kernel
theorem wbm28 {w : Cond} (i : Nat) (h : wa28[i]? = some w) : w ∈ wa := by unfold wa; exact List.mem_append_right _ (List.mem_append_right _ (List.mem_append_right _ (List.mem_append_right _ (List.mem_append_right _ (List.mem_append_right _ (List.mem_append_right _ (List.mem_append_right _ (List.mem_append_right _ (List.mem_append_right _ (List.mem_append_right _ (List.mem_append_right _ (List.mem_append_right _ (List.mem_append_right _ (List.mem_append_right _ (List.mem_append_right _ (List.mem_append_right _ (List.mem_append_right _ (List.mem_append_right _ (List.mem_append_right _ (List.mem_append_right _ (List.mem_append_right _ (List.mem_append_right _ (List.mem_append_right _ (List.mem_append_right _ (List.mem_append_right _ (List.mem_append_right _ (List.mem_append_right _ (List.mem_append_left _ (List.mem_of_getElem? h)))))))))))))))))))))))))))))
theorem wam28 {c0 w : Cond} (i : Nat) (h : wa28[i]? = some w) : w ∈ c0 :: wa := List.mem_cons_of_mem _ (wbm28 i h)
theorem wag28 : wa28.all goodWord = true := by decide +kernel
theorem wbm29 {w : Cond} (i : Nat) (h : wa29[i]? = some w) : w ∈ wa := by unfold wa; exact List.mem_append_right _ (List.mem_append_right _ (List.mem_append_right _ (List.mem_append_right _ (List.mem_append_right _ (List.mem_append_right _ (List.mem_append_right _ (List.mem_append_right _ (List.mem_append_right _ (List.mem_append_right _ (List.mem_append_right _ (List.mem_append_right _ (List.mem_append_right _ (List.mem_append_right _ (List.mem_append_right _ (List.mem_append_right _ (List.mem_append_right _ (List.mem_append_right _ (List.mem_append_right _ (List.mem_append_right _ (List.mem_append_right _ (List.mem_append_right _ (List.mem_append_right _ (List.mem_append_right _ (List.mem_append_right _ (List.mem_append_right _ (List.mem_append_right _ (List.mem_append_right _ (List.mem_append_right _ (List.mem_append_left _ (List.mem_of_getElem? h))))))))))))))))))))))))))))))
theorem wam29 {c0 w : Cond} (i : Nat) (h : wa29[i]? = some w) : w ∈ c0 :: wa := List.mem_cons_of_mem _ (wbm29 i h)
theorem wag29 : wa29.all goodWord = true := by decide +kernel
theorem wbm30 {w : Cond} (i : Nat) (h : wa30[i]? = some w) : w ∈ wa := by unfold wa; exact List.mem_append_right _ (List.mem_append_right _ (List.mem_append_right _ (List.mem_append_right _ (List.mem_append_right _ (List.mem_append_right _ (List.mem_append_right _ (List.mem_append_right _ (List.mem_append_right _ (List.mem_append_right _ (List.mem_append_right _ (List.mem_append_right _ (List.mem_append_right _ (List.mem_append_right _ (List.mem_append_right _ (List.mem_append_right _ (List.mem_append_right _ (List.mem_append_right _ (List.mem_append_right _ (List.mem_append_right _ (List.mem_append_right _ (List.mem_append_right _ (List.mem_append_right _ (List.mem_append_right _ (List.mem_append_right _ (List.mem_append_right _ (List.mem_append_right _ (List.mem_append_right _ (List.mem_append_right _ (List.mem_append_right _ (List.mem_append_left _ (List.mem_of_getElem? h)))))))))))))))))))))))))))))))
theorem wam30 {c0 w : Cond} (i : Nat) (h : wa30[i]? = some w) : w ∈ c0 :: wa := List.mem_cons_of_mem _ (wbm30 i h)
theorem wag30 : wa30.all goodWord = true := by decide +kernel
theorem wbm31 {w : Cond} (i : Nat) (h : wa31[i]? = some w) : w ∈ wa := by unfold wa; exact List.mem_append_right _ (List.mem_append_right _ (List.mem_append_right _ (List.mem_append_right _ (List.mem_append_right _ (List.mem_append_right _ (List.mem_append_right _ (List.mem_append_right _ (List.mem_append_right _ (List.mem_append_right _ (List.mem_append_right _ (List.mem_append_right _ (List.mem_append_right _ (List.mem_append_right _ (List.mem_append_right _ (List.mem_append_right _ (List.mem_append_right _ (List.mem_append_right _ (List.mem_append_right _ (List.mem_append_right _ (List.mem_append_right _ (List.mem_append_right _ (List.mem_append_right _ (List.mem_append_right _ (List.mem_append_right _ (List.mem_append_right _ (List.mem_append_right _ (List.mem_append_right _ (List.mem_append_right _ (List.mem_append_right _ (List.mem_append_right _ (List.mem_append_left _ (List.mem_of_getElem? h))))))))))))))))))))))))))))))))
theorem wam31 {c0 w : Cond} (i : Nat) (h : wa31[i]? = some w) : w ∈ c0 :: wa := List.mem_cons_of_mem _ (wbm31 i h)
theorem wag31 : wa31.all goodWord = true := by decide +kernel
theorem wbm32 {w : Cond} (i : Nat) (h : wa32[i]? = some w) : w ∈ wa := by unfold wa; exact List.mem_append_right _ (List.mem_append_right _ (List.mem_append_right _ (List.mem_append_right _ (List.mem_append_right _ (List.mem_append_right _ (List.mem_append_right _ (List.mem_append_right _ (List.mem_append_right _ (List.mem_append_right _ (List.mem_append_right _ (List.mem_append_right _ (List.mem_append_right _ (List.mem_append_right _ (List.mem_append_right _ (List.mem_append_right _ (List.mem_append_right _ (List.mem_append_right _ (List.mem_append_right _ (List.mem_append_right _ (List.mem_append_right _ (List.mem_append_right _ (List.mem_append_right _ (List.mem_append_right _ (List.mem_append_right _ (List.mem_append_right _ (List.mem_append_right _ (List.mem_append_right _ (List.mem_append_right _ (List.mem_append_right _ (List.mem_append_right _ (List.mem_append_right _ (List.mem_append_left _ (List.mem_of_getElem? h)))))))))))))))))))))))))))))))))
theorem wam32 {c0 w : Cond} (i : Nat) (h : wa32[i]? = some w) : w ∈ c0 :: wa := List.mem_cons_of_mem _ (wbm32 i h)
theorem wag32 : wa32.all goodWord = true := by decide +kernel
theorem wbm33 {w : Cond} (i : Nat) (h : wa33[i]? = some w) : w ∈ wa := by unfold wa; exact List.mem_append_right _ (List.mem_append_right _ (List.mem_append_right _ (List.mem_append_right _ (List.mem_append_right _ (List.mem_append_right _ (List.mem_append_right _ (List.mem_append_right _ (List.mem_append_right _ (List.mem_append_right _ (List.mem_append_right _ (List.mem_append_right _ (List.mem_append_right _ (List.mem_append_right _ (List.mem_append_right _ (List.mem_append_right _ (List.mem_append_right _ (List.mem_append_right _ (List.mem_append_right _ (List.mem_append_right _ (List.mem_append_right _ (List.mem_append_right _ (List.mem_append_right _ (List.mem_append_right _ (List.mem_append_right _ (List.mem_append_right _ (List.mem_append_right _ (List.mem_append_right _ (List.mem_append_right _ (List.mem_append_right _ (List.mem_append_right _ (List.mem_append_right _ (List.mem_append_right _ (List.mem_append_left _ (List.mem_of_getElem? h))))))))))))))))))))))))))))))))))
theorem wam33 {c0 w : Cond} (i : Nat) (h : wa33[i]? = some w) : w ∈ c0 :: wa := List.mem_cons_of_mem _ (wbm33 i h)
theorem wag33 : wa33.all goodWord = true := by decide +kernel
theorem wbm34 {w : Cond} (i : Nat) (h : wa34[i]? = some w) : w ∈ wa := by unfold wa; exact List.mem_append_right _ (List.mem_append_right _ (List.mem_append_right _ (List.mem_append_right _ (List.mem_append_right _ (List.mem_append_right _ (List.mem_append_right _ (List.mem_append_right _ (List.mem_append_right _ (List.mem_append_right _ (List.mem_append_right _ (List.mem_append_right _ (List.mem_append_right _ (List.mem_append_right _ (List.mem_append_right _ (List.mem_append_right _ (List.mem_append_right _ (List.mem_append_right _ (List.mem_append_right _ (List.mem_append_right _ (List.mem_append_right _ (List.mem_append_right _ (List.mem_append_right _ (List.mem_append_right _ (List.mem_append_right _ (List.mem_append_right _ (List.mem_append_right _ (List.mem_append_right _ (List.mem_append_right _ (List.mem_append_right _ (List.mem_append_right _ (List.mem_append_right _ (List.mem_append_right _ (List.mem_append_right _ (List.mem_append_left _ (List.mem_of_getElem? h)))))))))))))))))))))))))))))))))))
theorem wam34 {c0 w : Cond} (i : Nat) (h : wa34[i]? = some w) : w ∈ c0 :: wa := List.mem_cons_of_mem _ (wbm34 i h)
theorem wag34 : wa34.all goodWord = true := by decide +kernel
theorem wbm35 {w : Cond} (i : Nat) (h : wa35[i]? = some w) : w ∈ wa := by unfold wa; exact List.mem_append_right _ (List.mem_append_right _ (List.mem_append_right _ (List.mem_append_right _ (List.mem_append_right _ (List.mem_append_right _ (List.mem_append_right _ (List.mem_append_right _ (List.mem_append_right _ (List.mem_append_right _ (List.mem_append_right _ (List.mem_append_right _ (List.mem_append_right _ (List.mem_append_right _ (List.mem_append_right _ (List.mem_append_right _ (List.mem_append_right _ (List.mem_append_right _ (List.mem_append_right _ (List.mem_append_right _ (List.mem_append_right _ (List.mem_append_right _ (List.mem_append_right _ (List.mem_append_right _ (List.mem_append_right _ (List.mem_append_right _ (List.mem_append_right _ (List.mem_append_right _ (List.mem_append_right _ (List.mem_append_right _ (List.mem_append_right _ (List.mem_append_right _ (List.mem_append_right _ (List.mem_append_right _ (List.mem_append_right _ (List.mem_append_left _ (List.mem_of_getElem? h))))))))))))))))))))))))))))))))))))
theorem wam35 {c0 w : Cond} (i : Nat) (h : wa35[i]? = some w) : w ∈ c0 :: wa := List.mem_cons_of_mem _ (wbm35 i h)
theorem wag35 : wa35.all goodWord = true := by decide +kernel
theorem wbm36 {w : Cond} (i : Nat) (h : wa36[i]? = some w) : w ∈ wa := by unfold wa; exact List.mem_append_right _ (List.mem_append_right _ (List.mem_append_right _ (List.mem_append_right _ (List.mem_append_right _ (List.mem_append_right _ (List.mem_append_right _ (List.mem_append_right _ (List.mem_append_right _ (List.mem_append_right _ (List.mem_append_right _ (List.mem_append_right _ (List.mem_append_right _ (List.mem_append_right _ (List.mem_append_right _ (List.mem_append_right _ (List.mem_append_right _ (List.mem_append_right _ (List.mem_append_right _ (List.mem_append_right _ (List.mem_append_right _ (List.mem_append_right _ (List.mem_append_right _ (List.mem_append_right _ (List.mem_append_right _ (List.mem_append_right _ (List.mem_append_right _ (List.mem_append_right _ (List.mem_append_right _ (List.mem_append_right _ (List.mem_append_right _ (List.mem_append_right _ (List.mem_append_right _ (List.mem_append_right _ (List.mem_append_right _ (List.mem_append_right _ (List.mem_append_left _ (List.mem_of_getElem? h)))))))))))))))))))))))))))))))))))))
theorem wam36 {c0 w : Cond} (i : Nat) (h : wa36[i]? = some w) : w ∈ c0 :: wa := List.mem_cons_of_mem _ (wbm36 i h)
theorem wag36 : wa36.all goodWord = true := by decide +kernel
theorem wbm37 {w : Cond} (i : Nat) (h : wa37[i]? = some w) : w ∈ wa := by unfold wa; exact List.mem_append_right _ (List.mem_append_right _ (List.mem_append_right _ (List.mem_append_right _ (List.mem_append_right _ (List.mem_append_right _ (List.mem_append_right _ (List.mem_append_right _ (List.mem_append_right _ (List.mem_append_right _ (List.mem_append_right _ (List.mem_append_right _ (List.mem_append_right _ (List.mem_append_right _ (List.mem_append_right _ (List.mem_append_right _ (List.mem_append_right _ (List.mem_append_right _ (List.mem_append_right _ (List.mem_append_right _ (List.mem_append_right _ (List.mem_append_right _ (List.mem_append_right _ (List.mem_append_right _ (List.mem_append_right _ (List.mem_append_right _ (List.mem_append_right _ (List.mem_append_right _ (List.mem_append_right _ (List.mem_append_right _ (List.mem_append_right _ (List.mem_append_right _ (List.mem_append_right _ (List.mem_append_right _ (List.mem_append_right _ (List.mem_append_right _ (List.mem_append_right _ (List.mem_append_left _ (List.mem_of_getElem? h))))))))))))))))))))))))))))))))))))))
theorem wam37 {c0 w : Cond} (i : Nat) (h : wa37[i]? = some w) : w ∈ c0 :: wa := List.mem_cons_of_mem _ (wbm37 i h)
theorem wag37 : wa37.all goodWord = true := by decide +kernel
theorem wbm38 {w : Cond} (i : Nat) (h : wa38[i]? = some w) : w ∈ wa := by unfold wa; exact List.mem_append_right _ (List.mem_append_right _ (List.mem_append_right _ (List.mem_append_right _ (List.mem_append_right _ (List.mem_append_right _ (List.mem_append_right _ (List.mem_append_right _ (List.mem_append_right _ (List.mem_append_right _ (List.mem_append_right _ (List.mem_append_right _ (List.mem_append_right _ (List.mem_append_right _ (List.mem_append_right _ (List.mem_append_right _ (List.mem_append_right _ (List.mem_append_right _ (List.mem_append_right _ (List.mem_append_right _ (List.mem_append_right _ (List.mem_append_right _ (List.mem_append_right _ (List.mem_append_right _ (List.mem_append_right _ (List.mem_append_right _ (List.mem_append_right _ (List.mem_append_right _ (List.mem_append_right _ (List.mem_append_right _ (List.mem_append_right _ (List.mem_append_right _ (List.mem_append_right _ (List.mem_append_right _ (List.mem_append_right _ (List.mem_append_right _ (List.mem_append_right _ (List.mem_append_right _ (List.mem_append_left _ (List.mem_of_getElem? h)))))))))))))))))))))))))))))))))))))))
theorem wam38 {c0 w : Cond} (i : Nat) (h : wa38[i]? = some w) : w ∈ c0 :: wa := List.mem_cons_of_mem _ (wbm38 i h)
theorem wag38 : wa38.all goodWord = true := by decide +kernel
theorem wbm39 {w : Cond} (i : Nat) (h : wa39[i]? = some w) : w ∈ wa := by unfold wa; exact List.mem_append_right _ (List.mem_append_right _ (List.mem_append_right _ (List.mem_append_right _ (List.mem_append_right _ (List.mem_append_right _ (List.mem_append_right _ (List.mem_append_right _ (List.mem_append_right _ (List.mem_append_right _ (List.mem_append_right _ (List.mem_append_right _ (List.mem_append_right _ (List.mem_append_right _ (List.mem_append_right _ (List.mem_append_right _ (List.mem_append_right _ (List.mem_append_right _ (List.mem_append_right _ (List.mem_append_right _ (List.mem_append_right _ (List.mem_append_right _ (List.mem_append_right _ (List.mem_append_right _ (List.mem_append_right _ (List.mem_append_right _ (List.mem_append_right _ (List.mem_append_right _ (List.mem_append_right _ (List.mem_append_right _ (List.mem_append_right _ (List.mem_append_right _ (List.mem_append_right _ (List.mem_append_right _ (List.mem_append_right _ (List.mem_append_right _ (List.mem_append_right _ (List.mem_append_right _ (List.mem_append_right _ (List.mem_append_left _ (List.mem_of_getElem? h))))))))))))))))))))))))))))))))))))))))
theorem wam39 {c0 w : Cond} (i : Nat) (h : wa39[i]? = some w) : w ∈ c0 :: wa := List.mem_cons_of_mem _ (wbm39 i h)
theorem wag39 : wa39.all goodWord = true := by decide +kernel
theorem wbm40 {w : Cond} (i : Nat) (h : wa40[i]? = some w) : w ∈ wa := by unfold wa; exact List.mem_append_right _ (List.mem_append_right _ (List.mem_append_right _ (List.mem_append_right _ (List.mem_append_right _ (List.mem_append_right _ (List.mem_append_right _ (List.mem_append_right _ (List.mem_append_right _ (List.mem_append_right _ (List.mem_append_right _ (List.mem_append_right _ (List.mem_append_right _ (List.mem_append_right _ (List.mem_append_right _ (List.mem_append_right _ (List.mem_append_right _ (List.mem_append_right _ (List.mem_append_right _ (List.mem_append_right _ (List.mem_append_right _ (List.mem_append_right _ (List.mem_append_right _ (List.mem_append_right _ (List.mem_append_right _ (List.mem_append_right _ (List.mem_append_right _ (List.mem_append_right _ (List.mem_append_right _ (List.mem_append_right _ (List.mem_append_right _ (List.mem_append_right _ (List.mem_append_right _ (List.mem_append_right _ (List.mem_append_right _ (List.mem_append_right _ (List.mem_append_right _ (List.mem_append_right _ (List.mem_append_right _ (List.mem_append_right _ (List.mem_append_left _ (List.mem_of_getElem? h)))))))))))))))))))))))))))))))))))))))))
theorem wam40 {c0 w : Cond} (i : Nat) (h : wa40[i]? = some w) : w ∈ c0 :: wa := List.mem_cons_of_mem _ (wbm40 i h)
theorem wag40 : wa40.all goodWord = true := by decide +kernel
theorem wbm41 {w : Cond} (i : Nat) (h : wa41[i]? = some w) : w ∈ wa := by unfold wa; exact List.mem_append_right _ (List.mem_append_right _ (List.mem_append_right _ (List.mem_append_right _ (List.mem_append_right _ (List.mem_append_right _ (List.mem_append_right _ (List.mem_append_right _ (List.mem_append_right _ (List.mem_append_right _ (List.mem_append_right _ (List.mem_append_right _ (List.mem_append_right _ (List.mem_append_right _ (List.mem_append_right _ (List.mem_append_right _ (List.mem_append_right _ (List.mem_append_right _ (List.mem_append_right _ (List.mem_append_right _ (List.mem_append_right _ (List.mem_append_right _ (List.mem_append_right _ (List.mem_append_right _ (List.mem_append_right _ (List.mem_append_right _ (List.mem_append_right _ (List.mem_append_right _ (List.mem_append_right _ (List.mem_append_right _ (List.mem_append_right _ (List.mem_append_right _ (List.mem_append_right _ (List.mem_append_right _ (List.mem_append_right _ (List.mem_append_right _ (List.mem_append_right _ (List.mem_append_right _ (List.mem_append_right _ (List.mem_append_right _ (List.mem_append_right _ (List.mem_of_getElem? h)))))))))))))))))))))))))))))))))))))))))
theorem wam41 {c0 w : Cond} (i : Nat) (h : wa41[i]? = some w) : w ∈ c0 :: wa := List.mem_cons_of_mem _ (wbm41 i h)
theorem wag41 : wa41.all goodWord = true := by decide +kernel
theorem wa_good : ∀ w ∈ wa, (w.onTables && w.keeps) = true ∨ ∃ ty, w = .arrayClass ty := by
  intro w h
  unfold wa at h
  simp only [List.mem_append] at h
  rcases h with h | h | h | h | h | h | h | h | h | h | h | h | h | h | h | h | h | h | h | h | h | h | h | h | h | h | h | h | h | h | h | h | h | h | h | h | h | h | h | h | h | h
  · exact good_of_word (List.all_eq_true.mp wag0 w h)
  · exact good_of_word (List.all_eq_true.mp wag1 w h)
  · exact good_of_word (List.all_eq_true.mp wag2 w h)
  · exact good_of_word (List.all_eq_true.mp wag3 w h)
  · exact good_of_word (List.all_eq_true.mp wag4 w h)
  · exact good_of_word (List.all_eq_true.mp wag5 w h)
  · exact good_of_word (List.all_eq_true.mp wag6 w h)
  · exact good_of_word (List.all_eq_true.mp wag7 w h)
  · exact good_of_word (List.all_eq_true.mp wag8 w h)
  · exact good_of_word (List.all_eq_true.mp wag9 w h)
  · exact good_of_word (List.all_eq_true.mp wag10 w h)
  · exact good_of_word (List.all_eq_true.mp wag11 w h)
  · exact good_of_word (List.all_eq_true.mp wag12 w h)
  · exact good_of_word (List.all_eq_true.mp wag13 w h)
  · exact good_of_word (List.all_eq_true.mp wag14 w h)
  · exact good_of_word (List.all_eq_true.mp wag15 w h)
  · exact good_of_word (List.all_eq_true.mp wag16 w h)
  · exact good_of_word (List.all_eq_true.mp wag17 w h)
  · exact good_of_word (List.all_eq_true.mp wag18 w h)
  · exact good_of_word (List.all_eq_true.mp wag19 w h)
  · exact good_of_word (List.all_eq_true.mp wag20 w h)
  · exact good_of_word (List.all_eq_true.mp wag21 w h)
  · exact good_of_word (List.all_eq_true.mp wag22 w h)
  · exact good_of_word (List.all_eq_true.mp wag23 w h)
  · exact good_of_word (List.all_eq_true.mp wag24 w h)
  · exact good_of_word (List.all_eq_true.mp wag25 w h)
  · exact good_of_word (List.all_eq_true.mp wag26 w h)
  · exact good_of_word (List.all_eq_true.mp wag27 w h)
  · exact good_of_word (List.all_eq_true.mp wag28 w h)
  · exact good_of_word (List.all_eq_true.mp wag29 w h)
  · exact good_of_word (List.all_eq_true.mp wag30 w h)
  · exact good_of_word (List.all_eq_true.mp wag31 w h)
  · exact good_of_word (List.all_eq_true.mp wag32 w h)
  · exact good_of_word (List.all_eq_true.mp wag33 w h)
  · exact good_of_word (List.all_eq_true.mp wag34 w h)
  · exact good_of_word (List.all_eq_true.mp wag35 w h)
  · exact good_of_word (List.all_eq_true.mp wag36 w h)
  · exact good_of_word (List.all_eq_true.mp wag37 w h)
  · exact good_of_word (List.all_eq_true.mp wag38 w h)
  · exact good_of_word (List.all_eq_true.mp wag39 w h)
  · exact good_of_word (List.all_eq_true.mp wag40 w h)
  · exact good_of_word (List.all_eq_true.mp wag41 w h)
theorem gI {c0 : Cond} {y : MethodName} {cy : ByteArray} {n : Nat} {r : Option FieldType} (h : Cond.code y cy n r ∈ wa) : GoodIn (c0 :: wa) (Cond.code y cy n r :: wa) := by
  intro w hw
  rcases List.mem_cons.mp hw with rfl | hw
  · exact ⟨List.mem_cons_of_mem _ h, wa_good _ h⟩
  · exact ⟨List.mem_cons_of_mem _ hw, wa_good _ hw⟩
theorem gV {c0 : Cond} {own C : String} {idx : Nat} {y : MethodName} {cy : ByteArray} {n : Nat} {r : Option FieldType} (h1 : Cond.methodLink own idx y ∈ wa) (h2 : Cond.instanceMethod y ∈ wa) (h3 : Cond.selects C y y ∈ wa) (h4 : Cond.initialized C ∈ wa) (h : Cond.code y cy n r ∈ wa) : GoodIn (c0 :: wa) (wsV own idx C y (Cond.code y cy n r :: wa)) := by
  intro w hw
  unfold wsV at hw
  rcases List.mem_append.mp hw with hw | hw
  · have h9 : w ∈ wa := by
      simp only [List.mem_cons, List.not_mem_nil, or_false] at hw
      rcases hw with rfl | rfl | rfl | rfl <;> assumption
    exact ⟨List.mem_cons_of_mem _ h9, wa_good _ h9⟩
  · exact gI h w hw
theorem gS {c0 : Cond} {own : String} {idx : Nat} {y : MethodName} {cy : ByteArray} {n : Nat} {r : Option FieldType} (h1 : Cond.methodLink own idx y ∈ wa) (h2 : Cond.static y ∈ wa) (h4 : Cond.initialized y.cls ∈ wa) (h : Cond.code y cy n r ∈ wa) : GoodIn (c0 :: wa) (va_wsS own idx y (Cond.code y cy n r :: wa)) := by
  intro w hw
  unfold va_wsS at hw
  rcases List.mem_append.mp hw with hw | hw
  · have h9 : w ∈ wa := by
      simp only [List.mem_cons, List.not_mem_nil, or_false] at hw
      rcases hw with rfl | rfl | rfl <;> assumption
    exact ⟨List.mem_cons_of_mem _ h9, wa_good _ h9⟩
  · exact gI h w hw
theorem inRp (c0 : Cond) : ∀ w ∈ u_ws "RunProver" TRp 16, w ∈ c0 :: wa := by
  intro w h
  obtain ⟨k, hk, rfl⟩ := List.mem_map.mp h
  have hk := List.mem_range.mp hk
  rcases (show k = 0 ∨ k = 1 ∨ k = 2 ∨ k = 3 ∨ k = 4 ∨ k = 5 ∨ k = 6 ∨ k = 7 ∨ k = 8 ∨ k = 9 ∨ k = 10 ∨ k = 11 ∨ k = 12 ∨ k = 13 ∨ k = 14 ∨ k = 15 by omega) with rfl | rfl | rfl | rfl | rfl | rfl | rfl | rfl | rfl | rfl | rfl | rfl | rfl | rfl | rfl | rfl
  · exact (wam10 0 rfl)
  · exact (wam10 1 rfl)
  · exact (wam10 2 rfl)
  · exact (wam10 3 rfl)
  · exact (wam10 4 rfl)
  · exact (wam10 5 rfl)
  · exact (wam10 6 rfl)
  · exact (wam10 7 rfl)
  · exact (wam10 8 rfl)
  · exact (wam10 9 rfl)
  · exact (wam10 10 rfl)
  · exact (wam10 11 rfl)
  · exact (wam10 12 rfl)
  · exact (wam10 13 rfl)
  · exact (wam10 14 rfl)
  · exact (wam10 15 rfl)
theorem inPg (c0 : Cond) : ∀ w ∈ u_ws "RunProver$Program" TPg 17, w ∈ c0 :: wa := by
  intro w h
  obtain ⟨k, hk, rfl⟩ := List.mem_map.mp h
  have hk := List.mem_range.mp hk
  rcases (show k = 0 ∨ k = 1 ∨ k = 2 ∨ k = 3 ∨ k = 4 ∨ k = 5 ∨ k = 6 ∨ k = 7 ∨ k = 8 ∨ k = 9 ∨ k = 10 ∨ k = 11 ∨ k = 12 ∨ k = 13 ∨ k = 14 ∨ k = 15 ∨ k = 16 by omega) with rfl | rfl | rfl | rfl | rfl | rfl | rfl | rfl | rfl | rfl | rfl | rfl | rfl | rfl | rfl | rfl | rfl
  · exact (wam1 33 rfl)
  · exact (wam1 34 rfl)
  · exact (wam1 35 rfl)
  · exact (wam1 36 rfl)
  · exact (wam1 37 rfl)
  · exact (wam1 38 rfl)
  · exact (wam1 39 rfl)
  · exact (wam2 0 rfl)
  · exact (wam2 1 rfl)
  · exact (wam2 2 rfl)
  · exact (wam2 3 rfl)
  · exact (wam2 4 rfl)
  · exact (wam2 5 rfl)
  · exact (wam2 6 rfl)
  · exact (wam2 7 rfl)
  · exact (wam2 8 rfl)
  · exact (wam2 9 rfl)
theorem inPa (c0 : Cond) : ∀ w ∈ u_ws "RunProver$Parser" TPa 5, w ∈ c0 :: wa := by
  intro w h
  obtain ⟨k, hk, rfl⟩ := List.mem_map.mp h
  have hk := List.mem_range.mp hk
  rcases (show k = 0 ∨ k = 1 ∨ k = 2 ∨ k = 3 ∨ k = 4 by omega) with rfl | rfl | rfl | rfl | rfl
  · exact (wam4 27 rfl)
  · exact (wam4 28 rfl)
  · exact (wam4 29 rfl)
  · exact (wam4 30 rfl)
  · exact (wam4 31 rfl)
theorem inNm (c0 : Cond) : ∀ w ∈ u_ws "RunProver$Names" TNm 5, w ∈ c0 :: wa := by
  intro w h
  obtain ⟨k, hk, rfl⟩ := List.mem_map.mp h
  have hk := List.mem_range.mp hk
  rcases (show k = 0 ∨ k = 1 ∨ k = 2 ∨ k = 3 ∨ k = 4 by omega) with rfl | rfl | rfl | rfl | rfl
  · exact (wam2 30 rfl)
  · exact (wam2 31 rfl)
  · exact (wam2 32 rfl)
  · exact (wam2 33 rfl)
  · exact (wam2 34 rfl)
theorem inTk (c0 : Cond) : ∀ w ∈ u_ws "RunProver$Tokens" TTk 12, w ∈ c0 :: wa := by
  intro w h
  obtain ⟨k, hk, rfl⟩ := List.mem_map.mp h
  have hk := List.mem_range.mp hk
  rcases (show k = 0 ∨ k = 1 ∨ k = 2 ∨ k = 3 ∨ k = 4 ∨ k = 5 ∨ k = 6 ∨ k = 7 ∨ k = 8 ∨ k = 9 ∨ k = 10 ∨ k = 11 by omega) with rfl | rfl | rfl | rfl | rfl | rfl | rfl | rfl | rfl | rfl | rfl | rfl
  · exact (wam3 22 rfl)
  · exact (wam3 23 rfl)
  · exact (wam3 24 rfl)
  · exact (wam3 25 rfl)
  · exact (wam3 26 rfl)
  · exact (wam3 27 rfl)
  · exact (wam3 28 rfl)
  · exact (wam3 29 rfl)
  · exact (wam3 30 rfl)
  · exact (wam3 31 rfl)
  · exact (wam3 32 rfl)
  · exact (wam3 33 rfl)
theorem inEx (c0 : Cond) : ∀ w ∈ u_ws "RunProver$Expressions" TEx 9, w ∈ c0 :: wa := by
  intro w h
  obtain ⟨k, hk, rfl⟩ := List.mem_map.mp h
  have hk := List.mem_range.mp hk
  rcases (show k = 0 ∨ k = 1 ∨ k = 2 ∨ k = 3 ∨ k = 4 ∨ k = 5 ∨ k = 6 ∨ k = 7 ∨ k = 8 by omega) with rfl | rfl | rfl | rfl | rfl | rfl | rfl | rfl | rfl
  · exact (wam4 12 rfl)
  · exact (wam4 13 rfl)
  · exact (wam4 14 rfl)
  · exact (wam4 15 rfl)
  · exact (wam4 16 rfl)
  · exact (wam4 17 rfl)
  · exact (wam4 18 rfl)
  · exact (wam4 19 rfl)
  · exact (wam4 20 rfl)
theorem inGa (c0 : Cond) : ∀ w ∈ u_ws "RunProver$Gates" TGa 9, w ∈ c0 :: wa := by
  intro w h
  obtain ⟨k, hk, rfl⟩ := List.mem_map.mp h
  have hk := List.mem_range.mp hk
  rcases (show k = 0 ∨ k = 1 ∨ k = 2 ∨ k = 3 ∨ k = 4 ∨ k = 5 ∨ k = 6 ∨ k = 7 ∨ k = 8 by omega) with rfl | rfl | rfl | rfl | rfl | rfl | rfl | rfl | rfl
  · exact (wam5 17 rfl)
  · exact (wam5 18 rfl)
  · exact (wam5 19 rfl)
  · exact (wam5 20 rfl)
  · exact (wam5 21 rfl)
  · exact (wam5 22 rfl)
  · exact (wam5 23 rfl)
  · exact (wam5 24 rfl)
  · exact (wam5 25 rfl)
theorem inUn (c0 : Cond) : ∀ w ∈ u_ws "RunProver$Unroller" TUn 14, w ∈ c0 :: wa := by
  intro w h
  obtain ⟨k, hk, rfl⟩ := List.mem_map.mp h
  have hk := List.mem_range.mp hk
  rcases (show k = 0 ∨ k = 1 ∨ k = 2 ∨ k = 3 ∨ k = 4 ∨ k = 5 ∨ k = 6 ∨ k = 7 ∨ k = 8 ∨ k = 9 ∨ k = 10 ∨ k = 11 ∨ k = 12 ∨ k = 13 by omega) with rfl | rfl | rfl | rfl | rfl | rfl | rfl | rfl | rfl | rfl | rfl | rfl | rfl | rfl
  · exact (wam6 35 rfl)
  · exact (wam6 36 rfl)
  · exact (wam6 37 rfl)
  · exact (wam6 38 rfl)
  · exact (wam6 39 rfl)
  · exact (wam7 0 rfl)
  · exact (wam7 1 rfl)
  · exact (wam7 2 rfl)
  · exact (wam7 3 rfl)
  · exact (wam7 4 rfl)
  · exact (wam7 5 rfl)
  · exact (wam7 6 rfl)
  · exact (wam7 7 rfl)
  · exact (wam7 8 rfl)
theorem inWo (c0 : Cond) : ∀ w ∈ u_ws "RunProver$Words" TWo 7, w ∈ c0 :: wa := by
  intro w h
  obtain ⟨k, hk, rfl⟩ := List.mem_map.mp h
  have hk := List.mem_range.mp hk
  rcases (show k = 0 ∨ k = 1 ∨ k = 2 ∨ k = 3 ∨ k = 4 ∨ k = 5 ∨ k = 6 by omega) with rfl | rfl | rfl | rfl | rfl | rfl | rfl
  · exact (wam6 6 rfl)
  · exact (wam6 7 rfl)
  · exact (wam6 8 rfl)
  · exact (wam6 9 rfl)
  · exact (wam6 10 rfl)
  · exact (wam6 11 rfl)
  · exact (wam6 12 rfl)
theorem inCl (c0 : Cond) : ∀ w ∈ u_ws "RunProver$Clauses" TCl 4, w ∈ c0 :: wa := by
  intro w h
  obtain ⟨k, hk, rfl⟩ := List.mem_map.mp h
  have hk := List.mem_range.mp hk
  rcases (show k = 0 ∨ k = 1 ∨ k = 2 ∨ k = 3 by omega) with rfl | rfl | rfl | rfl
  · exact (wam7 27 rfl)
  · exact (wam7 28 rfl)
  · exact (wam7 29 rfl)
  · exact (wam7 30 rfl)
theorem inCk (c0 : Cond) : ∀ w ∈ u_ws "RunProver$Checker" TCk 6, w ∈ c0 :: wa := by
  intro w h
  obtain ⟨k, hk, rfl⟩ := List.mem_map.mp h
  have hk := List.mem_range.mp hk
  rcases (show k = 0 ∨ k = 1 ∨ k = 2 ∨ k = 3 ∨ k = 4 ∨ k = 5 by omega) with rfl | rfl | rfl | rfl | rfl | rfl
  · exact (wam8 6 rfl)
  · exact (wam8 7 rfl)
  · exact (wam8 8 rfl)
  · exact (wam8 9 rfl)
  · exact (wam8 10 rfl)
  · exact (wam8 11 rfl)
theorem inSe (c0 : Cond) : ∀ w ∈ u_ws "RunProver$Search" TSe 21, w ∈ c0 :: wa := by
  intro w h
  obtain ⟨k, hk, rfl⟩ := List.mem_map.mp h
  have hk := List.mem_range.mp hk
  rcases (show k = 0 ∨ k = 1 ∨ k = 2 ∨ k = 3 ∨ k = 4 ∨ k = 5 ∨ k = 6 ∨ k = 7 ∨ k = 8 ∨ k = 9 ∨ k = 10 ∨ k = 11 ∨ k = 12 ∨ k = 13 ∨ k = 14 ∨ k = 15 ∨ k = 16 ∨ k = 17 ∨ k = 18 ∨ k = 19 ∨ k = 20 by omega) with rfl | rfl | rfl | rfl | rfl | rfl | rfl | rfl | rfl | rfl | rfl | rfl | rfl | rfl | rfl | rfl | rfl | rfl | rfl | rfl | rfl
  · exact (wam9 3 rfl)
  · exact (wam9 4 rfl)
  · exact (wam9 5 rfl)
  · exact (wam9 6 rfl)
  · exact (wam9 7 rfl)
  · exact (wam9 8 rfl)
  · exact (wam9 9 rfl)
  · exact (wam9 10 rfl)
  · exact (wam9 11 rfl)
  · exact (wam9 12 rfl)
  · exact (wam9 13 rfl)
  · exact (wam9 14 rfl)
  · exact (wam9 15 rfl)
  · exact (wam9 16 rfl)
  · exact (wam9 17 rfl)
  · exact (wam9 18 rfl)
  · exact (wam9 19 rfl)
  · exact (wam9 20 rfl)
  · exact (wam9 21 rfl)
  · exact (wam9 22 rfl)
  · exact (wam9 23 rfl)
theorem inMo (c0 : Cond) : ∀ w ∈ u_ws "RunProverModel" TMo 56, w ∈ c0 :: wa := by
  intro w h
  obtain ⟨k, hk, rfl⟩ := List.mem_map.mp h
  have hk := List.mem_range.mp hk
  rcases (show k = 0 ∨ k = 1 ∨ k = 2 ∨ k = 3 ∨ k = 4 ∨ k = 5 ∨ k = 6 ∨ k = 7 ∨ k = 8 ∨ k = 9 ∨ k = 10 ∨ k = 11 ∨ k = 12 ∨ k = 13 ∨ k = 14 ∨ k = 15 ∨ k = 16 ∨ k = 17 ∨ k = 18 ∨ k = 19 ∨ k = 20 ∨ k = 21 ∨ k = 22 ∨ k = 23 ∨ k = 24 ∨ k = 25 ∨ k = 26 ∨ k = 27 ∨ k = 28 ∨ k = 29 ∨ k = 30 ∨ k = 31 ∨ k = 32 ∨ k = 33 ∨ k = 34 ∨ k = 35 ∨ k = 36 ∨ k = 37 ∨ k = 38 ∨ k = 39 ∨ k = 40 ∨ k = 41 ∨ k = 42 ∨ k = 43 ∨ k = 44 ∨ k = 45 ∨ k = 46 ∨ k = 47 ∨ k = 48 ∨ k = 49 ∨ k = 50 ∨ k = 51 ∨ k = 52 ∨ k = 53 ∨ k = 54 ∨ k = 55 by omega) with rfl | rfl | rfl | rfl | rfl | rfl | rfl | rfl | rfl | rfl | rfl | rfl | rfl | rfl | rfl | rfl | rfl | rfl | rfl | rfl | rfl | rfl | rfl | rfl | rfl | rfl | rfl | rfl | rfl | rfl | rfl | rfl | rfl | rfl | rfl | rfl | rfl | rfl | rfl | rfl | rfl | rfl | rfl | rfl | rfl | rfl | rfl | rfl | rfl | rfl | rfl | rfl | rfl | rfl | rfl | rfl
  · exact (wam29 29 rfl)
  · exact (wam29 30 rfl)
  · exact (wam29 31 rfl)
  · exact (wam29 32 rfl)
  · exact (wam29 33 rfl)
  · exact (wam29 34 rfl)
  · exact (wam29 35 rfl)
  · exact (wam29 36 rfl)
  · exact (wam29 37 rfl)
  · exact (wam29 38 rfl)
  · exact (wam29 39 rfl)
  · exact (wam30 0 rfl)
  · exact (wam30 1 rfl)
  · exact (wam30 2 rfl)
  · exact (wam30 3 rfl)
  · exact (wam30 4 rfl)
  · exact (wam30 5 rfl)
  · exact (wam30 6 rfl)
  · exact (wam30 7 rfl)
  · exact (wam30 8 rfl)
  · exact (wam30 9 rfl)
  · exact (wam30 10 rfl)
  · exact (wam30 11 rfl)
  · exact (wam30 12 rfl)
  · exact (wam30 13 rfl)
  · exact (wam30 14 rfl)
  · exact (wam30 15 rfl)
  · exact (wam30 16 rfl)
  · exact (wam30 17 rfl)
  · exact (wam30 18 rfl)
  · exact (wam30 19 rfl)
  · exact (wam30 20 rfl)
  · exact (wam30 21 rfl)
  · exact (wam30 22 rfl)
  · exact (wam30 23 rfl)
  · exact (wam30 24 rfl)
  · exact (wam30 25 rfl)
  · exact (wam30 26 rfl)
  · exact (wam30 27 rfl)
  · exact (wam30 28 rfl)
  · exact (wam30 29 rfl)
  · exact (wam30 30 rfl)
  · exact (wam30 31 rfl)
  · exact (wam30 32 rfl)
  · exact (wam30 33 rfl)
  · exact (wam30 34 rfl)
  · exact (wam30 35 rfl)
  · exact (wam30 36 rfl)
  · exact (wam30 37 rfl)
  · exact (wam30 38 rfl)
  · exact (wam30 39 rfl)
  · exact (wam31 0 rfl)
  · exact (wam31 1 rfl)
  · exact (wam31 2 rfl)
  · exact (wam31 3 rfl)
  · exact (wam31 4 rfl)
theorem inWr (c0 : Cond) : ∀ w ∈ u_ws "RunProverModel$Wrong" TWr 8, w ∈ c0 :: wa := by
  intro w h
  obtain ⟨k, hk, rfl⟩ := List.mem_map.mp h
  have hk := List.mem_range.mp hk
  rcases (show k = 0 ∨ k = 1 ∨ k = 2 ∨ k = 3 ∨ k = 4 ∨ k = 5 ∨ k = 6 ∨ k = 7 by omega) with rfl | rfl | rfl | rfl | rfl | rfl | rfl | rfl
  · exact (wam32 1 rfl)
  · exact (wam32 2 rfl)
  · exact (wam32 3 rfl)
  · exact (wam32 4 rfl)
  · exact (wam32 5 rfl)
  · exact (wam32 14 rfl)
  · exact (wam32 15 rfl)
  · exact (wam32 16 rfl)
abbrev wsRp_init : List Cond := .code yRp_init cRp_init 1 none :: wa
abbrev wsOb_init : List Cond := .code yOb_init cOb_init 1 none :: wa
abbrev wsPg_init : List Cond := .code yPg_init cPg_init 1 none :: wa
abbrev wsPa_init : List Cond := .code yPa_init cPa_init 3 none :: wa
abbrev wsNm_init : List Cond := .code yNm_init cNm_init 1 none :: wa
abbrev wsTk_init : List Cond := .code yTk_init cTk_init 2 none :: wa
abbrev wsEx_init : List Cond := .code yEx_init cEx_init 4 none :: wa
abbrev wsGa_init : List Cond := .code yGa_init cGa_init 1 none :: wa
abbrev wsUn_init : List Cond := .code yUn_init cUn_init 3 none :: wa
abbrev wsWo_init : List Cond := .code yWo_init cWo_init 2 none :: wa
abbrev wsCl_init : List Cond := .code yCl_init cCl_init 1 none :: wa
abbrev wsCk_init : List Cond := .code yCk_init cCk_init 2 none :: wa
abbrev wsSe_init : List Cond := .code ySe_init cSe_init 3 none :: wa
abbrev wsRp_read : List Cond := .code yRp_read cRp_read 1 (some .int) :: wa
abbrev wsAr_fill : List Cond := .code yAr_fill cAr_fill 4 none :: wa
abbrev wsPa_parse : List Cond := .code yPa_parse cPa_parse 2 none :: wa
abbrev wsPg_clear : List Cond := .code yPg_clear cPg_clear 1 none :: wa
abbrev wsEx_begin : List Cond := .code yEx_begin cEx_begin 1 none :: wa
abbrev wsTk_begin : List Cond := .code yTk_begin cTk_begin 3 none :: wa
abbrev wsTk_behindBlanks : List Cond := .code yTk_behindBlanks cTk_behindBlanks 5 (some .int) :: wa
abbrev wsTk_cut : List Cond := .code yTk_cut cTk_cut 6 (some .int) :: wa
abbrev wsTk_isLetter : List Cond := .code yTk_isLetter cTk_isLetter 1 (some .boolean) :: wa
abbrev wsTk_wordEnd : List Cond := .code yTk_wordEnd cTk_wordEnd 3 (some .int) :: wa
abbrev wsTk_isDigit : List Cond := .code yTk_isDigit cTk_isDigit 1 (some .boolean) :: wa
abbrev wsTk_wordKind : List Cond := .code yTk_wordKind cTk_wordKind 8 (some .int) :: wa
abbrev wsTk_numberEnd : List Cond := .code yTk_numberEnd cTk_numberEnd 3 (some .int) :: wa
abbrev wsTk_numberIn : List Cond := .code yTk_numberIn cTk_numberIn 5 (some .int) :: wa
abbrev wsTk_pairKind : List Cond := .code yTk_pairKind cTk_pairKind 2 (some .int) :: wa
abbrev wsTk_signKind : List Cond := .code yTk_signKind cTk_signKind 2 (some .int) :: wa
abbrev wsTk_advance : List Cond := .code yTk_advance cTk_advance 1 none :: wa
abbrev wsTk_take : List Cond := .code yTk_take cTk_take 2 none :: wa
abbrev wsTk_misfit : List Cond := .code yTk_misfit cTk_misfit 1 (some .int) :: wa
abbrev wsTk_fail : List Cond := .code yTk_fail cTk_fail 3 none :: wa
abbrev wsTk_takeNumber : List Cond := .code yTk_takeNumber cTk_takeNumber 4 (some .int) :: wa
abbrev wsPa_declarations : List Cond := .code yPa_declarations cPa_declarations 2 none :: wa
abbrev wsPa_variable : List Cond := .code yPa_variable cPa_variable 4 none :: wa
abbrev wsNm_declare : List Cond := .code yNm_declare cNm_declare 4 (some .int) :: wa
abbrev wsTk_refuse : List Cond := .code yTk_refuse cTk_refuse 1 none :: wa
abbrev wsNm_find : List Cond := .code yNm_find cNm_find 3 (some .int) :: wa
abbrev wsTk_sameWord : List Cond := .code yTk_sameWord cTk_sameWord 4 (some .boolean) :: wa
abbrev wsPg_addSlot : List Cond := .code yPg_addSlot cPg_addSlot 2 (some .int) :: wa
abbrev wsNm_define : List Cond := .code yNm_define cNm_define 4 none :: wa
abbrev wsPa_function : List Cond := .code yPa_function cPa_function 6 none :: wa
abbrev wsPa_parameters : List Cond := .code yPa_parameters cPa_parameters 4 (some .int) :: wa
abbrev wsEx_expression : List Cond := .code yEx_expression cEx_expression 5 (some .int) :: wa
abbrev wsEx_operand : List Cond := .code yEx_operand cEx_operand 3 (some .int) :: wa
abbrev wsTk_tooDeep : List Cond := .code yTk_tooDeep cTk_tooDeep 2 (some .boolean) :: wa
abbrev wsEx_turned : List Cond := .code yEx_turned cEx_turned 4 (some .int) :: wa
abbrev wsPg_emit : List Cond := .code yPg_emit cPg_emit 3 none :: wa
abbrev wsEx_signCost : List Cond := .code yEx_signCost cEx_signCost 3 (some .int) :: wa
abbrev wsEx_addCost : List Cond := .code yEx_addCost cEx_addCost 2 none :: wa
abbrev wsEx_bracketed : List Cond := .code yEx_bracketed cEx_bracketed 5 (some .int) :: wa
abbrev wsEx_signedBelow : List Cond := .code yEx_signedBelow cEx_signedBelow 3 (some .int) :: wa
abbrev wsEx_named : List Cond := .code yEx_named cEx_named 7 (some .int) :: wa
abbrev wsNm_kindOf : List Cond := .code yNm_kindOf cNm_kindOf 2 (some .int) :: wa
abbrev wsNm_numberOf : List Cond := .code yNm_numberOf cNm_numberOf 2 (some .int) :: wa
abbrev wsEx_mayStand : List Cond := .code yEx_mayStand cEx_mayStand 2 (some .boolean) :: wa
abbrev wsEx_call : List Cond := .code yEx_call cEx_call 9 (some .int) :: wa
abbrev wsPg_ofFunction : List Cond := .code yPg_ofFunction cPg_ofFunction 3 (some .int) :: wa
abbrev wsEx_level : List Cond := .code yEx_level cEx_level 1 (some .int) :: wa
abbrev wsEx_settle : List Cond := .code yEx_settle cEx_settle 5 (some .int) :: wa
abbrev wsEx_hold : List Cond := .code yEx_hold cEx_hold 3 none :: wa
abbrev wsEx_choice : List Cond := .code yEx_choice cEx_choice 4 (some .int) :: wa
abbrev wsNm_forgetFrom : List Cond := .code yNm_forgetFrom cNm_forgetFrom 3 none :: wa
abbrev wsPg_addFunction : List Cond := .code yPg_addFunction cPg_addFunction 6 (some .int) :: wa
abbrev wsPa_statements : List Cond := .code yPa_statements cPa_statements 6 (some .int) :: wa
abbrev wsPa_goesOn : List Cond := .code yPa_goesOn cPa_goesOn 1 (some .boolean) :: wa
abbrev wsPa_statement : List Cond := .code yPa_statement cPa_statement 4 (some .int) :: wa
abbrev wsPa_setting : List Cond := .code yPa_setting cPa_setting 7 (some .int) :: wa
abbrev wsPg_addStatement : List Cond := .code yPg_addStatement cPg_addStatement 3 (some .int) :: wa
abbrev wsAr_fill2 : List Cond := .code yAr_fill2 cAr_fill2 5 none :: wa
abbrev wsAr_rangeCheck : List Cond := .code yAr_rangeCheck cAr_rangeCheck 3 none :: wa
abbrev wsTh_init : List Cond := .code yTh_init cTh_init 1 none :: wa
abbrev wsAr_copyOf : List Cond := .code yAr_copyOf cAr_copyOf 3 (some (.array .byte)) :: wa
abbrev wsAr_copyOfRange : List Cond := .code yAr_copyOfRange cAr_copyOfRange 3 (some (.array .byte)) :: wa
abbrev wsAr_copyOfRangeByte : List Cond := .code yAr_copyOfRangeByte cAr_copyOfRangeByte 5 (some (.array .byte)) :: wa
abbrev wsAr_checkLength : List Cond := .code yAr_checkLength cAr_checkLength 2 none :: wa
abbrev wsRt_init : List Cond := .code yRt_init cRt_init 2 none :: wa
abbrev wsXc_init : List Cond := .code yXc_init cXc_init 2 none :: wa
abbrev wsTh_init2 : List Cond := .code yTh_init2 cTh_init2 2 none :: wa
abbrev wsPg_set : List Cond := .code yPg_set cPg_set 4 none :: wa
abbrev wsPa_addCheck : List Cond := .code yPa_addCheck cPa_addCheck 2 (some .int) :: wa
abbrev wsPa_drawing : List Cond := .code yPa_drawing cPa_drawing 4 (some .int) :: wa
abbrev wsPa_claim : List Cond := .code yPa_claim cPa_claim 4 (some .int) :: wa
abbrev wsPa_condition : List Cond := .code yPa_condition cPa_condition 3 none :: wa
abbrev wsPa_branch : List Cond := .code yPa_branch cPa_branch 3 (some .int) :: wa
abbrev wsPa_block : List Cond := .code yPa_block cPa_block 3 (some .int) :: wa
abbrev wsPa_alternative : List Cond := .code yPa_alternative cPa_alternative 2 (some .int) :: wa
abbrev wsPa_loop : List Cond := .code yPa_loop cPa_loop 8 (some .int) :: wa
abbrev wsUn_begin : List Cond := .code yUn_begin cUn_begin 1 none :: wa
abbrev wsGa_clear : List Cond := .code yGa_clear cGa_clear 1 none :: wa
abbrev wsWo_begin : List Cond := .code yWo_begin cWo_begin 2 none :: wa
abbrev wsUn_walk : List Cond := .code yUn_walk cUn_walk 6 none :: wa
abbrev wsPg_get : List Cond := .code yPg_get cPg_get 3 (some .int) :: wa
abbrev wsUn_loop : List Cond := .code yUn_loop cUn_loop 9 none :: wa
abbrev wsUn_evaluate : List Cond := .code yUn_evaluate cUn_evaluate 9 none :: wa
abbrev wsWo_sink : List Cond := .code yWo_sink cWo_sink 3 none :: wa
abbrev wsWo_drop : List Cond := .code yWo_drop cWo_drop 1 (some .int) :: wa
abbrev wsUn_push : List Cond := .code yUn_push cUn_push 4 none :: wa
abbrev wsWo_pushNumber : List Cond := .code yWo_pushNumber cWo_pushNumber 4 none :: wa
abbrev wsWo_newRow : List Cond := .code yWo_newRow cWo_newRow 1 (some .int) :: wa
abbrev wsWo_pushCopy : List Cond := .code yWo_pushCopy cWo_pushCopy 2 none :: wa
abbrev wsWo_pushFrom : List Cond := .code yWo_pushFrom cWo_pushFrom 3 none :: wa
abbrev wsWo_select : List Cond := .code yWo_select cWo_select 11 none :: wa
abbrev wsGa_or : List Cond := .code yGa_or cGa_or 3 (some .int) :: wa
abbrev wsGa_and : List Cond := .code yGa_and cGa_and 5 (some .int) :: wa
abbrev wsGa_gate : List Cond := .code yGa_gate cGa_gate 9 (some .int) :: wa
abbrev wsGa_mux : List Cond := .code yGa_mux cGa_mux 9 (some .int) :: wa
abbrev wsGa_xor : List Cond := .code yGa_xor cGa_xor 6 (some .int) :: wa
abbrev wsWo_apply : List Cond := .code yWo_apply cWo_apply 4 none :: wa
abbrev wsWo_negate : List Cond := .code yWo_negate cWo_negate 5 none :: wa
abbrev wsWo_invert : List Cond := .code yWo_invert cWo_invert 3 none :: wa
abbrev wsWo_truthOf : List Cond := .code yWo_truthOf cWo_truthOf 4 (some .int) :: wa
abbrev wsWo_setTruth : List Cond := .code yWo_setTruth cWo_setTruth 3 none :: wa
abbrev wsWo_choose : List Cond := .code yWo_choose cWo_choose 6 none :: wa
abbrev wsWo_add : List Cond := .code yWo_add cWo_add 8 none :: wa
abbrev wsWo_multiply : List Cond := .code yWo_multiply cWo_multiply 8 none :: wa
abbrev wsWo_divide : List Cond := .code yWo_divide cWo_divide 9 none :: wa
abbrev wsWo_shift : List Cond := .code yWo_shift cWo_shift 12 none :: wa
abbrev wsWo_bitwise : List Cond := .code yWo_bitwise cWo_bitwise 7 none :: wa
abbrev wsWo_join : List Cond := .code yWo_join cWo_join 6 none :: wa
abbrev wsWo_compareEqual : List Cond := .code yWo_compareEqual cWo_compareEqual 6 none :: wa
abbrev wsWo_compareOrder : List Cond := .code yWo_compareOrder cWo_compareOrder 11 none :: wa
abbrev wsWo_dropTruth : List Cond := .code yWo_dropTruth cWo_dropTruth 1 (some .int) :: wa
abbrev wsUn_demand : List Cond := .code yUn_demand cUn_demand 3 none :: wa
abbrev wsUn_act : List Cond := .code yUn_act cUn_act 3 none :: wa
abbrev wsUn_set : List Cond := .code yUn_set cUn_set 5 none :: wa
abbrev wsWo_literal : List Cond := .code yWo_literal cWo_literal 3 (some .int) :: wa
abbrev wsUn_setElement : List Cond := .code yUn_setElement cUn_setElement 10 none :: wa
abbrev wsWo_isBelow : List Cond := .code yWo_isBelow cWo_isBelow 6 (some .int) :: wa
abbrev wsWo_isNumber : List Cond := .code yWo_isNumber cWo_isNumber 5 (some .int) :: wa
abbrev wsUn_draw : List Cond := .code yUn_draw cUn_draw 6 none :: wa
abbrev wsGa_addSource : List Cond := .code yGa_addSource cGa_addSource 1 (some .int) :: wa
abbrev wsUn_branch : List Cond := .code yUn_branch cUn_branch 6 none :: wa
abbrev wsRp_fault : List Cond := .code yRp_fault cRp_fault 2 (some .int) :: wa
abbrev wsRp_prove : List Cond := .code yRp_prove cRp_prove 2 (some .int) :: wa
abbrev wsRp_addGoal : List Cond := .code yRp_addGoal cRp_addGoal 3 none :: wa
abbrev wsRp_possible : List Cond := .code yRp_possible cRp_possible 3 (some .boolean) :: wa
abbrev wsGa_want : List Cond := .code yGa_want cGa_want 4 none :: wa
abbrev wsAr_fill3 : List Cond := .code yAr_fill3 cAr_fill3 5 none :: wa
abbrev wsCl_begin : List Cond := .code yCl_begin cCl_begin 5 none :: wa
abbrev wsCl_addOne : List Cond := .code yCl_addOne cCl_addOne 2 none :: wa
abbrev wsCl_fits : List Cond := .code yCl_fits cCl_fits 2 (some .boolean) :: wa
abbrev wsCl_close : List Cond := .code yCl_close cCl_close 2 none :: wa
abbrev wsCl_add : List Cond := .code yCl_add cCl_add 3 (some .int) :: wa
abbrev wsCl_addGates : List Cond := .code yCl_addGates cCl_addGates 3 none :: wa
abbrev wsCl_addGate : List Cond := .code yCl_addGate cCl_addGate 6 none :: wa
abbrev wsCl_addAnd : List Cond := .code yCl_addAnd cCl_addAnd 4 none :: wa
abbrev wsCl_addTwo : List Cond := .code yCl_addTwo cCl_addTwo 3 none :: wa
abbrev wsCl_addThree : List Cond := .code yCl_addThree cCl_addThree 4 none :: wa
abbrev wsCl_addXor : List Cond := .code yCl_addXor cCl_addXor 4 none :: wa
abbrev wsCl_addMux : List Cond := .code yCl_addMux cCl_addMux 5 none :: wa
abbrev wsSe_solve : List Cond := .code ySe_solve cSe_solve 6 (some .boolean) :: wa
abbrev wsSe_begin : List Cond := .code ySe_begin cSe_begin 2 none :: wa
abbrev wsCk_begin : List Cond := .code yCk_begin cCk_begin 2 none :: wa
abbrev wsSe_attachAll : List Cond := .code ySe_attachAll cSe_attachAll 5 (some .int) :: wa
abbrev wsSe_attach : List Cond := .code ySe_attach cSe_attach 4 none :: wa
abbrev wsSe_watch : List Cond := .code ySe_watch cSe_watch 3 none :: wa
abbrev wsSe_assign : List Cond := .code ySe_assign cSe_assign 3 none :: wa
abbrev wsCk_acceptLiteral : List Cond := .code yCk_acceptLiteral cCk_acceptLiteral 5 (some .boolean) :: wa
abbrev wsCk_set : List Cond := .code yCk_set cCk_set 2 none :: wa
abbrev wsSe_propagate : List Cond := .code ySe_propagate cSe_propagate 8 (some .int) :: wa
abbrev wsSe_spareLiteral : List Cond := .code ySe_spareLiteral cSe_spareLiteral 6 (some .int) :: wa
abbrev wsSe_decide : List Cond := .code ySe_decide cSe_decide 5 (some .boolean) :: wa
abbrev wsCk_accept : List Cond := .code yCk_accept cCk_accept 6 (some .boolean) :: wa
abbrev wsCk_assumeAgainst : List Cond := .code yCk_assumeAgainst cCk_assumeAgainst 4 (some .boolean) :: wa
abbrev wsCk_assume : List Cond := .code yCk_assume cCk_assume 2 none :: wa
abbrev wsCk_follow : List Cond := .code yCk_follow cCk_follow 8 (some .boolean) :: wa
abbrev wsCk_withdraw : List Cond := .code yCk_withdraw cCk_withdraw 2 none :: wa
abbrev wsSe_learn : List Cond := .code ySe_learn cSe_learn 3 none :: wa
abbrev wsSe_analyse : List Cond := .code ySe_analyse cSe_analyse 4 none :: wa
abbrev wsSe_resolve : List Cond := .code ySe_resolve cSe_resolve 5 none :: wa
abbrev wsSe_stays : List Cond := .code ySe_stays cSe_stays 2 (some .boolean) :: wa
abbrev wsCl_fitsEarly : List Cond := .code yCl_fitsEarly cCl_fitsEarly 2 (some .boolean) :: wa
abbrev wsSe_goBack : List Cond := .code ySe_goBack cSe_goBack 4 none :: wa
abbrev wsRp_takeInputs : List Cond := .code yRp_takeInputs cRp_takeInputs 5 none :: wa
abbrev wsSe_isTrue : List Cond := .code ySe_isTrue cSe_isTrue 2 (some .boolean) :: wa
abbrev wsRp_brokenCheck : List Cond := .code yRp_brokenCheck cRp_brokenCheck 2 (some .int) :: wa
abbrev wsRp_simulate : List Cond := .code yRp_simulate cRp_simulate 4 none :: wa
abbrev wsGa_settle : List Cond := .code yGa_settle cGa_settle 4 none :: wa
abbrev wsGa_bit : List Cond := .code yGa_bit cGa_bit 2 (some .int) :: wa
abbrev wsGa_holds : List Cond := .code yGa_holds cGa_holds 2 (some .boolean) :: wa
abbrev wsRp_run : List Cond := .code yRp_run cRp_run 2 (some .int) :: wa
abbrev wsRp_doubts : List Cond := .code yRp_doubts cRp_doubts 1 (some .int) :: wa
abbrev wsRp_count : List Cond := .code yRp_count cRp_count 2 (some .int) :: wa
abbrev wsLa_feed : List Cond := .codeWith yLa_feed cLa_feed 8 (some .int) [(0, 16, 19, 13)] :: wa
abbrev wsRp_feed : List Cond := .code yRp_feed cRp_feed 6 (some .int) :: wa
abbrev wsRp_store : List Cond := .code yRp_store cRp_store 3 none :: wa
abbrev wsLa_end : List Cond := .codeWith yLa_end cLa_end 4 (some .int) [(0, 9, 12, 19)] :: wa
abbrev wsRp_end : List Cond := .code yRp_end cRp_end 2 (some .int) :: wa
abbrev wsLa_breaks : List Cond := .codeWith yLa_breaks cLa_breaks 4 (some .int) [(0, 9, 12, 24)] :: wa
abbrev wsRp_breaks : List Cond := .code yRp_breaks cRp_breaks 2 (some .int) :: wa
abbrev wsLa_reaches : List Cond := .codeWith yLa_reaches cLa_reaches 4 (some .int) [(0, 9, 12, 24)] :: wa
abbrev wsRp_reaches : List Cond := .code yRp_reaches cRp_reaches 2 (some .int) :: wa
abbrev wsLa_ends : List Cond := .codeWith yLa_ends cLa_ends 6 (some .int) [(0, 12, 15, 24)] :: wa
abbrev wsRp_ends : List Cond := .code yRp_ends cRp_ends 7 (some .int) :: wa
abbrev wsPg_hasElement : List Cond := .code yPg_hasElement cPg_hasElement 3 (some .boolean) :: wa
abbrev wsLa_check : List Cond := .codeWith yLa_check cLa_check 5 (some .int) [(0, 10, 13, 24), (0, 10, 17, 19)] :: wa
abbrev wsRp_check : List Cond := .code yRp_check cRp_check 3 (some .int) :: wa
abbrev wsLa_input : List Cond := .codeWith yLa_input cLa_input 4 (some .int) [(0, 9, 12, 24)] :: wa
abbrev wsRp_input : List Cond := .code yRp_input cRp_input 2 (some .int) :: wa
abbrev wsLa_put : List Cond := .codeWith yLa_put cLa_put 5 (some .int) [(0, 10, 13, 24), (0, 10, 17, 19)] :: wa
abbrev wsRp_put : List Cond := .code yRp_put cRp_put 4 (some .int) :: wa
abbrev wsLa_value : List Cond := .codeWith yLa_value cLa_value 5 (some .int) [(0, 10, 13, 24)] :: wa
abbrev wsRp_value : List Cond := .code yRp_value cRp_value 6 (some .int) :: wa
abbrev wsMo_init : List Cond := .code yMo_init cMo_init 1 none :: wa
abbrev wsMo_thrown : List Cond := .code yMo_thrown cMo_thrown 1 (some .int) :: wa
abbrev wsMo_feed : List Cond := .code yMo_feed cMo_feed 8 (some .int) :: wa
abbrev wsMo_refuse : List Cond := .code yMo_refuse cMo_refuse 3 (some .boolean) :: wa
abbrev wsMo_end : List Cond := .code yMo_end cMo_end 2 (some .int) :: wa
abbrev wsMo_read : List Cond := .codeWith yMo_read cMo_read 2 (some .int) [(95, 189, 192, 191)] :: wa
abbrev wsMo_text : List Cond := .code yMo_text cMo_text 2 none :: wa
abbrev wsMo_is : List Cond := .code yMo_is cMo_is 3 (some .boolean) :: wa
abbrev wsMo_peek : List Cond := .code yMo_peek cMo_peek 2 (some .int) :: wa
abbrev wsMo_parts : List Cond := .code yMo_parts cMo_parts 2 none :: wa
abbrev wsWr_init : List Cond := .code yWr_init cWr_init 3 none :: wa
abbrev wsRt_init2 : List Cond := .code yRt_init2 cRt_init2 5 none :: wa
abbrev wsXc_init2 : List Cond := .code yXc_init2 cXc_init2 5 none :: wa
abbrev wsTh_init3 : List Cond := .code yTh_init3 cTh_init3 5 none :: wa
abbrev wsMo_letter : List Cond := .code yMo_letter cMo_letter 1 (some .boolean) :: wa
abbrev wsMo_digit : List Cond := .code yMo_digit cMo_digit 1 (some .boolean) :: wa
abbrev wsMo_byteAt : List Cond := .code yMo_byteAt cMo_byteAt 2 (some .int) :: wa
abbrev wsMo_sign : List Cond := .code yMo_sign cMo_sign 2 (some .int) :: wa
abbrev wsMo_cant : List Cond := .code yMo_cant cMo_cant 1 (some (.object "RunProverModel$Wrong")) :: wa
abbrev wsMo_take : List Cond := .code yMo_take cMo_take 1 none :: wa
abbrev wsMo_number : List Cond := .code yMo_number cMo_number 4 (some .int) :: wa
abbrev wsMo_number2 : List Cond := .code yMo_number2 cMo_number2 3 (some .int) :: wa
abbrev wsMo_must : List Cond := .code yMo_must cMo_must 2 none :: wa
abbrev wsMo_variable : List Cond := .code yMo_variable cMo_variable 2 none :: wa
abbrev wsMo_declare : List Cond := .code yMo_declare cMo_declare 4 none :: wa
abbrev wsMo_reserved : List Cond := .code yMo_reserved cMo_reserved 1 (some .boolean) :: wa
abbrev wsMo_named : List Cond := .code yMo_named cMo_named 4 (some .int) :: wa
abbrev wsMo_function : List Cond := .code yMo_function cMo_function 4 none :: wa
abbrev wsMo_expression : List Cond := .code yMo_expression cMo_expression 5 (some .int) :: wa
abbrev wsMo_chain : List Cond := .code yMo_chain cMo_chain 9 (some .int) :: wa
abbrev wsMo_unary : List Cond := .code yMo_unary cMo_unary 4 (some .int) :: wa
abbrev wsMo_nest : List Cond := .code yMo_nest cMo_nest 2 (some .int) :: wa
abbrev wsMo_node : List Cond := .code yMo_node cMo_node 5 (some .int) :: wa
abbrev wsMo_capped : List Cond := .code yMo_capped cMo_capped 1 (some .int) :: wa
abbrev wsMo_costs : List Cond := .code yMo_costs cMo_costs 3 (some .int) :: wa
abbrev wsMo_operand : List Cond := .code yMo_operand cMo_operand 6 (some .int) :: wa
abbrev wsMo_called : List Cond := .code yMo_called cMo_called 8 (some .int) :: wa
abbrev wsMo_joins : List Cond := .code yMo_joins cMo_joins 2 (some .boolean) :: wa
abbrev wsMo_priceOf : List Cond := .code yMo_priceOf cMo_priceOf 3 (some .int) :: wa
abbrev wsMo_statements : List Cond := .code yMo_statements cMo_statements 9 (some .int) :: wa
abbrev wsMo_one : List Cond := .code yMo_one cMo_one 9 (some .int) :: wa
abbrev wsMo_any : List Cond := .code yMo_any cMo_any 4 (some .int) :: wa
abbrev wsMo_statement : List Cond := .code yMo_statement cMo_statement 6 (some .int) :: wa
abbrev wsMo_claim : List Cond := .code yMo_claim cMo_claim 6 (some .int) :: wa
abbrev wsMo_checked : List Cond := .code yMo_checked cMo_checked 3 (some .int) :: wa
abbrev wsMo_branch : List Cond := .code yMo_branch cMo_branch 6 (some .int) :: wa
abbrev wsMo_block : List Cond := .code yMo_block cMo_block 3 (some .int) :: wa
abbrev wsMo_loop : List Cond := .code yMo_loop cMo_loop 8 (some .int) :: wa
abbrev wsMo_list : List Cond := .code yMo_list cMo_list 4 none :: wa
abbrev wsMo_fault : List Cond := .code yMo_fault cMo_fault 2 (some .int) :: wa
abbrev wsMo_prove : List Cond := .code yMo_prove cMo_prove 1 (some .int) :: wa
abbrev wsMo_look : List Cond := .code yMo_look cMo_look 6 (some .boolean) :: wa
abbrev wsMo_runs : List Cond := .code yMo_runs cMo_runs 1 none :: wa
abbrev wsAr_fill4 : List Cond := .code yAr_fill4 cAr_fill4 4 none :: wa
abbrev wsMo_go : List Cond := .code yMo_go cMo_go 8 none :: wa
abbrev wsMo_value : List Cond := .code yMo_value cMo_value 7 (some .int) :: wa
abbrev wsMo_call : List Cond := .code yMo_call cMo_call 7 (some .int) :: wa
abbrev wsMo_joined : List Cond := .code yMo_joined cMo_joined 5 (some .int) :: wa
abbrev wsMo_breaks2 : List Cond := .code yMo_breaks2 cMo_breaks2 2 none :: wa
abbrev wsMo_rounds : List Cond := .code yMo_rounds cMo_rounds 5 none :: wa
abbrev wsMo_found : List Cond := .code yMo_found cMo_found 4 (some .boolean) :: wa
abbrev wsMo_breaks : List Cond := .code yMo_breaks cMo_breaks 2 (some .int) :: wa
abbrev wsMo_noCheck : List Cond := .code yMo_noCheck cMo_noCheck 2 (some .boolean) :: wa
abbrev wsMo_reaches : List Cond := .code yMo_reaches cMo_reaches 2 (some .int) :: wa
abbrev wsMo_ends : List Cond := .code yMo_ends cMo_ends 4 (some .int) :: wa
abbrev wsMo_noElement : List Cond := .code yMo_noElement cMo_noElement 3 (some .boolean) :: wa
abbrev wsMo_check : List Cond := .code yMo_check cMo_check 3 (some .int) :: wa
abbrev wsMo_input : List Cond := .code yMo_input cMo_input 2 (some .int) :: wa
abbrev wsMo_put : List Cond := .code yMo_put cMo_put 4 (some .int) :: wa
abbrev wsMo_run : List Cond := .code yMo_run cMo_run 1 (some .int) :: wa
abbrev wsMo_value2 : List Cond := .code yMo_value2 cMo_value2 3 (some .int) :: wa
abbrev wsMo_doubts : List Cond := .code yMo_doubts cMo_doubts 1 (some .int) :: wa
abbrev wsMo_count : List Cond := .code yMo_count cMo_count 2 (some .int) :: wa
