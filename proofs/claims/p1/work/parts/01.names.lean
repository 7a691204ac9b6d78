def TRp : u_T := fun k => match k with
  | 0 => ("RunProver", "tape", "[B", true)
  | 1 => ("RunProver", "program", "LRunProver$Program;", true)
  | 2 => ("RunProver", "parser", "LRunProver$Parser;", true)
  | 3 => ("RunProver", "gates", "LRunProver$Gates;", true)
  | 4 => ("RunProver", "unroller", "LRunProver$Unroller;", true)
  | 5 => ("RunProver", "clauses", "LRunProver$Clauses;", true)
  | 6 => ("RunProver", "checker", "LRunProver$Checker;", true)
  | 7 => ("RunProver", "search", "LRunProver$Search;", true)
  | 8 => ("RunProver", "inputs", "[I", true)
  | 9 => ("RunProver", "goals", "[I", true)
  | 10 => ("RunProver", "goalCount", "I", false)
  | 11 => ("RunProver", "tapeLength", "I", false)
  | 12 => ("RunProver", "faultKind", "I", false)
  | 13 => ("RunProver", "faultPlace", "I", false)
  | 14 => ("RunProver", "hasText", "Z", false)
  | _ => ("RunProver", "unproved", "I", false)
def tyRp : Nat → FieldType := fun k => match k with
  | 0 => .array .byte
  | 1 => .object "RunProver$Program"
  | 2 => .object "RunProver$Parser"
  | 3 => .object "RunProver$Gates"
  | 4 => .object "RunProver$Unroller"
  | 5 => .object "RunProver$Clauses"
  | 6 => .object "RunProver$Checker"
  | 7 => .object "RunProver$Search"
  | 8 => .array .int
  | 9 => .array .int
  | 10 => .int
  | 11 => .int
  | 12 => .int
  | 13 => .int
  | 14 => .boolean
  | _ => .int
theorem nmRp : ∀ a, a < 16 → ∀ b, b < 16 → a ≠ b → (TRp a).2.1 ≠ (TRp b).2.1 := by decide +kernel
theorem tyRp_ok : ∀ k, k < 16 → parseFieldDescriptor (TRp k).2.2.1 = some (tyRp k) := by decide +kernel
def TPg : u_T := fun k => match k with
  | 0 => ("RunProver$Program", "rows", "[I", true)
  | 1 => ("RunProver$Program", "functions", "[I", true)
  | 2 => ("RunProver$Program", "codes", "[I", true)
  | 3 => ("RunProver$Program", "operands", "[I", true)
  | 4 => ("RunProver$Program", "slotFirst", "[I", true)
  | 5 => ("RunProver$Program", "slotSize", "[I", true)
  | 6 => ("RunProver$Program", "checkKinds", "[I", true)
  | 7 => ("RunProver$Program", "checkPlaces", "[I", true)
  | 8 => ("RunProver$Program", "statements", "I", false)
  | 9 => ("RunProver$Program", "functionCount", "I", false)
  | 10 => ("RunProver$Program", "codeSize", "I", false)
  | 11 => ("RunProver$Program", "slots", "I", false)
  | 12 => ("RunProver$Program", "elements", "I", false)
  | 13 => ("RunProver$Program", "checks", "I", false)
  | 14 => ("RunProver$Program", "width", "I", false)
  | 15 => ("RunProver$Program", "costs", "I", false)
  | _ => ("RunProver$Program", "first", "I", false)
def tyPg : Nat → FieldType := fun k => match k with
  | 0 => .array .int
  | 1 => .array .int
  | 2 => .array .int
  | 3 => .array .int
  | 4 => .array .int
  | 5 => .array .int
  | 6 => .array .int
  | 7 => .array .int
  | 8 => .int
  | 9 => .int
  | 10 => .int
  | 11 => .int
  | 12 => .int
  | 13 => .int
  | 14 => .int
  | 15 => .int
  | _ => .int
theorem nmPg : ∀ a, a < 17 → ∀ b, b < 17 → a ≠ b → (TPg a).2.1 ≠ (TPg b).2.1 := by decide +kernel
theorem tyPg_ok : ∀ k, k < 17 → parseFieldDescriptor (TPg k).2.2.1 = some (tyPg k) := by decide +kernel
def TPa : u_T := fun k => match k with
  | 0 => ("RunProver$Parser", "tokens", "LRunProver$Tokens;", true)
  | 1 => ("RunProver$Parser", "names", "LRunProver$Names;", true)
  | 2 => ("RunProver$Parser", "program", "LRunProver$Program;", true)
  | 3 => ("RunProver$Parser", "expressions", "LRunProver$Expressions;", true)
  | _ => ("RunProver$Parser", "bits", "I", false)
def tyPa : Nat → FieldType := fun k => match k with
  | 0 => .object "RunProver$Tokens"
  | 1 => .object "RunProver$Names"
  | 2 => .object "RunProver$Program"
  | 3 => .object "RunProver$Expressions"
  | _ => .int
theorem nmPa : ∀ a, a < 5 → ∀ b, b < 5 → a ≠ b → (TPa a).2.1 ≠ (TPa b).2.1 := by decide +kernel
theorem tyPa_ok : ∀ k, k < 5 → parseFieldDescriptor (TPa k).2.2.1 = some (tyPa k) := by decide +kernel
def TNm : u_T := fun k => match k with
  | 0 => ("RunProver$Names", "places", "[I", true)
  | 1 => ("RunProver$Names", "sizes", "[I", true)
  | 2 => ("RunProver$Names", "kinds", "[I", true)
  | 3 => ("RunProver$Names", "numbers", "[I", true)
  | _ => ("RunProver$Names", "amount", "I", false)
def tyNm : Nat → FieldType := fun k => match k with
  | 0 => .array .int
  | 1 => .array .int
  | 2 => .array .int
  | 3 => .array .int
  | _ => .int
theorem nmNm : ∀ a, a < 5 → ∀ b, b < 5 → a ≠ b → (TNm a).2.1 ≠ (TNm b).2.1 := by decide +kernel
theorem tyNm_ok : ∀ k, k < 5 → parseFieldDescriptor (TNm k).2.2.1 = some (tyNm k) := by decide +kernel
def TTk : u_T := fun k => match k with
  | 0 => ("RunProver$Tokens", "kinds", "[I", true)
  | 1 => ("RunProver$Tokens", "places", "[I", true)
  | 2 => ("RunProver$Tokens", "details", "[I", true)
  | 3 => ("RunProver$Tokens", "text", "[B", true)
  | 4 => ("RunProver$Tokens", "length", "I", false)
  | 5 => ("RunProver$Tokens", "amount", "I", false)
  | 6 => ("RunProver$Tokens", "at", "I", false)
  | 7 => ("RunProver$Tokens", "kind", "I", false)
  | 8 => ("RunProver$Tokens", "place", "I", false)
  | 9 => ("RunProver$Tokens", "detail", "I", false)
  | 10 => ("RunProver$Tokens", "faultKind", "I", false)
  | _ => ("RunProver$Tokens", "faultPlace", "I", false)
def tyTk : Nat → FieldType := fun k => match k with
  | 0 => .array .int
  | 1 => .array .int
  | 2 => .array .int
  | 3 => .array .byte
  | 4 => .int
  | 5 => .int
  | 6 => .int
  | 7 => .int
  | 8 => .int
  | 9 => .int
  | 10 => .int
  | _ => .int
theorem nmTk : ∀ a, a < 12 → ∀ b, b < 12 → a ≠ b → (TTk a).2.1 ≠ (TTk b).2.1 := by decide +kernel
theorem tyTk_ok : ∀ k, k < 12 → parseFieldDescriptor (TTk k).2.2.1 = some (tyTk k) := by decide +kernel
def TEx : u_T := fun k => match k with
  | 0 => ("RunProver$Expressions", "tokens", "LRunProver$Tokens;", true)
  | 1 => ("RunProver$Expressions", "names", "LRunProver$Names;", true)
  | 2 => ("RunProver$Expressions", "program", "LRunProver$Program;", true)
  | 3 => ("RunProver$Expressions", "waiting", "[I", true)
  | 4 => ("RunProver$Expressions", "waitingDepth", "[I", true)
  | 5 => ("RunProver$Expressions", "waitingCount", "I", false)
  | 6 => ("RunProver$Expressions", "inFunction", "Z", false)
  | 7 => ("RunProver$Expressions", "cost", "I", false)
  | _ => ("RunProver$Expressions", "deepest", "I", false)
def tyEx : Nat → FieldType := fun k => match k with
  | 0 => .object "RunProver$Tokens"
  | 1 => .object "RunProver$Names"
  | 2 => .object "RunProver$Program"
  | 3 => .array .int
  | 4 => .array .int
  | 5 => .int
  | 6 => .boolean
  | 7 => .int
  | _ => .int
theorem nmEx : ∀ a, a < 9 → ∀ b, b < 9 → a ≠ b → (TEx a).2.1 ≠ (TEx b).2.1 := by decide +kernel
theorem tyEx_ok : ∀ k, k < 9 → parseFieldDescriptor (TEx k).2.2.1 = some (tyEx k) := by decide +kernel
def TGa : u_T := fun k => match k with
  | 0 => ("RunProver$Gates", "kinds", "[B", true)
  | 1 => ("RunProver$Gates", "first", "[I", true)
  | 2 => ("RunProver$Gates", "second", "[I", true)
  | 3 => ("RunProver$Gates", "third", "[I", true)
  | 4 => ("RunProver$Gates", "truth", "[B", true)
  | 5 => ("RunProver$Gates", "wanted", "[B", true)
  | 6 => ("RunProver$Gates", "table", "[I", true)
  | 7 => ("RunProver$Gates", "behind", "[I", true)
  | _ => ("RunProver$Gates", "size", "I", false)
def tyGa : Nat → FieldType := fun k => match k with
  | 0 => .array .byte
  | 1 => .array .int
  | 2 => .array .int
  | 3 => .array .int
  | 4 => .array .byte
  | 5 => .array .byte
  | 6 => .array .int
  | 7 => .array .int
  | _ => .int
theorem nmGa : ∀ a, a < 9 → ∀ b, b < 9 → a ≠ b → (TGa a).2.1 ≠ (TGa b).2.1 := by decide +kernel
theorem tyGa_ok : ∀ k, k < 9 → parseFieldDescriptor (TGa k).2.2.1 = some (tyGa k) := by decide +kernel
def TUn : u_T := fun k => match k with
  | 0 => ("RunProver$Unroller", "program", "LRunProver$Program;", true)
  | 1 => ("RunProver$Unroller", "gates", "LRunProver$Gates;", true)
  | 2 => ("RunProver$Unroller", "words", "LRunProver$Words;", true)
  | 3 => ("RunProver$Unroller", "callAt", "[I", true)
  | 4 => ("RunProver$Unroller", "callStop", "[I", true)
  | 5 => ("RunProver$Unroller", "callFrame", "[I", true)
  | 6 => ("RunProver$Unroller", "cells", "[I", true)
  | 7 => ("RunProver$Unroller", "on", "I", false)
  | 8 => ("RunProver$Unroller", "broken", "[I", true)
  | 9 => ("RunProver$Unroller", "reached", "[I", true)
  | 10 => ("RunProver$Unroller", "inputSizes", "[I", true)
  | 11 => ("RunProver$Unroller", "inputCount", "I", false)
  | 12 => ("RunProver$Unroller", "bitNodes", "[I", true)
  | _ => ("RunProver$Unroller", "bitCount", "I", false)
def tyUn : Nat → FieldType := fun k => match k with
  | 0 => .object "RunProver$Program"
  | 1 => .object "RunProver$Gates"
  | 2 => .object "RunProver$Words"
  | 3 => .array .int
  | 4 => .array .int
  | 5 => .array .int
  | 6 => .array .int
  | 7 => .int
  | 8 => .array .int
  | 9 => .array .int
  | 10 => .array .int
  | 11 => .int
  | 12 => .array .int
  | _ => .int
theorem nmUn : ∀ a, a < 14 → ∀ b, b < 14 → a ≠ b → (TUn a).2.1 ≠ (TUn b).2.1 := by decide +kernel
theorem tyUn_ok : ∀ k, k < 14 → parseFieldDescriptor (TUn k).2.2.1 = some (tyUn k) := by decide +kernel
def TWo : u_T := fun k => match k with
  | 0 => ("RunProver$Words", "gates", "LRunProver$Gates;", true)
  | 1 => ("RunProver$Words", "rows", "[I", true)
  | 2 => ("RunProver$Words", "result", "[I", true)
  | 3 => ("RunProver$Words", "difference", "[I", true)
  | 4 => ("RunProver$Words", "tree", "[I", true)
  | 5 => ("RunProver$Words", "width", "I", false)
  | _ => ("RunProver$Words", "top", "I", false)
def tyWo : Nat → FieldType := fun k => match k with
  | 0 => .object "RunProver$Gates"
  | 1 => .array .int
  | 2 => .array .int
  | 3 => .array .int
  | 4 => .array .int
  | 5 => .int
  | _ => .int
theorem nmWo : ∀ a, a < 7 → ∀ b, b < 7 → a ≠ b → (TWo a).2.1 ≠ (TWo b).2.1 := by decide +kernel
theorem tyWo_ok : ∀ k, k < 7 → parseFieldDescriptor (TWo k).2.2.1 = some (tyWo k) := by decide +kernel
def TCl : u_T := fun k => match k with
  | 0 => ("RunProver$Clauses", "literals", "[I", true)
  | 1 => ("RunProver$Clauses", "starts", "[I", true)
  | 2 => ("RunProver$Clauses", "amount", "I", false)
  | _ => ("RunProver$Clauses", "given", "I", false)
def tyCl : Nat → FieldType := fun k => match k with
  | 0 => .array .int
  | 1 => .array .int
  | 2 => .int
  | _ => .int
theorem nmCl : ∀ a, a < 4 → ∀ b, b < 4 → a ≠ b → (TCl a).2.1 ≠ (TCl b).2.1 := by decide +kernel
theorem tyCl_ok : ∀ k, k < 4 → parseFieldDescriptor (TCl k).2.2.1 = some (tyCl k) := by decide +kernel
def TCk : u_T := fun k => match k with
  | 0 => ("RunProver$Checker", "clauses", "LRunProver$Clauses;", true)
  | 1 => ("RunProver$Checker", "truth", "[B", true)
  | 2 => ("RunProver$Checker", "assumed", "[I", true)
  | 3 => ("RunProver$Checker", "assumedCount", "I", false)
  | 4 => ("RunProver$Checker", "refusedOne", "Z", false)
  | _ => ("RunProver$Checker", "refuted", "Z", false)
def tyCk : Nat → FieldType := fun k => match k with
  | 0 => .object "RunProver$Clauses"
  | 1 => .array .byte
  | 2 => .array .int
  | 3 => .int
  | 4 => .boolean
  | _ => .boolean
theorem nmCk : ∀ a, a < 6 → ∀ b, b < 6 → a ≠ b → (TCk a).2.1 ≠ (TCk b).2.1 := by decide +kernel
theorem tyCk_ok : ∀ k, k < 6 → parseFieldDescriptor (TCk k).2.2.1 = some (tyCk k) := by decide +kernel
def TSe : u_T := fun k => match k with
  | 0 => ("RunProver$Search", "clauses", "LRunProver$Clauses;", true)
  | 1 => ("RunProver$Search", "checker", "LRunProver$Checker;", true)
  | 2 => ("RunProver$Search", "watched", "[I", true)
  | 3 => ("RunProver$Search", "nextWatch", "[I", true)
  | 4 => ("RunProver$Search", "firstWatch", "[I", true)
  | 5 => ("RunProver$Search", "truth", "[B", true)
  | 6 => ("RunProver$Search", "level", "[B", true)
  | 7 => ("RunProver$Search", "reason", "[I", true)
  | 8 => ("RunProver$Search", "trail", "[I", true)
  | 9 => ("RunProver$Search", "levelStart", "[I", true)
  | 10 => ("RunProver$Search", "seen", "[B", true)
  | 11 => ("RunProver$Search", "learnt", "[I", true)
  | 12 => ("RunProver$Search", "chain", "[I", true)
  | 13 => ("RunProver$Search", "trailSize", "I", false)
  | 14 => ("RunProver$Search", "done", "I", false)
  | 15 => ("RunProver$Search", "depth", "I", false)
  | 16 => ("RunProver$Search", "learntSize", "I", false)
  | 17 => ("RunProver$Search", "chainSize", "I", false)
  | 18 => ("RunProver$Search", "seenCount", "I", false)
  | 19 => ("RunProver$Search", "seenHere", "I", false)
  | _ => ("RunProver$Search", "decisionsAlone", "Z", false)
def tySe : Nat → FieldType := fun k => match k with
  | 0 => .object "RunProver$Clauses"
  | 1 => .object "RunProver$Checker"
  | 2 => .array .int
  | 3 => .array .int
  | 4 => .array .int
  | 5 => .array .byte
  | 6 => .array .byte
  | 7 => .array .int
  | 8 => .array .int
  | 9 => .array .int
  | 10 => .array .byte
  | 11 => .array .int
  | 12 => .array .int
  | 13 => .int
  | 14 => .int
  | 15 => .int
  | 16 => .int
  | 17 => .int
  | 18 => .int
  | 19 => .int
  | _ => .boolean
theorem nmSe : ∀ a, a < 21 → ∀ b, b < 21 → a ≠ b → (TSe a).2.1 ≠ (TSe b).2.1 := by decide +kernel
theorem tySe_ok : ∀ k, k < 21 → parseFieldDescriptor (TSe k).2.2.1 = some (tySe k) := by decide +kernel
def TMo : u_T := fun k => match k with
  | 0 => ("RunProverModel", "tape", "[B", true)
  | 1 => ("RunProverModel", "size", "I", false)
  | 2 => ("RunProverModel", "thrown", "I", false)
  | 3 => ("RunProverModel", "faultKind", "I", false)
  | 4 => ("RunProverModel", "faultPlace", "I", false)
  | 5 => ("RunProverModel", "there", "Z", false)
  | 6 => ("RunProverModel", "pos", "I", false)
  | 7 => ("RunProverModel", "token", "I", false)
  | 8 => ("RunProverModel", "tokenAt", "I", false)
  | 9 => ("RunProverModel", "tokenEnd", "I", false)
  | 10 => ("RunProverModel", "tokens", "I", false)
  | 11 => ("RunProverModel", "seen", "Z", false)
  | 12 => ("RunProverModel", "wordAt", "[I", true)
  | 13 => ("RunProverModel", "wordSize", "[I", true)
  | 14 => ("RunProverModel", "nameKind", "[I", true)
  | 15 => ("RunProverModel", "nameNumber", "[I", true)
  | 16 => ("RunProverModel", "names", "I", false)
  | 17 => ("RunProverModel", "declared", "I", false)
  | 18 => ("RunProverModel", "width", "I", false)
  | 19 => ("RunProverModel", "elements", "[I", true)
  | 20 => ("RunProverModel", "cellAt", "[I", true)
  | 21 => ("RunProverModel", "things", "I", false)
  | 22 => ("RunProverModel", "cells", "I", false)
  | 23 => ("RunProverModel", "parameters", "[I", true)
  | 24 => ("RunProverModel", "body", "[I", true)
  | 25 => ("RunProverModel", "functions", "I", false)
  | 26 => ("RunProverModel", "sort", "[I", true)
  | 27 => ("RunProverModel", "of", "[I", true)
  | 28 => ("RunProverModel", "kid", "[I", true)
  | 29 => ("RunProverModel", "beside", "[I", true)
  | 30 => ("RunProverModel", "by", "[I", true)
  | 31 => ("RunProverModel", "deep", "[I", true)
  | 32 => ("RunProverModel", "cost", "[I", true)
  | 33 => ("RunProverModel", "nodes", "I", false)
  | 34 => ("RunProverModel", "deepest", "I", false)
  | 35 => ("RunProverModel", "inFunction", "Z", false)
  | 36 => ("RunProverModel", "checks", "I", false)
  | 37 => ("RunProverModel", "program", "I", false)
  | 38 => ("RunProverModel", "bits", "I", false)
  | 39 => ("RunProverModel", "inputs", "I", false)
  | 40 => ("RunProverModel", "checkKind", "[I", true)
  | 41 => ("RunProverModel", "checkAt", "[I", true)
  | 42 => ("RunProverModel", "taken", "[I", true)
  | 43 => ("RunProverModel", "takenBits", "[I", true)
  | 44 => ("RunProverModel", "limitOf", "[I", true)
  | 45 => ("RunProverModel", "bitsOf", "[I", true)
  | 46 => ("RunProverModel", "in", "[I", true)
  | 47 => ("RunProverModel", "read", "[Z", true)
  | 48 => ("RunProverModel", "cell", "[I", true)
  | 49 => ("RunProverModel", "given", "[I", true)
  | 50 => ("RunProverModel", "top", "I", false)
  | 51 => ("RunProverModel", "base", "I", false)
  | 52 => ("RunProverModel", "over", "I", false)
  | 53 => ("RunProverModel", "broken", "I", false)
  | 54 => ("RunProverModel", "came", "[Z", true)
  | _ => ("RunProverModel", "before", "[I", true)
def tyMo : Nat → FieldType := fun k => match k with
  | 0 => .array .byte
  | 1 => .int
  | 2 => .int
  | 3 => .int
  | 4 => .int
  | 5 => .boolean
  | 6 => .int
  | 7 => .int
  | 8 => .int
  | 9 => .int
  | 10 => .int
  | 11 => .boolean
  | 12 => .array .int
  | 13 => .array .int
  | 14 => .array .int
  | 15 => .array .int
  | 16 => .int
  | 17 => .int
  | 18 => .int
  | 19 => .array .int
  | 20 => .array .int
  | 21 => .int
  | 22 => .int
  | 23 => .array .int
  | 24 => .array .int
  | 25 => .int
  | 26 => .array .int
  | 27 => .array .int
  | 28 => .array .int
  | 29 => .array .int
  | 30 => .array .int
  | 31 => .array .int
  | 32 => .array .int
  | 33 => .int
  | 34 => .int
  | 35 => .boolean
  | 36 => .int
  | 37 => .int
  | 38 => .int
  | 39 => .int
  | 40 => .array .int
  | 41 => .array .int
  | 42 => .array .int
  | 43 => .array .int
  | 44 => .array .int
  | 45 => .array .int
  | 46 => .array .int
  | 47 => .array .boolean
  | 48 => .array .int
  | 49 => .array .int
  | 50 => .int
  | 51 => .int
  | 52 => .int
  | 53 => .int
  | 54 => .array .boolean
  | _ => .array .int
theorem nmMo : ∀ a, a < 56 → ∀ b, b < 56 → a ≠ b → (TMo a).2.1 ≠ (TMo b).2.1 := by decide +kernel
theorem tyMo_ok : ∀ k, k < 56 → parseFieldDescriptor (TMo k).2.2.1 = some (tyMo k) := by decide +kernel
def TWr : u_T := fun k => match k with
  | 0 => ("java/lang/Throwable", "cause", "Ljava/lang/Throwable;", false)
  | 1 => ("java/lang/Throwable", "stackTrace", "[Ljava/lang/StackTraceElement;", false)
  | 2 => ("java/lang/Throwable", "suppressedExceptions", "Ljava/util/List;", false)
  | 3 => ("java/lang/Throwable", "detailMessage", "Ljava/lang/String;", false)
  | 4 => ("java/lang/Throwable", "backtrace", "Ljava/lang/Object;", false)
  | 5 => ("RunProverModel$Wrong", "kind", "I", true)
  | 6 => ("RunProverModel$Wrong", "place", "I", true)
  | _ => ("java/lang/Throwable", "depth", "I", false)
def tyWr : Nat → FieldType := fun k => match k with
  | 0 => .object "java/lang/Throwable"
  | 1 => .array (.object "java/lang/StackTraceElement")
  | 2 => .object "java/util/List"
  | 3 => .object "java/lang/String"
  | 4 => .object "java/lang/Object"
  | 5 => .int
  | 6 => .int
  | _ => .int
theorem nmWr : ∀ a, a < 8 → ∀ b, b < 8 → a ≠ b → (TWr a).2.1 ≠ (TWr b).2.1 := by decide +kernel
theorem tyWr_ok : ∀ k, k < 8 → parseFieldDescriptor (TWr k).2.2.1 = some (tyWr k) := by decide +kernel
abbrev vwCl : List vw_C := [("RunProver", TRp, 16), ("RunProver$Program", TPg, 17), ("RunProver$Parser", TPa, 5), ("RunProver$Names", TNm, 5), ("RunProver$Tokens", TTk, 12), ("RunProver$Expressions", TEx, 9), ("RunProver$Gates", TGa, 9), ("RunProver$Unroller", TUn, 14), ("RunProver$Words", TWo, 7), ("RunProver$Clauses", TCl, 4), ("RunProver$Checker", TCk, 6), ("RunProver$Search", TSe, 21), ("RunProverModel", TMo, 56), ("RunProverModel$Wrong", TWr, 8)]
abbrev cRp_init : ByteArray := prog_1_method_1_code
def yRp_init : MethodName := ⟨"RunProver", "<init>", "()V"⟩
abbrev cPg_init : ByteArray := prog_8_method_1_code
def yPg_init : MethodName := ⟨"RunProver$Program", "<init>", "()V"⟩
abbrev cPa_init : ByteArray := prog_7_method_1_code
def yPa_init : MethodName := ⟨"RunProver$Parser", "<init>", "(LRunProver$Program;[B)V"⟩
abbrev cNm_init : ByteArray := prog_6_method_1_code
def yNm_init : MethodName := ⟨"RunProver$Names", "<init>", "()V"⟩
abbrev cTk_init : ByteArray := prog_10_method_1_code
def yTk_init : MethodName := ⟨"RunProver$Tokens", "<init>", "([B)V"⟩
abbrev cEx_init : ByteArray := prog_4_method_1_code
def yEx_init : MethodName := ⟨"RunProver$Expressions", "<init>", "(LRunProver$Tokens;LRunProver$Names;LRunProver$Program;)V"⟩
abbrev cGa_init : ByteArray := prog_5_method_1_code
def yGa_init : MethodName := ⟨"RunProver$Gates", "<init>", "()V"⟩
abbrev cUn_init : ByteArray := prog_11_method_1_code
def yUn_init : MethodName := ⟨"RunProver$Unroller", "<init>", "(LRunProver$Program;LRunProver$Gates;)V"⟩
abbrev cWo_init : ByteArray := prog_12_method_1_code
def yWo_init : MethodName := ⟨"RunProver$Words", "<init>", "(LRunProver$Gates;)V"⟩
abbrev cCl_init : ByteArray := prog_3_method_1_code
def yCl_init : MethodName := ⟨"RunProver$Clauses", "<init>", "()V"⟩
abbrev cCk_init : ByteArray := prog_2_method_1_code
def yCk_init : MethodName := ⟨"RunProver$Checker", "<init>", "(LRunProver$Clauses;)V"⟩
abbrev cSe_init : ByteArray := prog_9_method_1_code
def ySe_init : MethodName := ⟨"RunProver$Search", "<init>", "(LRunProver$Clauses;LRunProver$Checker;)V"⟩
abbrev cMo_init : ByteArray := prog_14_method_1_code
def yMo_init : MethodName := ⟨"RunProverModel", "<init>", "()V"⟩
abbrev cRp_read : ByteArray := prog_1_method_5_code
def yRp_read : MethodName := ⟨"RunProver", "read", "()I"⟩
abbrev cAr_fill : ByteArray := prog_30_method_103_code
def yAr_fill : MethodName := ⟨"java/util/Arrays", "fill", "([II)V"⟩
abbrev cPa_parse : ByteArray := prog_7_method_2_code
def yPa_parse : MethodName := ⟨"RunProver$Parser", "parse", "(I)V"⟩
abbrev cPg_clear : ByteArray := prog_8_method_2_code
def yPg_clear : MethodName := ⟨"RunProver$Program", "clear", "()V"⟩
abbrev cEx_begin : ByteArray := prog_4_method_2_code
def yEx_begin : MethodName := ⟨"RunProver$Expressions", "begin", "()V"⟩
abbrev cTk_begin : ByteArray := prog_10_method_2_code
def yTk_begin : MethodName := ⟨"RunProver$Tokens", "begin", "(I)V"⟩
abbrev cTk_behindBlanks : ByteArray := prog_10_method_10_code
def yTk_behindBlanks : MethodName := ⟨"RunProver$Tokens", "behindBlanks", "(I)I"⟩
abbrev cTk_advance : ByteArray := prog_10_method_3_code
def yTk_advance : MethodName := ⟨"RunProver$Tokens", "advance", "()V"⟩
abbrev cTk_take : ByteArray := prog_10_method_7_code
def yTk_take : MethodName := ⟨"RunProver$Tokens", "take", "(I)V"⟩
abbrev cTk_misfit : ByteArray := prog_10_method_6_code
def yTk_misfit : MethodName := ⟨"RunProver$Tokens", "misfit", "()I"⟩
abbrev cTk_fail : ByteArray := prog_10_method_4_code
def yTk_fail : MethodName := ⟨"RunProver$Tokens", "fail", "(II)V"⟩
abbrev cTk_takeNumber : ByteArray := prog_10_method_8_code
def yTk_takeNumber : MethodName := ⟨"RunProver$Tokens", "takeNumber", "(II)I"⟩
abbrev cPa_declarations : ByteArray := prog_7_method_3_code
def yPa_declarations : MethodName := ⟨"RunProver$Parser", "declarations", "()V"⟩
abbrev cPa_statements : ByteArray := prog_7_method_7_code
def yPa_statements : MethodName := ⟨"RunProver$Parser", "statements", "(I)I"⟩
abbrev cTk_tooDeep : ByteArray := prog_10_method_9_code
def yTk_tooDeep : MethodName := ⟨"RunProver$Tokens", "tooDeep", "(I)Z"⟩
abbrev cPa_goesOn : ByteArray := prog_7_method_8_code
def yPa_goesOn : MethodName := ⟨"RunProver$Parser", "goesOn", "()Z"⟩
abbrev cTk_refuse : ByteArray := prog_10_method_5_code
def yTk_refuse : MethodName := ⟨"RunProver$Tokens", "refuse", "()V"⟩
abbrev cUn_begin : ByteArray := prog_11_method_2_code
def yUn_begin : MethodName := ⟨"RunProver$Unroller", "begin", "()V"⟩
abbrev cGa_clear : ByteArray := prog_5_method_2_code
def yGa_clear : MethodName := ⟨"RunProver$Gates", "clear", "()V"⟩
abbrev cWo_begin : ByteArray := prog_12_method_2_code
def yWo_begin : MethodName := ⟨"RunProver$Words", "begin", "(I)V"⟩
abbrev cAr_fill2 : ByteArray := prog_30_method_104_code
def yAr_fill2 : MethodName := ⟨"java/util/Arrays", "fill", "([IIII)V"⟩
abbrev cAr_rangeCheck : ByteArray := prog_30_method_30_code
def yAr_rangeCheck : MethodName := ⟨"java/util/Arrays", "rangeCheck", "(III)V"⟩
abbrev cUn_walk : ByteArray := prog_11_method_3_code
def yUn_walk : MethodName := ⟨"RunProver$Unroller", "walk", "(II)V"⟩
abbrev cRp_prove : ByteArray := prog_1_method_7_code
def yRp_prove : MethodName := ⟨"RunProver", "prove", "()I"⟩
abbrev cRp_run : ByteArray := prog_1_method_14_code
def yRp_run : MethodName := ⟨"RunProver", "run", "()I"⟩
abbrev cRp_doubts : ByteArray := prog_1_method_16_code
def yRp_doubts : MethodName := ⟨"RunProver", "doubts", "()I"⟩
abbrev cRp_feed : ByteArray := prog_1_method_2_code
def yRp_feed : MethodName := ⟨"RunProver", "feed", "(IIIII)I"⟩
abbrev cRp_store : ByteArray := prog_1_method_3_code
def yRp_store : MethodName := ⟨"RunProver", "store", "(I)V"⟩
def wa0 : List Cond := [.methodLink "RunProver" 1 objectInit, .instanceMethod objectInit, .code objectInit ⟨#[0xb1]⟩ 1 none, .constant "RunProver" 9 65536, .arrayClass .byte, .fieldLink "RunProver" 10 "RunProver" "tape" "[B", .classLink "RunProver" 14 "RunProver$Program", .instantiable "RunProver$Program" 17, .initialized "RunProver$Program", .methodLink "RunProver$Program" 1 objectInit, .arrayClass .int, .fieldLink "RunProver$Program" 9 "RunProver$Program" "rows" "[I", .fieldLink "RunProver$Program" 15 "RunProver$Program" "functions" "[I", .fieldLink "RunProver$Program" 20 "RunProver$Program" "codes" "[I", .fieldLink "RunProver$Program" 23 "RunProver$Program" "operands" "[I", .fieldLink "RunProver$Program" 26 "RunProver$Program" "slotFirst" "[I", .fieldLink "RunProver$Program" 29 "RunProver$Program" "slotSize" "[I", .fieldLink "RunProver$Program" 32 "RunProver$Program" "checkKinds" "[I", .fieldLink "RunProver$Program" 35 "RunProver$Program" "checkPlaces" "[I", .fieldLink "RunProver$Program" 38 "RunProver$Program" "first" "I", .code yPg_init cPg_init 1 none, .methodLink "RunProver" 16 yPg_init, .instanceMethod yPg_init, .fieldLink "RunProver" 17 "RunProver" "program" "LRunProver$Program;", .classLink "RunProver" 21 "RunProver$Parser", .instantiable "RunProver$Parser" 5, .initialized "RunProver$Parser", .methodLink "RunProver$Parser" 1 objectInit, .classLink "RunProver$Parser" 7 "RunProver$Names", .instantiable "RunProver$Names" 5, .initialized "RunProver$Names", .methodLink "RunProver$Names" 1 objectInit, .fieldLink "RunProver$Names" 9 "RunProver$Names" "places" "[I", .fieldLink "RunProver$Names" 13 "RunProver$Names" "sizes" "[I", .fieldLink "RunProver$Names" 16 "RunProver$Names" "kinds" "[I", .fieldLink "RunProver$Names" 19 "RunProver$Names" "numbers" "[I", .code yNm_init cNm_init 1 none, .methodLink "RunProver$Parser" 9 yNm_init, .instanceMethod yNm_init, .fieldLink "RunProver$Parser" 10 "RunProver$Parser" "names" "LRunProver$Names;"]
def wa1 : List Cond := [.fieldLink "RunProver$Parser" 16 "RunProver$Parser" "program" "LRunProver$Program;", .classLink "RunProver$Parser" 20 "RunProver$Tokens", .instantiable "RunProver$Tokens" 12, .initialized "RunProver$Tokens", .methodLink "RunProver$Tokens" 1 objectInit, .fieldLink "RunProver$Tokens" 9 "RunProver$Tokens" "kinds" "[I", .fieldLink "RunProver$Tokens" 13 "RunProver$Tokens" "places" "[I", .fieldLink "RunProver$Tokens" 16 "RunProver$Tokens" "details" "[I", .fieldLink "RunProver$Tokens" 19 "RunProver$Tokens" "text" "[B", .code yTk_init cTk_init 2 none, .methodLink "RunProver$Parser" 22 yTk_init, .instanceMethod yTk_init, .fieldLink "RunProver$Parser" 25 "RunProver$Parser" "tokens" "LRunProver$Tokens;", .classLink "RunProver$Parser" 29 "RunProver$Expressions", .instantiable "RunProver$Expressions" 9, .initialized "RunProver$Expressions", .methodLink "RunProver$Expressions" 3 objectInit, .fieldLink "RunProver$Expressions" 11 "RunProver$Expressions" "waiting" "[I", .fieldLink "RunProver$Expressions" 15 "RunProver$Expressions" "waitingDepth" "[I", .fieldLink "RunProver$Expressions" 18 "RunProver$Expressions" "tokens" "LRunProver$Tokens;", .fieldLink "RunProver$Expressions" 22 "RunProver$Expressions" "names" "LRunProver$Names;", .fieldLink "RunProver$Expressions" 26 "RunProver$Expressions" "program" "LRunProver$Program;", .code yEx_init cEx_init 4 none, .methodLink "RunProver$Parser" 31 yEx_init, .instanceMethod yEx_init, .fieldLink "RunProver$Parser" 34 "RunProver$Parser" "expressions" "LRunProver$Expressions;", .code yPa_init cPa_init 3 none, .methodLink "RunProver" 23 yPa_init, .instanceMethod yPa_init, .fieldLink "RunProver" 26 "RunProver" "parser" "LRunProver$Parser;", .classLink "RunProver" 30 "RunProver$Gates", .instantiable "RunProver$Gates" 9, .initialized "RunProver$Gates", .methodLink "RunProver$Gates" 1 objectInit, .constant "RunProver$Gates" 9 32768, .fieldLink "RunProver$Gates" 10 "RunProver$Gates" "kinds" "[B", .fieldLink "RunProver$Gates" 14 "RunProver$Gates" "first" "[I", .fieldLink "RunProver$Gates" 18 "RunProver$Gates" "second" "[I", .fieldLink "RunProver$Gates" 21 "RunProver$Gates" "third" "[I", .fieldLink "RunProver$Gates" 24 "RunProver$Gates" "truth" "[B"]
def wa2 : List Cond := [.fieldLink "RunProver$Gates" 27 "RunProver$Gates" "wanted" "[B", .constant "RunProver$Gates" 30 65536, .fieldLink "RunProver$Gates" 31 "RunProver$Gates" "table" "[I", .fieldLink "RunProver$Gates" 34 "RunProver$Gates" "behind" "[I", .fieldLink "RunProver$Gates" 37 "RunProver$Gates" "size" "I", .code yGa_init cGa_init 1 none, .methodLink "RunProver" 32 yGa_init, .instanceMethod yGa_init, .fieldLink "RunProver" 33 "RunProver" "gates" "LRunProver$Gates;", .classLink "RunProver" 37 "RunProver$Unroller", .instantiable "RunProver$Unroller" 14, .initialized "RunProver$Unroller", .methodLink "RunProver$Unroller" 1 objectInit, .fieldLink "RunProver$Unroller" 9 "RunProver$Unroller" "callAt" "[I", .fieldLink "RunProver$Unroller" 13 "RunProver$Unroller" "callStop" "[I", .fieldLink "RunProver$Unroller" 16 "RunProver$Unroller" "callFrame" "[I", .fieldLink "RunProver$Unroller" 25 "RunProver$Unroller" "cells" "[I", .fieldLink "RunProver$Unroller" 28 "RunProver$Unroller" "broken" "[I", .fieldLink "RunProver$Unroller" 31 "RunProver$Unroller" "reached" "[I", .fieldLink "RunProver$Unroller" 34 "RunProver$Unroller" "inputSizes" "[I", .fieldLink "RunProver$Unroller" 37 "RunProver$Unroller" "bitNodes" "[I", .fieldLink "RunProver$Unroller" 40 "RunProver$Unroller" "program" "LRunProver$Program;", .fieldLink "RunProver$Unroller" 44 "RunProver$Unroller" "gates" "LRunProver$Gates;", .classLink "RunProver$Unroller" 23 "RunProver$Words", .instantiable "RunProver$Words" 7, .initialized "RunProver$Words", .methodLink "RunProver$Words" 1 objectInit, .fieldLink "RunProver$Words" 9 "RunProver$Words" "rows" "[I", .fieldLink "RunProver$Words" 13 "RunProver$Words" "result" "[I", .fieldLink "RunProver$Words" 16 "RunProver$Words" "difference" "[I", .fieldLink "RunProver$Words" 21 "RunProver$Words" "tree" "[I", .fieldLink "RunProver$Words" 24 "RunProver$Words" "gates" "LRunProver$Gates;", .code yWo_init cWo_init 2 none, .methodLink "RunProver$Unroller" 48 yWo_init, .instanceMethod yWo_init, .fieldLink "RunProver$Unroller" 51 "RunProver$Unroller" "words" "LRunProver$Words;", .code yUn_init cUn_init 3 none, .methodLink "RunProver" 39 yUn_init, .instanceMethod yUn_init, .fieldLink "RunProver" 42 "RunProver" "unroller" "LRunProver$Unroller;"]
def wa3 : List Cond := [.classLink "RunProver" 46 "RunProver$Clauses", .instantiable "RunProver$Clauses" 4, .initialized "RunProver$Clauses", .methodLink "RunProver$Clauses" 5 objectInit, .constant "RunProver$Clauses" 11 390324, .fieldLink "RunProver$Clauses" 12 "RunProver$Clauses" "literals" "[I", .constant "RunProver$Clauses" 16 98293, .fieldLink "RunProver$Clauses" 17 "RunProver$Clauses" "starts" "[I", .code yCl_init cCl_init 1 none, .methodLink "RunProver" 48 yCl_init, .instanceMethod yCl_init, .fieldLink "RunProver" 49 "RunProver" "clauses" "LRunProver$Clauses;", .classLink "RunProver" 53 "RunProver$Checker", .instantiable "RunProver$Checker" 6, .initialized "RunProver$Checker", .methodLink "RunProver$Checker" 1 objectInit, .constant "RunProver$Checker" 9 65536, .fieldLink "RunProver$Checker" 10 "RunProver$Checker" "truth" "[B", .constant "RunProver$Checker" 16 32768, .fieldLink "RunProver$Checker" 17 "RunProver$Checker" "assumed" "[I", .fieldLink "RunProver$Checker" 21 "RunProver$Checker" "clauses" "LRunProver$Clauses;", .code yCk_init cCk_init 2 none, .methodLink "RunProver" 55 yCk_init, .instanceMethod yCk_init, .fieldLink "RunProver" 58 "RunProver" "checker" "LRunProver$Checker;", .classLink "RunProver" 62 "RunProver$Search", .instantiable "RunProver$Search" 21, .initialized "RunProver$Search", .methodLink "RunProver$Search" 1 objectInit, .constant "RunProver$Search" 9 196584, .fieldLink "RunProver$Search" 10 "RunProver$Search" "watched" "[I", .fieldLink "RunProver$Search" 16 "RunProver$Search" "nextWatch" "[I", .constant "RunProver$Search" 21 65536, .fieldLink "RunProver$Search" 22 "RunProver$Search" "firstWatch" "[I", .fieldLink "RunProver$Search" 25 "RunProver$Search" "truth" "[B", .constant "RunProver$Search" 29 32768, .fieldLink "RunProver$Search" 30 "RunProver$Search" "level" "[B", .fieldLink "RunProver$Search" 33 "RunProver$Search" "reason" "[I", .fieldLink "RunProver$Search" 36 "RunProver$Search" "trail" "[I", .fieldLink "RunProver$Search" 41 "RunProver$Search" "levelStart" "[I"]
def wa4 : List Cond := [.fieldLink "RunProver$Search" 44 "RunProver$Search" "seen" "[B", .fieldLink "RunProver$Search" 47 "RunProver$Search" "learnt" "[I", .constant "RunProver$Search" 50 32769, .fieldLink "RunProver$Search" 51 "RunProver$Search" "chain" "[I", .fieldLink "RunProver$Search" 54 "RunProver$Search" "clauses" "LRunProver$Clauses;", .fieldLink "RunProver$Search" 58 "RunProver$Search" "checker" "LRunProver$Checker;", .code ySe_init cSe_init 3 none, .methodLink "RunProver" 64 ySe_init, .instanceMethod ySe_init, .fieldLink "RunProver" 67 "RunProver" "search" "LRunProver$Search;", .fieldLink "RunProver" 71 "RunProver" "inputs" "[I", .fieldLink "RunProver" 75 "RunProver" "goals" "[I", .methodLink "RunProverModel" 1 objectInit, .constant "RunProverModel" 7 65536, .fieldLink "RunProverModel" 8 "RunProverModel" "tape" "[B", .fieldLink "RunProverModel" 14 "RunProverModel" "size" "I", .fieldLink "RunProverModel" 18 "RunProverModel" "thrown" "I", .fieldLink "RunProverModel" 21 "RunProverModel" "faultKind" "I", .fieldLink "RunProverModel" 24 "RunProverModel" "faultPlace" "I", .fieldLink "RunProverModel" 27 "RunProverModel" "there" "Z", .fieldLink "RunProverModel" 31 "RunProverModel" "pos" "I", .fieldLink "RunProverModel" 34 "RunProverModel" "token" "I", .fieldLink "RunProverModel" 37 "RunProverModel" "tokenAt" "I", .fieldLink "RunProverModel" 40 "RunProverModel" "tokenEnd" "I", .fieldLink "RunProverModel" 43 "RunProverModel" "tokens" "I", .fieldLink "RunProverModel" 46 "RunProverModel" "seen" "Z", .fieldLink "RunProverModel" 49 "RunProverModel" "wordAt" "[I", .fieldLink "RunProverModel" 53 "RunProverModel" "wordSize" "[I", .fieldLink "RunProverModel" 56 "RunProverModel" "nameKind" "[I", .fieldLink "RunProverModel" 59 "RunProverModel" "nameNumber" "[I", .fieldLink "RunProverModel" 62 "RunProverModel" "names" "I", .fieldLink "RunProverModel" 65 "RunProverModel" "declared" "I", .fieldLink "RunProverModel" 68 "RunProverModel" "width" "I", .fieldLink "RunProverModel" 71 "RunProverModel" "elements" "[I", .fieldLink "RunProverModel" 74 "RunProverModel" "cellAt" "[I", .fieldLink "RunProverModel" 77 "RunProverModel" "things" "I", .fieldLink "RunProverModel" 80 "RunProverModel" "cells" "I", .fieldLink "RunProverModel" 83 "RunProverModel" "parameters" "[I", .fieldLink "RunProverModel" 86 "RunProverModel" "body" "[I", .fieldLink "RunProverModel" 89 "RunProverModel" "functions" "I"]
def wa5 : List Cond := [.fieldLink "RunProverModel" 92 "RunProverModel" "sort" "[I", .fieldLink "RunProverModel" 95 "RunProverModel" "of" "[I", .fieldLink "RunProverModel" 98 "RunProverModel" "kid" "[I", .fieldLink "RunProverModel" 101 "RunProverModel" "beside" "[I", .fieldLink "RunProverModel" 104 "RunProverModel" "by" "[I", .fieldLink "RunProverModel" 107 "RunProverModel" "deep" "[I", .fieldLink "RunProverModel" 110 "RunProverModel" "cost" "[I", .fieldLink "RunProverModel" 113 "RunProverModel" "nodes" "I", .fieldLink "RunProverModel" 116 "RunProverModel" "deepest" "I", .fieldLink "RunProverModel" 119 "RunProverModel" "inFunction" "Z", .fieldLink "RunProverModel" 122 "RunProverModel" "checks" "I", .fieldLink "RunProverModel" 125 "RunProverModel" "program" "I", .fieldLink "RunProverModel" 128 "RunProverModel" "bits" "I", .fieldLink "RunProverModel" 131 "RunProverModel" "inputs" "I", .fieldLink "RunProverModel" 134 "RunProverModel" "checkKind" "[I", .fieldLink "RunProverModel" 137 "RunProverModel" "checkAt" "[I", .fieldLink "RunProverModel" 140 "RunProverModel" "taken" "[I", .fieldLink "RunProverModel" 143 "RunProverModel" "takenBits" "[I", .fieldLink "RunProverModel" 146 "RunProverModel" "limitOf" "[I", .fieldLink "RunProverModel" 149 "RunProverModel" "bitsOf" "[I", .fieldLink "RunProverModel" 152 "RunProverModel" "in" "[I", .arrayClass .boolean, .fieldLink "RunProverModel" 155 "RunProverModel" "read" "[Z", .fieldLink "RunProverModel" 159 "RunProverModel" "cell" "[I", .fieldLink "RunProverModel" 162 "RunProverModel" "given" "[I", .fieldLink "RunProverModel" 165 "RunProverModel" "top" "I", .fieldLink "RunProverModel" 168 "RunProverModel" "base" "I", .fieldLink "RunProverModel" 171 "RunProverModel" "over" "I", .fieldLink "RunProverModel" 174 "RunProverModel" "broken" "I", .fieldLink "RunProverModel" 177 "RunProverModel" "came" "[Z", .fieldLink "RunProverModel" 180 "RunProverModel" "before" "[I", .laysFinal "RunProver" "RunProver" "tape" "[B", .laysFinal "RunProver" "RunProver" "program" "LRunProver$Program;", .laysFinal "RunProver" "RunProver" "parser" "LRunProver$Parser;", .laysFinal "RunProver" "RunProver" "gates" "LRunProver$Gates;", .laysFinal "RunProver" "RunProver" "unroller" "LRunProver$Unroller;", .laysFinal "RunProver" "RunProver" "clauses" "LRunProver$Clauses;", .laysFinal "RunProver" "RunProver" "checker" "LRunProver$Checker;", .laysFinal "RunProver" "RunProver" "search" "LRunProver$Search;", .laysFinal "RunProver" "RunProver" "inputs" "[I"]
def wa6 : List Cond := [.laysFinal "RunProver" "RunProver" "goals" "[I", .lays "RunProver" "RunProver" "goalCount" "I", .lays "RunProver" "RunProver" "tapeLength" "I", .lays "RunProver" "RunProver" "faultKind" "I", .lays "RunProver" "RunProver" "faultPlace" "I", .lays "RunProver" "RunProver" "hasText" "Z", .lays "RunProver" "RunProver" "unproved" "I", .laysFinal "RunProver$Program" "RunProver$Program" "rows" "[I", .laysFinal "RunProver$Program" "RunProver$Program" "functions" "[I", .laysFinal "RunProver$Program" "RunProver$Program" "codes" "[I", .laysFinal "RunProver$Program" "RunProver$Program" "operands" "[I", .laysFinal "RunProver$Program" "RunProver$Program" "slotFirst" "[I", .laysFinal "RunProver$Program" "RunProver$Program" "slotSize" "[I", .laysFinal "RunProver$Program" "RunProver$Program" "checkKinds" "[I", .laysFinal "RunProver$Program" "RunProver$Program" "checkPlaces" "[I", .lays "RunProver$Program" "RunProver$Program" "statements" "I", .lays "RunProver$Program" "RunProver$Program" "functionCount" "I", .lays "RunProver$Program" "RunProver$Program" "codeSize" "I", .lays "RunProver$Program" "RunProver$Program" "slots" "I", .lays "RunProver$Program" "RunProver$Program" "elements" "I", .lays "RunProver$Program" "RunProver$Program" "checks" "I", .lays "RunProver$Program" "RunProver$Program" "width" "I", .lays "RunProver$Program" "RunProver$Program" "costs" "I", .lays "RunProver$Program" "RunProver$Program" "first" "I", .laysFinal "RunProver$Parser" "RunProver$Parser" "tokens" "LRunProver$Tokens;", .laysFinal "RunProver$Parser" "RunProver$Parser" "names" "LRunProver$Names;", .laysFinal "RunProver$Parser" "RunProver$Parser" "program" "LRunProver$Program;", .laysFinal "RunProver$Parser" "RunProver$Parser" "expressions" "LRunProver$Expressions;", .lays "RunProver$Parser" "RunProver$Parser" "bits" "I", .laysFinal "RunProver$Names" "RunProver$Names" "places" "[I", .laysFinal "RunProver$Names" "RunProver$Names" "sizes" "[I", .laysFinal "RunProver$Names" "RunProver$Names" "kinds" "[I", .laysFinal "RunProver$Names" "RunProver$Names" "numbers" "[I", .lays "RunProver$Names" "RunProver$Names" "amount" "I", .laysFinal "RunProver$Tokens" "RunProver$Tokens" "kinds" "[I", .laysFinal "RunProver$Tokens" "RunProver$Tokens" "places" "[I", .laysFinal "RunProver$Tokens" "RunProver$Tokens" "details" "[I", .laysFinal "RunProver$Tokens" "RunProver$Tokens" "text" "[B", .lays "RunProver$Tokens" "RunProver$Tokens" "length" "I", .lays "RunProver$Tokens" "RunProver$Tokens" "amount" "I"]
def wa7 : List Cond := [.lays "RunProver$Tokens" "RunProver$Tokens" "at" "I", .lays "RunProver$Tokens" "RunProver$Tokens" "kind" "I", .lays "RunProver$Tokens" "RunProver$Tokens" "place" "I", .lays "RunProver$Tokens" "RunProver$Tokens" "detail" "I", .lays "RunProver$Tokens" "RunProver$Tokens" "faultKind" "I", .lays "RunProver$Tokens" "RunProver$Tokens" "faultPlace" "I", .laysFinal "RunProver$Expressions" "RunProver$Expressions" "tokens" "LRunProver$Tokens;", .laysFinal "RunProver$Expressions" "RunProver$Expressions" "names" "LRunProver$Names;", .laysFinal "RunProver$Expressions" "RunProver$Expressions" "program" "LRunProver$Program;", .laysFinal "RunProver$Expressions" "RunProver$Expressions" "waiting" "[I", .laysFinal "RunProver$Expressions" "RunProver$Expressions" "waitingDepth" "[I", .lays "RunProver$Expressions" "RunProver$Expressions" "waitingCount" "I", .lays "RunProver$Expressions" "RunProver$Expressions" "inFunction" "Z", .lays "RunProver$Expressions" "RunProver$Expressions" "cost" "I", .lays "RunProver$Expressions" "RunProver$Expressions" "deepest" "I", .laysFinal "RunProver$Gates" "RunProver$Gates" "kinds" "[B", .laysFinal "RunProver$Gates" "RunProver$Gates" "first" "[I", .laysFinal "RunProver$Gates" "RunProver$Gates" "second" "[I", .laysFinal "RunProver$Gates" "RunProver$Gates" "third" "[I", .laysFinal "RunProver$Gates" "RunProver$Gates" "truth" "[B", .laysFinal "RunProver$Gates" "RunProver$Gates" "wanted" "[B", .laysFinal "RunProver$Gates" "RunProver$Gates" "table" "[I", .laysFinal "RunProver$Gates" "RunProver$Gates" "behind" "[I", .lays "RunProver$Gates" "RunProver$Gates" "size" "I", .laysFinal "RunProver$Unroller" "RunProver$Unroller" "program" "LRunProver$Program;", .laysFinal "RunProver$Unroller" "RunProver$Unroller" "gates" "LRunProver$Gates;", .laysFinal "RunProver$Unroller" "RunProver$Unroller" "words" "LRunProver$Words;", .laysFinal "RunProver$Unroller" "RunProver$Unroller" "callAt" "[I", .laysFinal "RunProver$Unroller" "RunProver$Unroller" "callStop" "[I", .laysFinal "RunProver$Unroller" "RunProver$Unroller" "callFrame" "[I", .laysFinal "RunProver$Unroller" "RunProver$Unroller" "cells" "[I", .lays "RunProver$Unroller" "RunProver$Unroller" "on" "I", .laysFinal "RunProver$Unroller" "RunProver$Unroller" "broken" "[I", .laysFinal "RunProver$Unroller" "RunProver$Unroller" "reached" "[I", .laysFinal "RunProver$Unroller" "RunProver$Unroller" "inputSizes" "[I", .lays "RunProver$Unroller" "RunProver$Unroller" "inputCount" "I", .laysFinal "RunProver$Unroller" "RunProver$Unroller" "bitNodes" "[I", .lays "RunProver$Unroller" "RunProver$Unroller" "bitCount" "I", .laysFinal "RunProver$Words" "RunProver$Words" "gates" "LRunProver$Gates;", .laysFinal "RunProver$Words" "RunProver$Words" "rows" "[I"]
def wa8 : List Cond := [.laysFinal "RunProver$Words" "RunProver$Words" "result" "[I", .laysFinal "RunProver$Words" "RunProver$Words" "difference" "[I", .laysFinal "RunProver$Words" "RunProver$Words" "tree" "[I", .lays "RunProver$Words" "RunProver$Words" "width" "I", .lays "RunProver$Words" "RunProver$Words" "top" "I", .laysFinal "RunProver$Clauses" "RunProver$Clauses" "literals" "[I", .laysFinal "RunProver$Clauses" "RunProver$Clauses" "starts" "[I", .lays "RunProver$Clauses" "RunProver$Clauses" "amount" "I", .lays "RunProver$Clauses" "RunProver$Clauses" "given" "I", .laysFinal "RunProver$Checker" "RunProver$Checker" "clauses" "LRunProver$Clauses;", .laysFinal "RunProver$Checker" "RunProver$Checker" "truth" "[B", .laysFinal "RunProver$Checker" "RunProver$Checker" "assumed" "[I", .lays "RunProver$Checker" "RunProver$Checker" "assumedCount" "I", .lays "RunProver$Checker" "RunProver$Checker" "refusedOne" "Z", .lays "RunProver$Checker" "RunProver$Checker" "refuted" "Z", .laysFinal "RunProver$Search" "RunProver$Search" "clauses" "LRunProver$Clauses;", .laysFinal "RunProver$Search" "RunProver$Search" "checker" "LRunProver$Checker;", .laysFinal "RunProver$Search" "RunProver$Search" "watched" "[I", .laysFinal "RunProver$Search" "RunProver$Search" "nextWatch" "[I", .laysFinal "RunProver$Search" "RunProver$Search" "firstWatch" "[I", .laysFinal "RunProver$Search" "RunProver$Search" "truth" "[B", .laysFinal "RunProver$Search" "RunProver$Search" "level" "[B", .laysFinal "RunProver$Search" "RunProver$Search" "reason" "[I", .laysFinal "RunProver$Search" "RunProver$Search" "trail" "[I", .laysFinal "RunProver$Search" "RunProver$Search" "levelStart" "[I", .laysFinal "RunProver$Search" "RunProver$Search" "seen" "[B", .laysFinal "RunProver$Search" "RunProver$Search" "learnt" "[I", .laysFinal "RunProver$Search" "RunProver$Search" "chain" "[I", .lays "RunProver$Search" "RunProver$Search" "trailSize" "I", .lays "RunProver$Search" "RunProver$Search" "done" "I", .lays "RunProver$Search" "RunProver$Search" "depth" "I", .lays "RunProver$Search" "RunProver$Search" "learntSize" "I", .lays "RunProver$Search" "RunProver$Search" "chainSize" "I", .lays "RunProver$Search" "RunProver$Search" "seenCount" "I", .lays "RunProver$Search" "RunProver$Search" "seenHere" "I", .lays "RunProver$Search" "RunProver$Search" "decisionsAlone" "Z", .laysFinal "RunProverModel" "RunProverModel" "tape" "[B", .lays "RunProverModel" "RunProverModel" "size" "I", .lays "RunProverModel" "RunProverModel" "thrown" "I", .lays "RunProverModel" "RunProverModel" "faultKind" "I"]
def wa9 : List Cond := [.lays "RunProverModel" "RunProverModel" "faultPlace" "I", .lays "RunProverModel" "RunProverModel" "there" "Z", .lays "RunProverModel" "RunProverModel" "pos" "I", .lays "RunProverModel" "RunProverModel" "token" "I", .lays "RunProverModel" "RunProverModel" "tokenAt" "I", .lays "RunProverModel" "RunProverModel" "tokenEnd" "I", .lays "RunProverModel" "RunProverModel" "tokens" "I", .lays "RunProverModel" "RunProverModel" "seen" "Z", .laysFinal "RunProverModel" "RunProverModel" "wordAt" "[I", .laysFinal "RunProverModel" "RunProverModel" "wordSize" "[I", .laysFinal "RunProverModel" "RunProverModel" "nameKind" "[I", .laysFinal "RunProverModel" "RunProverModel" "nameNumber" "[I", .lays "RunProverModel" "RunProverModel" "names" "I", .lays "RunProverModel" "RunProverModel" "declared" "I", .lays "RunProverModel" "RunProverModel" "width" "I", .laysFinal "RunProverModel" "RunProverModel" "elements" "[I", .laysFinal "RunProverModel" "RunProverModel" "cellAt" "[I", .lays "RunProverModel" "RunProverModel" "things" "I", .lays "RunProverModel" "RunProverModel" "cells" "I", .laysFinal "RunProverModel" "RunProverModel" "parameters" "[I", .laysFinal "RunProverModel" "RunProverModel" "body" "[I", .lays "RunProverModel" "RunProverModel" "functions" "I", .laysFinal "RunProverModel" "RunProverModel" "sort" "[I", .laysFinal "RunProverModel" "RunProverModel" "of" "[I", .laysFinal "RunProverModel" "RunProverModel" "kid" "[I", .laysFinal "RunProverModel" "RunProverModel" "beside" "[I", .laysFinal "RunProverModel" "RunProverModel" "by" "[I", .laysFinal "RunProverModel" "RunProverModel" "deep" "[I", .laysFinal "RunProverModel" "RunProverModel" "cost" "[I", .lays "RunProverModel" "RunProverModel" "nodes" "I", .lays "RunProverModel" "RunProverModel" "deepest" "I", .lays "RunProverModel" "RunProverModel" "inFunction" "Z", .lays "RunProverModel" "RunProverModel" "checks" "I", .lays "RunProverModel" "RunProverModel" "program" "I", .lays "RunProverModel" "RunProverModel" "bits" "I", .lays "RunProverModel" "RunProverModel" "inputs" "I", .laysFinal "RunProverModel" "RunProverModel" "checkKind" "[I", .laysFinal "RunProverModel" "RunProverModel" "checkAt" "[I", .laysFinal "RunProverModel" "RunProverModel" "taken" "[I", .laysFinal "RunProverModel" "RunProverModel" "takenBits" "[I"]
def wa10 : List Cond := [.laysFinal "RunProverModel" "RunProverModel" "limitOf" "[I", .laysFinal "RunProverModel" "RunProverModel" "bitsOf" "[I", .laysFinal "RunProverModel" "RunProverModel" "in" "[I", .laysFinal "RunProverModel" "RunProverModel" "read" "[Z", .laysFinal "RunProverModel" "RunProverModel" "cell" "[I", .laysFinal "RunProverModel" "RunProverModel" "given" "[I", .lays "RunProverModel" "RunProverModel" "top" "I", .lays "RunProverModel" "RunProverModel" "base" "I", .lays "RunProverModel" "RunProverModel" "over" "I", .lays "RunProverModel" "RunProverModel" "broken" "I", .laysFinal "RunProverModel" "RunProverModel" "came" "[Z", .laysFinal "RunProverModel" "RunProverModel" "before" "[I", .code yAr_fill cAr_fill 4 none, .methodLink "RunProver" 99 yAr_fill, .static yAr_fill, .initialized "java/util/Arrays", .fieldLink "RunProver" 105 "RunProver" "unproved" "I", .fieldLink "RunProver" 78 "RunProver" "tapeLength" "I", .fieldLink "RunProver$Program" 42 "RunProver$Program" "statements" "I", .fieldLink "RunProver$Program" 45 "RunProver$Program" "functionCount" "I", .fieldLink "RunProver$Program" 48 "RunProver$Program" "codeSize" "I", .fieldLink "RunProver$Program" 51 "RunProver$Program" "slots" "I", .fieldLink "RunProver$Program" 54 "RunProver$Program" "elements" "I", .fieldLink "RunProver$Program" 57 "RunProver$Program" "checks" "I", .fieldLink "RunProver$Program" 60 "RunProver$Program" "width" "I", .fieldLink "RunProver$Program" 63 "RunProver$Program" "costs" "I", .code yPg_clear cPg_clear 1 none, .methodLink "RunProver$Parser" 38 yPg_clear, .instanceMethod yPg_clear, .selects "RunProver$Program" yPg_clear yPg_clear, .fieldLink "RunProver$Parser" 43 "RunProver$Names" "amount" "I", .fieldLink "RunProver$Expressions" 30 "RunProver$Expressions" "waitingCount" "I", .fieldLink "RunProver$Expressions" 34 "RunProver$Expressions" "inFunction" "Z", .fieldLink "RunProver$Expressions" 38 "RunProver$Expressions" "cost" "I", .fieldLink "RunProver$Expressions" 41 "RunProver$Expressions" "deepest" "I", .code yEx_begin cEx_begin 1 none, .methodLink "RunProver$Parser" 47 yEx_begin, .instanceMethod yEx_begin, .selects "RunProver$Expressions" yEx_begin yEx_begin, .fieldLink "RunProver$Parser" 50 "RunProver$Parser" "bits" "I"]
def wa11 : List Cond := [.methodLink "RunProver$Tokens" 23 Lib.Math.min.name, .static Lib.Math.min.name, .initialized "java/lang/Math", .code Lib.Math.min.name Lib.Math.min.code 2 (some .int), .fieldLink "RunProver$Tokens" 29 "RunProver$Tokens" "length" "I", .fieldLink "RunProver$Tokens" 33 "RunProver$Tokens" "amount" "I", .fieldLink "RunProver$Tokens" 36 "RunProver$Tokens" "faultKind" "I", .fieldLink "RunProver$Tokens" 39 "RunProver$Tokens" "faultPlace" "I", .code yTk_behindBlanks cTk_behindBlanks 5 (some .int), .methodLink "RunProver$Tokens" 42 yTk_behindBlanks, .instanceMethod yTk_behindBlanks, .selects "RunProver$Tokens" yTk_behindBlanks yTk_behindBlanks, .fieldLink "RunProver$Tokens" 49 "RunProver$Tokens" "at" "I", .fieldLink "RunProver$Tokens" 55 "RunProver$Tokens" "kind" "I", .fieldLink "RunProver$Tokens" 58 "RunProver$Tokens" "place" "I", .fieldLink "RunProver$Tokens" 61 "RunProver$Tokens" "detail" "I", .code yTk_advance cTk_advance 1 none, .methodLink "RunProver$Tokens" 52 yTk_advance, .instanceMethod yTk_advance, .selects "RunProver$Tokens" yTk_advance yTk_advance, .code yTk_begin cTk_begin 3 none, .methodLink "RunProver$Parser" 53 yTk_begin, .instanceMethod yTk_begin, .selects "RunProver$Tokens" yTk_begin yTk_begin, .code yTk_misfit cTk_misfit 1 (some .int), .methodLink "RunProver$Tokens" 64 yTk_misfit, .instanceMethod yTk_misfit, .selects "RunProver$Tokens" yTk_misfit yTk_misfit, .code yTk_fail cTk_fail 3 none, .methodLink "RunProver$Tokens" 68 yTk_fail, .instanceMethod yTk_fail, .selects "RunProver$Tokens" yTk_fail yTk_fail, .code yTk_take cTk_take 2 none, .methodLink "RunProver$Parser" 56 yTk_take, .instanceMethod yTk_take, .selects "RunProver$Tokens" yTk_take yTk_take, .code yTk_takeNumber cTk_takeNumber 4 (some .int), .methodLink "RunProver$Parser" 61 yTk_takeNumber, .instanceMethod yTk_takeNumber, .selects "RunProver$Tokens" yTk_takeNumber yTk_takeNumber]
def wa12 : List Cond := [.fieldLink "RunProver$Parser" 65 "RunProver$Program" "width" "I", .fieldLink "RunProver$Parser" 78 "RunProver$Tokens" "kind" "I", .code yPa_declarations cPa_declarations 2 none, .methodLink "RunProver$Parser" 68 yPa_declarations, .instanceMethod yPa_declarations, .selects "RunProver$Parser" yPa_declarations yPa_declarations, .code yTk_tooDeep cTk_tooDeep 2 (some .boolean), .methodLink "RunProver$Parser" 140 yTk_tooDeep, .instanceMethod yTk_tooDeep, .selects "RunProver$Tokens" yTk_tooDeep yTk_tooDeep, .code yPa_goesOn cPa_goesOn 1 (some .boolean), .methodLink "RunProver$Parser" 144 yPa_goesOn, .instanceMethod yPa_goesOn, .selects "RunProver$Parser" yPa_goesOn yPa_goesOn, .code yPa_statements cPa_statements 6 (some .int), .methodLink "RunProver$Parser" 71 yPa_statements, .instanceMethod yPa_statements, .selects "RunProver$Parser" yPa_statements yPa_statements, .fieldLink "RunProver$Parser" 75 "RunProver$Program" "first" "I", .code yTk_refuse cTk_refuse 1 none, .methodLink "RunProver$Parser" 81 yTk_refuse, .instanceMethod yTk_refuse, .selects "RunProver$Tokens" yTk_refuse yTk_refuse, .fieldLink "RunProver$Parser" 84 "RunProver$Expressions" "cost" "I", .fieldLink "RunProver$Parser" 87 "RunProver$Program" "costs" "I", .fieldLink "RunProver$Parser" 90 "RunProver$Expressions" "deepest" "I", .code yPa_parse cPa_parse 2 none, .methodLink "RunProver" 108 yPa_parse, .instanceMethod yPa_parse, .selects "RunProver$Parser" yPa_parse yPa_parse, .fieldLink "RunProver" 111 "RunProver$Parser" "tokens" "LRunProver$Tokens;", .fieldLink "RunProver" 115 "RunProver$Tokens" "faultKind" "I", .fieldLink "RunProver" 120 "RunProver" "faultKind" "I", .fieldLink "RunProver" 121 "RunProver$Tokens" "faultPlace" "I", .fieldLink "RunProver" 124 "RunProver" "faultPlace" "I", .fieldLink "RunProver" 125 "RunProver" "hasText" "Z", .methodLink "RunProver" 129 yPg_clear, .methodLink "RunProver$Gates" 41 yAr_fill, .code yGa_clear cGa_clear 1 none, .methodLink "RunProver$Unroller" 55 yGa_clear]
def wa13 : List Cond := [.instanceMethod yGa_clear, .selects "RunProver$Gates" yGa_clear yGa_clear, .fieldLink "RunProver$Unroller" 60 "RunProver$Program" "width" "I", .fieldLink "RunProver$Words" 28 "RunProver$Words" "width" "I", .fieldLink "RunProver$Words" 32 "RunProver$Words" "top" "I", .code yWo_begin cWo_begin 2 none, .methodLink "RunProver$Unroller" 64 yWo_begin, .instanceMethod yWo_begin, .selects "RunProver$Words" yWo_begin yWo_begin, .fieldLink "RunProver$Unroller" 68 "RunProver$Program" "elements" "I", .code yAr_rangeCheck cAr_rangeCheck 3 none, .methodLink "java/util/Arrays" 13 yAr_rangeCheck, .static yAr_rangeCheck, .code yAr_fill2 cAr_fill2 5 none, .methodLink "RunProver$Unroller" 71 yAr_fill2, .static yAr_fill2, .methodLink "RunProver$Unroller" 77 yAr_fill, .fieldLink "RunProver$Unroller" 80 "RunProver$Unroller" "on" "I", .fieldLink "RunProver$Unroller" 83 "RunProver$Unroller" "inputCount" "I", .fieldLink "RunProver$Unroller" 86 "RunProver$Unroller" "bitCount" "I", .code yUn_begin cUn_begin 1 none, .methodLink "RunProver" 132 yUn_begin, .instanceMethod yUn_begin, .selects "RunProver$Unroller" yUn_begin yUn_begin, .fieldLink "RunProver" 135 "RunProver$Program" "first" "I", .code yUn_walk cUn_walk 6 none, .instanceMethod yUn_walk, .selects "RunProver$Unroller" yUn_walk yUn_walk, .constant "RunProver" 82 65516, .code yRp_store cRp_store 3 none, .methodLink "RunProver" 90 yRp_store, .instanceMethod yRp_store, .selects "RunProver" yRp_store yRp_store, .initialized "RunProver"]
def wa : List Cond := wa0 ++ (wa1 ++ (wa2 ++ (wa3 ++ (wa4 ++ (wa5 ++ (wa6 ++ (wa7 ++ (wa8 ++ (wa9 ++ (wa10 ++ (wa11 ++ (wa12 ++ (wa13)))))))))))))
theorem wbm0 {w : Cond} (i : Nat) (h : wa0[i]? = some w) : w ∈ wa := by unfold wa; exact List.mem_append_left _ (List.mem_of_getElem? h)
theorem wam0 {c0 w : Cond} (i : Nat) (h : wa0[i]? = some w) : w ∈ c0 :: wa := List.mem_cons_of_mem _ (wbm0 i h)
theorem wag0 : wa0.all goodWord = true := by decide +kernel
theorem wbm1 {w : Cond} (i : Nat) (h : wa1[i]? = some w) : w ∈ wa := by unfold wa; exact List.mem_append_right _ (List.mem_append_left _ (List.mem_of_getElem? h))
theorem wam1 {c0 w : Cond} (i : Nat) (h : wa1[i]? = some w) : w ∈ c0 :: wa := List.mem_cons_of_mem _ (wbm1 i h)
theorem wag1 : wa1.all goodWord = true := by decide +kernel
theorem wbm2 {w : Cond} (i : Nat) (h : wa2[i]? = some w) : w ∈ wa := by unfold wa; exact List.mem_append_right _ (List.mem_append_right _ (List.mem_append_left _ (List.mem_of_getElem? h)))
theorem wam2 {c0 w : Cond} (i : Nat) (h : wa2[i]? = some w) : w ∈ c0 :: wa := List.mem_cons_of_mem _ (wbm2 i h)
theorem wag2 : wa2.all goodWord = true := by decide +kernel
theorem wbm3 {w : Cond} (i : Nat) (h : wa3[i]? = some w) : w ∈ wa := by unfold wa; exact List.mem_append_right _ (List.mem_append_right _ (List.mem_append_right _ (List.mem_append_left _ (List.mem_of_getElem? h))))
theorem wam3 {c0 w : Cond} (i : Nat) (h : wa3[i]? = some w) : w ∈ c0 :: wa := List.mem_cons_of_mem _ (wbm3 i h)
theorem wag3 : wa3.all goodWord = true := by decide +kernel
theorem wbm4 {w : Cond} (i : Nat) (h : wa4[i]? = some w) : w ∈ wa := by unfold wa; exact List.mem_append_right _ (List.mem_append_right _ (List.mem_append_right _ (List.mem_append_right _ (List.mem_append_left _ (List.mem_of_getElem? h)))))
theorem wam4 {c0 w : Cond} (i : Nat) (h : wa4[i]? = some w) : w ∈ c0 :: wa := List.mem_cons_of_mem _ (wbm4 i h)
theorem wag4 : wa4.all goodWord = true := by decide +kernel
theorem wbm5 {w : Cond} (i : Nat) (h : wa5[i]? = some w) : w ∈ wa := by unfold wa; exact List.mem_append_right _ (List.mem_append_right _ (List.mem_append_right _ (List.mem_append_right _ (List.mem_append_right _ (List.mem_append_left _ (List.mem_of_getElem? h))))))
theorem wam5 {c0 w : Cond} (i : Nat) (h : wa5[i]? = some w) : w ∈ c0 :: wa := List.mem_cons_of_mem _ (wbm5 i h)
theorem wag5 : wa5.all goodWord = true := by decide +kernel
theorem wbm6 {w : Cond} (i : Nat) (h : wa6[i]? = some w) : w ∈ wa := by unfold wa; exact List.mem_append_right _ (List.mem_append_right _ (List.mem_append_right _ (List.mem_append_right _ (List.mem_append_right _ (List.mem_append_right _ (List.mem_append_left _ (List.mem_of_getElem? h)))))))
theorem wam6 {c0 w : Cond} (i : Nat) (h : wa6[i]? = some w) : w ∈ c0 :: wa := List.mem_cons_of_mem _ (wbm6 i h)
theorem wag6 : wa6.all goodWord = true := by decide +kernel
theorem wbm7 {w : Cond} (i : Nat) (h : wa7[i]? = some w) : w ∈ wa := by unfold wa; exact List.mem_append_right _ (List.mem_append_right _ (List.mem_append_right _ (List.mem_append_right _ (List.mem_append_right _ (List.mem_append_right _ (List.mem_append_right _ (List.mem_append_left _ (List.mem_of_getElem? h))))))))
theorem wam7 {c0 w : Cond} (i : Nat) (h : wa7[i]? = some w) : w ∈ c0 :: wa := List.mem_cons_of_mem _ (wbm7 i h)
theorem wag7 : wa7.all goodWord = true := by decide +kernel
theorem wbm8 {w : Cond} (i : Nat) (h : wa8[i]? = some w) : w ∈ wa := by unfold wa; exact List.mem_append_right _ (List.mem_append_right _ (List.mem_append_right _ (List.mem_append_right _ (List.mem_append_right _ (List.mem_append_right _ (List.mem_append_right _ (List.mem_append_right _ (List.mem_append_left _ (List.mem_of_getElem? h)))))))))
theorem wam8 {c0 w : Cond} (i : Nat) (h : wa8[i]? = some w) : w ∈ c0 :: wa := List.mem_cons_of_mem _ (wbm8 i h)
theorem wag8 : wa8.all goodWord = true := by decide +kernel
theorem wbm9 {w : Cond} (i : Nat) (h : wa9[i]? = some w) : w ∈ wa := by unfold wa; exact List.mem_append_right _ (List.mem_append_right _ (List.mem_append_right _ (List.mem_append_right _ (List.mem_append_right _ (List.mem_append_right _ (List.mem_append_right _ (List.mem_append_right _ (List.mem_append_right _ (List.mem_append_left _ (List.mem_of_getElem? h))))))))))
theorem wam9 {c0 w : Cond} (i : Nat) (h : wa9[i]? = some w) : w ∈ c0 :: wa := List.mem_cons_of_mem _ (wbm9 i h)
theorem wag9 : wa9.all goodWord = true := by decide +kernel
theorem wbm10 {w : Cond} (i : Nat) (h : wa10[i]? = some w) : w ∈ wa := by unfold wa; exact List.mem_append_right _ (List.mem_append_right _ (List.mem_append_right _ (List.mem_append_right _ (List.mem_append_right _ (List.mem_append_right _ (List.mem_append_right _ (List.mem_append_right _ (List.mem_append_right _ (List.mem_append_right _ (List.mem_append_left _ (List.mem_of_getElem? h)))))))))))
theorem wam10 {c0 w : Cond} (i : Nat) (h : wa10[i]? = some w) : w ∈ c0 :: wa := List.mem_cons_of_mem _ (wbm10 i h)
theorem wag10 : wa10.all goodWord = true := by decide +kernel
theorem wbm11 {w : Cond} (i : Nat) (h : wa11[i]? = some w) : w ∈ wa := by unfold wa; exact List.mem_append_right _ (List.mem_append_right _ (List.mem_append_right _ (List.mem_append_right _ (List.mem_append_right _ (List.mem_append_right _ (List.mem_append_right _ (List.mem_append_right _ (List.mem_append_right _ (List.mem_append_right _ (List.mem_append_right _ (List.mem_append_left _ (List.mem_of_getElem? h))))))))))))
theorem wam11 {c0 w : Cond} (i : Nat) (h : wa11[i]? = some w) : w ∈ c0 :: wa := List.mem_cons_of_mem _ (wbm11 i h)
theorem wag11 : wa11.all goodWord = true := by decide +kernel
theorem wbm12 {w : Cond} (i : Nat) (h : wa12[i]? = some w) : w ∈ wa := by unfold wa; exact List.mem_append_right _ (List.mem_append_right _ (List.mem_append_right _ (List.mem_append_right _ (List.mem_append_right _ (List.mem_append_right _ (List.mem_append_right _ (List.mem_append_right _ (List.mem_append_right _ (List.mem_append_right _ (List.mem_append_right _ (List.mem_append_right _ (List.mem_append_left _ (List.mem_of_getElem? h)))))))))))))
theorem wam12 {c0 w : Cond} (i : Nat) (h : wa12[i]? = some w) : w ∈ c0 :: wa := List.mem_cons_of_mem _ (wbm12 i h)
theorem wag12 : wa12.all goodWord = true := by decide +kernel
theorem wbm13 {w : Cond} (i : Nat) (h : wa13[i]? = some w) : w ∈ wa := by unfold wa; exact List.mem_append_right _ (List.mem_append_right _ (List.mem_append_right _ (List.mem_append_right _ (List.mem_append_right _ (List.mem_append_right _ (List.mem_append_right _ (List.mem_append_right _ (List.mem_append_right _ (List.mem_append_right _ (List.mem_append_right _ (List.mem_append_right _ (List.mem_append_right _ (List.mem_of_getElem? h)))))))))))))
theorem wam13 {c0 w : Cond} (i : Nat) (h : wa13[i]? = some w) : w ∈ c0 :: wa := List.mem_cons_of_mem _ (wbm13 i h)
theorem wag13 : wa13.all goodWord = true := by decide +kernel
theorem wa_good : ∀ w ∈ wa, (w.onTables && w.keeps) = true ∨ ∃ ty, w = .arrayClass ty := by
  intro w h
  unfold wa at h
  simp only [List.mem_append] at h
  rcases h with h | h | h | h | h | h | h | h | h | h | h | h | h | h
  · exact good_of_word (List.all_eq_true.mp wag0 w h)
  · exact good_of_word (List.all_eq_true.mp wag1 w h)
  · exact good_of_word (List.all_eq_true.mp wag2 w h)
  · exact good_of_word (List.all_eq_true.mp wag3 w h)
  · exact good_of_word (List.all_eq_true.mp wag4 w h)
  · exact good_of_word (List.all_eq_true.mp wag5 w h)
  · exact good_of_word (List.all_eq_true.mp wag6 w h)
  · exact good_of_word (List.all_eq_true.mp wag7 w h)
  · exact good_of_word (List.all_eq_true.mp wag8 w h)
  · exact good_of_word (List.all_eq_true.mp wag9 w h)
  · exact good_of_word (List.all_eq_true.mp wag10 w h)
  · exact good_of_word (List.all_eq_true.mp wag11 w h)
  · exact good_of_word (List.all_eq_true.mp wag12 w h)
  · exact good_of_word (List.all_eq_true.mp wag13 w h)
theorem gI {c0 : Cond} {y : MethodName} {cy : ByteArray} {n : Nat} {r : Option FieldType} (h : Cond.code y cy n r ∈ wa) : GoodIn (c0 :: wa) (Cond.code y cy n r :: wa) := by
  intro w hw
  rcases List.mem_cons.mp hw with rfl | hw
  · exact ⟨List.mem_cons_of_mem _ h, wa_good _ h⟩
  · exact ⟨List.mem_cons_of_mem _ hw, wa_good _ hw⟩
theorem gV {c0 : Cond} {own C : String} {idx : Nat} {y : MethodName} {cy : ByteArray} {n : Nat} {r : Option FieldType} (h1 : Cond.methodLink own idx y ∈ wa) (h2 : Cond.instanceMethod y ∈ wa) (h3 : Cond.selects C y y ∈ wa) (h4 : Cond.initialized C ∈ wa) (h : Cond.code y cy n r ∈ wa) : GoodIn (c0 :: wa) (wsV own idx C y (Cond.code y cy n r :: wa)) := by
  intro w hw
  unfold wsV at hw
  rcases List.mem_append.mp hw with hw | hw
  · have h9 : w ∈ wa := by
      simp only [List.mem_cons, List.not_mem_nil, or_false] at hw
      rcases hw with rfl | rfl | rfl | rfl <;> assumption
    exact ⟨List.mem_cons_of_mem _ h9, wa_good _ h9⟩
  · exact gI h w hw
theorem gS {c0 : Cond} {own : String} {idx : Nat} {y : MethodName} {cy : ByteArray} {n : Nat} {r : Option FieldType} (h1 : Cond.methodLink own idx y ∈ wa) (h2 : Cond.static y ∈ wa) (h4 : Cond.initialized y.cls ∈ wa) (h : Cond.code y cy n r ∈ wa) : GoodIn (c0 :: wa) (va_wsS own idx y (Cond.code y cy n r :: wa)) := by
  intro w hw
  unfold va_wsS at hw
  rcases List.mem_append.mp hw with hw | hw
  · have h9 : w ∈ wa := by
      simp only [List.mem_cons, List.not_mem_nil, or_false] at hw
      rcases hw with rfl | rfl | rfl <;> assumption
    exact ⟨List.mem_cons_of_mem _ h9, wa_good _ h9⟩
  · exact gI h w hw
theorem inRp (c0 : Cond) : ∀ w ∈ u_ws "RunProver" TRp 16, w ∈ c0 :: wa := by
  intro w h
  obtain ⟨k, hk, rfl⟩ := List.mem_map.mp h
  have hk := List.mem_range.mp hk
  rcases (show k = 0 ∨ k = 1 ∨ k = 2 ∨ k = 3 ∨ k = 4 ∨ k = 5 ∨ k = 6 ∨ k = 7 ∨ k = 8 ∨ k = 9 ∨ k = 10 ∨ k = 11 ∨ k = 12 ∨ k = 13 ∨ k = 14 ∨ k = 15 by omega) with rfl | rfl | rfl | rfl | rfl | rfl | rfl | rfl | rfl | rfl | rfl | rfl | rfl | rfl | rfl | rfl
  · exact (wam5 31 rfl)
  · exact (wam5 32 rfl)
  · exact (wam5 33 rfl)
  · exact (wam5 34 rfl)
  · exact (wam5 35 rfl)
  · exact (wam5 36 rfl)
  · exact (wam5 37 rfl)
  · exact (wam5 38 rfl)
  · exact (wam5 39 rfl)
  · exact (wam6 0 rfl)
  · exact (wam6 1 rfl)
  · exact (wam6 2 rfl)
  · exact (wam6 3 rfl)
  · exact (wam6 4 rfl)
  · exact (wam6 5 rfl)
  · exact (wam6 6 rfl)
theorem inPg (c0 : Cond) : ∀ w ∈ u_ws "RunProver$Program" TPg 17, w ∈ c0 :: wa := by
  intro w h
  obtain ⟨k, hk, rfl⟩ := List.mem_map.mp h
  have hk := List.mem_range.mp hk
  rcases (show k = 0 ∨ k = 1 ∨ k = 2 ∨ k = 3 ∨ k = 4 ∨ k = 5 ∨ k = 6 ∨ k = 7 ∨ k = 8 ∨ k = 9 ∨ k = 10 ∨ k = 11 ∨ k = 12 ∨ k = 13 ∨ k = 14 ∨ k = 15 ∨ k = 16 by omega) with rfl | rfl | rfl | rfl | rfl | rfl | rfl | rfl | rfl | rfl | rfl | rfl | rfl | rfl | rfl | rfl | rfl
  · exact (wam6 7 rfl)
  · exact (wam6 8 rfl)
  · exact (wam6 9 rfl)
  · exact (wam6 10 rfl)
  · exact (wam6 11 rfl)
  · exact (wam6 12 rfl)
  · exact (wam6 13 rfl)
  · exact (wam6 14 rfl)
  · exact (wam6 15 rfl)
  · exact (wam6 16 rfl)
  · exact (wam6 17 rfl)
  · exact (wam6 18 rfl)
  · exact (wam6 19 rfl)
  · exact (wam6 20 rfl)
  · exact (wam6 21 rfl)
  · exact (wam6 22 rfl)
  · exact (wam6 23 rfl)
theorem inPa (c0 : Cond) : ∀ w ∈ u_ws "RunProver$Parser" TPa 5, w ∈ c0 :: wa := by
  intro w h
  obtain ⟨k, hk, rfl⟩ := List.mem_map.mp h
  have hk := List.mem_range.mp hk
  rcases (show k = 0 ∨ k = 1 ∨ k = 2 ∨ k = 3 ∨ k = 4 by omega) with rfl | rfl | rfl | rfl | rfl
  · exact (wam6 24 rfl)
  · exact (wam6 25 rfl)
  · exact (wam6 26 rfl)
  · exact (wam6 27 rfl)
  · exact (wam6 28 rfl)
theorem inNm (c0 : Cond) : ∀ w ∈ u_ws "RunProver$Names" TNm 5, w ∈ c0 :: wa := by
  intro w h
  obtain ⟨k, hk, rfl⟩ := List.mem_map.mp h
  have hk := List.mem_range.mp hk
  rcases (show k = 0 ∨ k = 1 ∨ k = 2 ∨ k = 3 ∨ k = 4 by omega) with rfl | rfl | rfl | rfl | rfl
  · exact (wam6 29 rfl)
  · exact (wam6 30 rfl)
  · exact (wam6 31 rfl)
  · exact (wam6 32 rfl)
  · exact (wam6 33 rfl)
theorem inTk (c0 : Cond) : ∀ w ∈ u_ws "RunProver$Tokens" TTk 12, w ∈ c0 :: wa := by
  intro w h
  obtain ⟨k, hk, rfl⟩ := List.mem_map.mp h
  have hk := List.mem_range.mp hk
  rcases (show k = 0 ∨ k = 1 ∨ k = 2 ∨ k = 3 ∨ k = 4 ∨ k = 5 ∨ k = 6 ∨ k = 7 ∨ k = 8 ∨ k = 9 ∨ k = 10 ∨ k = 11 by omega) with rfl | rfl | rfl | rfl | rfl | rfl | rfl | rfl | rfl | rfl | rfl | rfl
  · exact (wam6 34 rfl)
  · exact (wam6 35 rfl)
  · exact (wam6 36 rfl)
  · exact (wam6 37 rfl)
  · exact (wam6 38 rfl)
  · exact (wam6 39 rfl)
  · exact (wam7 0 rfl)
  · exact (wam7 1 rfl)
  · exact (wam7 2 rfl)
  · exact (wam7 3 rfl)
  · exact (wam7 4 rfl)
  · exact (wam7 5 rfl)
theorem inEx (c0 : Cond) : ∀ w ∈ u_ws "RunProver$Expressions" TEx 9, w ∈ c0 :: wa := by
  intro w h
  obtain ⟨k, hk, rfl⟩ := List.mem_map.mp h
  have hk := List.mem_range.mp hk
  rcases (show k = 0 ∨ k = 1 ∨ k = 2 ∨ k = 3 ∨ k = 4 ∨ k = 5 ∨ k = 6 ∨ k = 7 ∨ k = 8 by omega) with rfl | rfl | rfl | rfl | rfl | rfl | rfl | rfl | rfl
  · exact (wam7 6 rfl)
  · exact (wam7 7 rfl)
  · exact (wam7 8 rfl)
  · exact (wam7 9 rfl)
  · exact (wam7 10 rfl)
  · exact (wam7 11 rfl)
  · exact (wam7 12 rfl)
  · exact (wam7 13 rfl)
  · exact (wam7 14 rfl)
theorem inGa (c0 : Cond) : ∀ w ∈ u_ws "RunProver$Gates" TGa 9, w ∈ c0 :: wa := by
  intro w h
  obtain ⟨k, hk, rfl⟩ := List.mem_map.mp h
  have hk := List.mem_range.mp hk
  rcases (show k = 0 ∨ k = 1 ∨ k = 2 ∨ k = 3 ∨ k = 4 ∨ k = 5 ∨ k = 6 ∨ k = 7 ∨ k = 8 by omega) with rfl | rfl | rfl | rfl | rfl | rfl | rfl | rfl | rfl
  · exact (wam7 15 rfl)
  · exact (wam7 16 rfl)
  · exact (wam7 17 rfl)
  · exact (wam7 18 rfl)
  · exact (wam7 19 rfl)
  · exact (wam7 20 rfl)
  · exact (wam7 21 rfl)
  · exact (wam7 22 rfl)
  · exact (wam7 23 rfl)
theorem inUn (c0 : Cond) : ∀ w ∈ u_ws "RunProver$Unroller" TUn 14, w ∈ c0 :: wa := by
  intro w h
  obtain ⟨k, hk, rfl⟩ := List.mem_map.mp h
  have hk := List.mem_range.mp hk
  rcases (show k = 0 ∨ k = 1 ∨ k = 2 ∨ k = 3 ∨ k = 4 ∨ k = 5 ∨ k = 6 ∨ k = 7 ∨ k = 8 ∨ k = 9 ∨ k = 10 ∨ k = 11 ∨ k = 12 ∨ k = 13 by omega) with rfl | rfl | rfl | rfl | rfl | rfl | rfl | rfl | rfl | rfl | rfl | rfl | rfl | rfl
  · exact (wam7 24 rfl)
  · exact (wam7 25 rfl)
  · exact (wam7 26 rfl)
  · exact (wam7 27 rfl)
  · exact (wam7 28 rfl)
  · exact (wam7 29 rfl)
  · exact (wam7 30 rfl)
  · exact (wam7 31 rfl)
  · exact (wam7 32 rfl)
  · exact (wam7 33 rfl)
  · exact (wam7 34 rfl)
  · exact (wam7 35 rfl)
  · exact (wam7 36 rfl)
  · exact (wam7 37 rfl)
theorem inWo (c0 : Cond) : ∀ w ∈ u_ws "RunProver$Words" TWo 7, w ∈ c0 :: wa := by
  intro w h
  obtain ⟨k, hk, rfl⟩ := List.mem_map.mp h
  have hk := List.mem_range.mp hk
  rcases (show k = 0 ∨ k = 1 ∨ k = 2 ∨ k = 3 ∨ k = 4 ∨ k = 5 ∨ k = 6 by omega) with rfl | rfl | rfl | rfl | rfl | rfl | rfl
  · exact (wam7 38 rfl)
  · exact (wam7 39 rfl)
  · exact (wam8 0 rfl)
  · exact (wam8 1 rfl)
  · exact (wam8 2 rfl)
  · exact (wam8 3 rfl)
  · exact (wam8 4 rfl)
theorem inCl (c0 : Cond) : ∀ w ∈ u_ws "RunProver$Clauses" TCl 4, w ∈ c0 :: wa := by
  intro w h
  obtain ⟨k, hk, rfl⟩ := List.mem_map.mp h
  have hk := List.mem_range.mp hk
  rcases (show k = 0 ∨ k = 1 ∨ k = 2 ∨ k = 3 by omega) with rfl | rfl | rfl | rfl
  · exact (wam8 5 rfl)
  · exact (wam8 6 rfl)
  · exact (wam8 7 rfl)
  · exact (wam8 8 rfl)
theorem inCk (c0 : Cond) : ∀ w ∈ u_ws "RunProver$Checker" TCk 6, w ∈ c0 :: wa := by
  intro w h
  obtain ⟨k, hk, rfl⟩ := List.mem_map.mp h
  have hk := List.mem_range.mp hk
  rcases (show k = 0 ∨ k = 1 ∨ k = 2 ∨ k = 3 ∨ k = 4 ∨ k = 5 by omega) with rfl | rfl | rfl | rfl | rfl | rfl
  · exact (wam8 9 rfl)
  · exact (wam8 10 rfl)
  · exact (wam8 11 rfl)
  · exact (wam8 12 rfl)
  · exact (wam8 13 rfl)
  · exact (wam8 14 rfl)
theorem inSe (c0 : Cond) : ∀ w ∈ u_ws "RunProver$Search" TSe 21, w ∈ c0 :: wa := by
  intro w h
  obtain ⟨k, hk, rfl⟩ := List.mem_map.mp h
  have hk := List.mem_range.mp hk
  rcases (show k = 0 ∨ k = 1 ∨ k = 2 ∨ k = 3 ∨ k = 4 ∨ k = 5 ∨ k = 6 ∨ k = 7 ∨ k = 8 ∨ k = 9 ∨ k = 10 ∨ k = 11 ∨ k = 12 ∨ k = 13 ∨ k = 14 ∨ k = 15 ∨ k = 16 ∨ k = 17 ∨ k = 18 ∨ k = 19 ∨ k = 20 by omega) with rfl | rfl | rfl | rfl | rfl | rfl | rfl | rfl | rfl | rfl | rfl | rfl | rfl | rfl | rfl | rfl | rfl | rfl | rfl | rfl | rfl
  · exact (wam8 15 rfl)
  · exact (wam8 16 rfl)
  · exact (wam8 17 rfl)
  · exact (wam8 18 rfl)
  · exact (wam8 19 rfl)
  · exact (wam8 20 rfl)
  · exact (wam8 21 rfl)
  · exact (wam8 22 rfl)
  · exact (wam8 23 rfl)
  · exact (wam8 24 rfl)
  · exact (wam8 25 rfl)
  · exact (wam8 26 rfl)
  · exact (wam8 27 rfl)
  · exact (wam8 28 rfl)
  · exact (wam8 29 rfl)
  · exact (wam8 30 rfl)
  · exact (wam8 31 rfl)
  · exact (wam8 32 rfl)
  · exact (wam8 33 rfl)
  · exact (wam8 34 rfl)
  · exact (wam8 35 rfl)
theorem inMo (c0 : Cond) : ∀ w ∈ u_ws "RunProverModel" TMo 56, w ∈ c0 :: wa := by
  intro w h
  obtain ⟨k, hk, rfl⟩ := List.mem_map.mp h
  have hk := List.mem_range.mp hk
  rcases (show k = 0 ∨ k = 1 ∨ k = 2 ∨ k = 3 ∨ k = 4 ∨ k = 5 ∨ k = 6 ∨ k = 7 ∨ k = 8 ∨ k = 9 ∨ k = 10 ∨ k = 11 ∨ k = 12 ∨ k = 13 ∨ k = 14 ∨ k = 15 ∨ k = 16 ∨ k = 17 ∨ k = 18 ∨ k = 19 ∨ k = 20 ∨ k = 21 ∨ k = 22 ∨ k = 23 ∨ k = 24 ∨ k = 25 ∨ k = 26 ∨ k = 27 ∨ k = 28 ∨ k = 29 ∨ k = 30 ∨ k = 31 ∨ k = 32 ∨ k = 33 ∨ k = 34 ∨ k = 35 ∨ k = 36 ∨ k = 37 ∨ k = 38 ∨ k = 39 ∨ k = 40 ∨ k = 41 ∨ k = 42 ∨ k = 43 ∨ k = 44 ∨ k = 45 ∨ k = 46 ∨ k = 47 ∨ k = 48 ∨ k = 49 ∨ k = 50 ∨ k = 51 ∨ k = 52 ∨ k = 53 ∨ k = 54 ∨ k = 55 by omega) with rfl | rfl | rfl | rfl | rfl | rfl | rfl | rfl | rfl | rfl | rfl | rfl | rfl | rfl | rfl | rfl | rfl | rfl | rfl | rfl | rfl | rfl | rfl | rfl | rfl | rfl | rfl | rfl | rfl | rfl | rfl | rfl | rfl | rfl | rfl | rfl | rfl | rfl | rfl | rfl | rfl | rfl | rfl | rfl | rfl | rfl | rfl | rfl | rfl | rfl | rfl | rfl | rfl | rfl | rfl | rfl
  · exact (wam8 36 rfl)
  · exact (wam8 37 rfl)
  · exact (wam8 38 rfl)
  · exact (wam8 39 rfl)
  · exact (wam9 0 rfl)
  · exact (wam9 1 rfl)
  · exact (wam9 2 rfl)
  · exact (wam9 3 rfl)
  · exact (wam9 4 rfl)
  · exact (wam9 5 rfl)
  · exact (wam9 6 rfl)
  · exact (wam9 7 rfl)
  · exact (wam9 8 rfl)
  · exact (wam9 9 rfl)
  · exact (wam9 10 rfl)
  · exact (wam9 11 rfl)
  · exact (wam9 12 rfl)
  · exact (wam9 13 rfl)
  · exact (wam9 14 rfl)
  · exact (wam9 15 rfl)
  · exact (wam9 16 rfl)
  · exact (wam9 17 rfl)
  · exact (wam9 18 rfl)
  · exact (wam9 19 rfl)
  · exact (wam9 20 rfl)
  · exact (wam9 21 rfl)
  · exact (wam9 22 rfl)
  · exact (wam9 23 rfl)
  · exact (wam9 24 rfl)
  · exact (wam9 25 rfl)
  · exact (wam9 26 rfl)
  · exact (wam9 27 rfl)
  · exact (wam9 28 rfl)
  · exact (wam9 29 rfl)
  · exact (wam9 30 rfl)
  · exact (wam9 31 rfl)
  · exact (wam9 32 rfl)
  · exact (wam9 33 rfl)
  · exact (wam9 34 rfl)
  · exact (wam9 35 rfl)
  · exact (wam9 36 rfl)
  · exact (wam9 37 rfl)
  · exact (wam9 38 rfl)
  · exact (wam9 39 rfl)
  · exact (wam10 0 rfl)
  · exact (wam10 1 rfl)
  · exact (wam10 2 rfl)
  · exact (wam10 3 rfl)
  · exact (wam10 4 rfl)
  · exact (wam10 5 rfl)
  · exact (wam10 6 rfl)
  · exact (wam10 7 rfl)
  · exact (wam10 8 rfl)
  · exact (wam10 9 rfl)
  · exact (wam10 10 rfl)
  · exact (wam10 11 rfl)
abbrev wsRp_init : List Cond := .code yRp_init cRp_init 1 none :: wa
abbrev wsPg_init : List Cond := .code yPg_init cPg_init 1 none :: wa
abbrev wsPa_init : List Cond := .code yPa_init cPa_init 3 none :: wa
abbrev wsNm_init : List Cond := .code yNm_init cNm_init 1 none :: wa
abbrev wsTk_init : List Cond := .code yTk_init cTk_init 2 none :: wa
abbrev wsEx_init : List Cond := .code yEx_init cEx_init 4 none :: wa
abbrev wsGa_init : List Cond := .code yGa_init cGa_init 1 none :: wa
abbrev wsUn_init : List Cond := .code yUn_init cUn_init 3 none :: wa
abbrev wsWo_init : List Cond := .code yWo_init cWo_init 2 none :: wa
abbrev wsCl_init : List Cond := .code yCl_init cCl_init 1 none :: wa
abbrev wsCk_init : List Cond := .code yCk_init cCk_init 2 none :: wa
abbrev wsSe_init : List Cond := .code ySe_init cSe_init 3 none :: wa
abbrev wsMo_init : List Cond := .code yMo_init cMo_init 1 none :: wa
abbrev wsRp_read : List Cond := .code yRp_read cRp_read 1 (some .int) :: wa
abbrev wsAr_fill : List Cond := .code yAr_fill cAr_fill 4 none :: wa
abbrev wsPa_parse : List Cond := .code yPa_parse cPa_parse 2 none :: wa
abbrev wsPg_clear : List Cond := .code yPg_clear cPg_clear 1 none :: wa
abbrev wsEx_begin : List Cond := .code yEx_begin cEx_begin 1 none :: wa
abbrev wsTk_begin : List Cond := .code yTk_begin cTk_begin 3 none :: wa
abbrev wsTk_behindBlanks : List Cond := .code yTk_behindBlanks cTk_behindBlanks 5 (some .int) :: wa
abbrev wsTk_advance : List Cond := .code yTk_advance cTk_advance 1 none :: wa
abbrev wsTk_take : List Cond := .code yTk_take cTk_take 2 none :: wa
abbrev wsTk_misfit : List Cond := .code yTk_misfit cTk_misfit 1 (some .int) :: wa
abbrev wsTk_fail : List Cond := .code yTk_fail cTk_fail 3 none :: wa
abbrev wsTk_takeNumber : List Cond := .code yTk_takeNumber cTk_takeNumber 4 (some .int) :: wa
abbrev wsPa_declarations : List Cond := .code yPa_declarations cPa_declarations 2 none :: wa
abbrev wsPa_statements : List Cond := .code yPa_statements cPa_statements 6 (some .int) :: wa
abbrev wsTk_tooDeep : List Cond := .code yTk_tooDeep cTk_tooDeep 2 (some .boolean) :: wa
abbrev wsPa_goesOn : List Cond := .code yPa_goesOn cPa_goesOn 1 (some .boolean) :: wa
abbrev wsTk_refuse : List Cond := .code yTk_refuse cTk_refuse 1 none :: wa
abbrev wsUn_begin : List Cond := .code yUn_begin cUn_begin 1 none :: wa
abbrev wsGa_clear : List Cond := .code yGa_clear cGa_clear 1 none :: wa
abbrev wsWo_begin : List Cond := .code yWo_begin cWo_begin 2 none :: wa
abbrev wsAr_fill2 : List Cond := .code yAr_fill2 cAr_fill2 5 none :: wa
abbrev wsAr_rangeCheck : List Cond := .code yAr_rangeCheck cAr_rangeCheck 3 none :: wa
abbrev wsUn_walk : List Cond := .code yUn_walk cUn_walk 6 none :: wa
abbrev wsRp_prove : List Cond := .code yRp_prove cRp_prove 2 (some .int) :: wa
abbrev wsRp_run : List Cond := .code yRp_run cRp_run 2 (some .int) :: wa
abbrev wsRp_doubts : List Cond := .code yRp_doubts cRp_doubts 1 (some .int) :: wa
abbrev wsRp_feed : List Cond := .code yRp_feed cRp_feed 6 (some .int) :: wa
abbrev wsRp_store : List Cond := .code yRp_store cRp_store 3 none :: wa
